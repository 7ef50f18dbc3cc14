theorem rng0 (b : Nat → Nat) : rng b (fun _ => 0) := fun j => ⟨0, Nat.zero_le _, rfl⟩

set_option maxHeartbeats 4000000 in
set_option maxRecDepth 100000 in
theorem s_X6_init (l : Launch) (D : va_G) (k : Nat → ClassId) (z : Nat) (M : mM) (mo : Nat) (ho : M mo = some (.inr (6, [.int 0, .null, .null, .null, .null, .null, .null, .int 0, .null, .null, .null, .int 0, .int 0, .int 0, .int 0, .int 0, .null, .null, .null, .null, .null, .null, .int 0, .int 0]))) : mK l yX6_init wsX6_init ({ frames := 1, cells := 15, slots := 400000, locals := 12 }) D k z [.ref mo] M (fun v M' => v = none ∧ kpx (fun a => a = mo) M M' ∧ ∃ cn ia dr en la wo op mk ir se ec lc wc ol al, mI k M' mo cn ia dr en la wo op mk ir se ec lc wc ol al 0 0 ∧ ∀ a ∈ [cn, ia, dr, en, la, wo, op, mk, ir, se, ec, lc, wc, ol, al], M a = none) := by
  refine Met.ofW (cc := cX6_init) (maxL := 1) (ret := none) (by decide) rfl ?_
  intro p e s m args below meth c s₁ B hml hv
  obtain ⟨rfl, hz, hcx, hm⟩ := hv
  have hx := B.exec
  have hb := B.bytes
  have hr := B.returns
  have hts := atoms_spec (ws := wsX6_init) B.pre
  have hown : s.vm.findClass RX6 = some m.cls := findClass_of_methodNamed B.named
  have hlocks := B.notSynchronized
  have hK := hcx.1
  have hS : va_S (AZ z) s.heap s.heap [] := va_S.rf
  have hA : ∀ q, s.heap.size ≤ q → AZ z q := fun q h => Nat.le_trans hz h
  have hin : meth.name = "<init>" := (name_of_methodNamed B.named B.method).1
  have hl := lv_entry ([.ref mo]) (n := 1) (Nat.le_of_ble_eq_true rfl)
  rw [lg_entry_eq]
  generalize (lg_sl ([.ref mo]) ++ List.replicate (1 - (lg_sl ([.ref mo])).length) Slot.unset).toArray = ls at hl ⊢
  have hl : lv_has ls 1 [(0, .ref mo)] := hl
  have f7 := hts (.fieldLink RX6 7 "CommitTreeModel" "counts" "[I") (by decide +kernel)
  have f13 := hts (.fieldLink RX6 13 "CommitTreeModel" "ids" "[I") (by decide +kernel)
  have f16 := hts (.fieldLink RX6 16 "CommitTreeModel" "dirs" "[Z") (by decide +kernel)
  have f21 := hts (.fieldLink RX6 21 "CommitTreeModel" "entries" "[I") (by decide +kernel)
  have f24 := hts (.fieldLink RX6 24 "CommitTreeModel" "lengths" "[I") (by decide +kernel)
  have f28 := hts (.fieldLink RX6 28 "CommitTreeModel" "words" "[I") (by decide +kernel)
  have f31 := hts (.fieldLink RX6 31 "CommitTreeModel" "nextId" "I") (by decide +kernel)
  have f35 := hts (.fieldLink RX6 35 "CommitTreeModel" "open" "[Z") (by decide +kernel)
  have f38 := hts (.fieldLink RX6 38 "CommitTreeModel" "marks" "[I") (by decide +kernel)
  have f42 := hts (.fieldLink RX6 42 "CommitTreeModel" "isRead" "[Z") (by decide +kernel)
  have f45 := hts (.fieldLink RX6 45 "CommitTreeModel" "power" "I") (by decide +kernel)
  have f48 := hts (.fieldLink RX6 48 "CommitTreeModel" "self" "[Z") (by decide +kernel)
  have f51 := hts (.fieldLink RX6 51 "CommitTreeModel" "entryComes" "[I") (by decide +kernel)
  have f54 := hts (.fieldLink RX6 54 "CommitTreeModel" "lengthComes" "[Z") (by decide +kernel)
  have f57 := hts (.fieldLink RX6 57 "CommitTreeModel" "wordComes" "[J") (by decide +kernel)
  have f61 := hts (.fieldLink RX6 61 "CommitTreeModel" "oldLength" "[I") (by decide +kernel)
  have f64 := hts (.fieldLink RX6 64 "CommitTreeModel" "alive" "[Z") (by decide +kernel)
  have wX6 : ∀ w ∈ wsX60, w ∈ wsX6_init := by decide +kernel
  have hkp : kpx (fun a => a = mo) M M := kpx.refl _ _
  refine lv_aload_n hx hb dX6_init_0 rfl (lv_at hl 0 rfl) ?_
  refine W.objInit hx hb hown (hts (.methodLink RX6 1 objectInit) (by decide +kernel)) (hts (.instanceMethod objectInit) (by decide +kernel)) (hts (.code objectInit ⟨#[0xb1]⟩ 1 none) (by decide +kernel)) rfl (by rw [hml]; exact hl.1) rfl dX6_init_1 (Nat.le_of_ble_eq_true rfl) (Nat.le_of_ble_eq_true rfl) ?_
  refine W.eq (g2 := F0 m 4 ls []) rfl ?_
  refine lv_aload_n hx hb dX6_init_4 rfl (lv_at hl 0 rfl) ?_
  refine lv_bipush (v := 32) hx hb dX6_init_5 (by decide) ?_
  refine m_newa (atype := .int) hx hb (hts (.arrayClass .int) (by decide +kernel)) (ty := .int) rfl (fun C h => by cases h) hK 0 rfl hm hS hA (N' := 32) (a0 := (32, .inl (fun _ => 0))) (fun cA => vp_cell_i cA _ _) (by decide) rfl (by decide) (Nat.le_of_ble_eq_true rfl) (Nat.le_of_ble_eq_true rfl) dX6_init_7 (fun cn H hcn hm hS => ?_)
  refine W.widen (k := 1) (n := 32) (Nat.le_of_ble_eq_true rfl) (Nat.le_of_ble_eq_true rfl) ?_
  have hn_cn := (hkp).no (fun h9 => absurd h9.symm (m_fr hcn ho)) hcn
  have ne_mo_cn : mo ≠ cn := m_fr hcn ho
  have ne_cn_mo : cn ≠ mo := Ne.symm ne_mo_cn
  have hm : mm D (AZ z) (mu M cn (.inl (k 0, 32, .inl (fun _ => 0)))) H := hm
  have hkp : kpx (fun a => a = mo) M (mu M cn (.inl (k 0, 32, .inl (fun _ => 0)))) := (hkp).new hcn
  have hR_mo_1 : (mu M cn (.inl (k 0, 32, .inl (fun _ => 0)))) mo = _ := ((mu_ne ne_mo_cn).trans ho)
  have hR_cn_1 : (mu M cn (.inl (k 0, 32, .inl (fun _ => 0)))) cn = _ := (mu_self _ _ _)
  generalize (mu M cn (.inl (k 0, 32, .inl (fun _ => 0)))) = Mc1 at hm hkp hR_mo_1 hR_cn_1
  refine m_putF (T := TX6) (N := 24) (ci := 6) (v := .ref cn) (ty := .array .int) hx hb hts wX6 tyX6 tyX6_ok nmX6 hown hK hm hS hR_mo_1 rfl 1 (by decide) f7 (fun _ h9 => h9) rfl hin rfl (by decide +kernel) rfl rfl (Nat.le_of_ble_eq_true rfl) dX6_init_9 (fun H locs hm hS => ?_)
  have hm : mm D (AZ z) (mu Mc1 mo (.inr (6, [.int 0, .ref cn, .null, .null, .null, .null, .null, .int 0, .null, .null, .null, .int 0, .int 0, .int 0, .int 0, .int 0, .null, .null, .null, .null, .null, .null, .int 0, .int 0]))) H := hm
  have hkp : kpx (fun a => a = mo) M (mu Mc1 mo (.inr (6, [.int 0, .ref cn, .null, .null, .null, .null, .null, .int 0, .null, .null, .null, .int 0, .int 0, .int 0, .int 0, .int 0, .null, .null, .null, .null, .null, .null, .int 0, .int 0]))) := (hkp).self rfl
  have hR_mo_2 : (mu Mc1 mo (.inr (6, [.int 0, .ref cn, .null, .null, .null, .null, .null, .int 0, .null, .null, .null, .int 0, .int 0, .int 0, .int 0, .int 0, .null, .null, .null, .null, .null, .null, .int 0, .int 0]))) mo = _ := (mu_self _ _ _)
  have hR_cn_2 : (mu Mc1 mo (.inr (6, [.int 0, .ref cn, .null, .null, .null, .null, .null, .int 0, .null, .null, .null, .int 0, .int 0, .int 0, .int 0, .int 0, .null, .null, .null, .null, .null, .null, .int 0, .int 0]))) cn = _ := ((mu_ne ne_cn_mo).trans hR_cn_1)
  generalize (mu Mc1 mo (.inr (6, [.int 0, .ref cn, .null, .null, .null, .null, .null, .int 0, .null, .null, .null, .int 0, .int 0, .int 0, .int 0, .int 0, .null, .null, .null, .null, .null, .null, .int 0, .int 0]))) = Mc2 at hm hkp hR_mo_2 hR_cn_2
  refine lv_aload_n hx hb dX6_init_12 rfl (lv_at hl 0 rfl) ?_
  refine lv_sipush (v := 3200) hx hb dX6_init_13 (by decide) ?_
  refine m_newa (atype := .int) hx hb (hts (.arrayClass .int) (by decide +kernel)) (ty := .int) rfl (fun C h => by cases h) hK 0 rfl hm hS hA (N' := 3200) (a0 := (3200, .inl (fun _ => 0))) (fun cA => vp_cell_i cA _ _) (by decide) rfl (by decide) (Nat.le_of_ble_eq_true rfl) (Nat.le_of_ble_eq_true rfl) dX6_init_16 (fun ia H hia hm hS => ?_)
  refine W.widen (k := 2) (n := 3232) (Nat.le_of_ble_eq_true rfl) (Nat.le_of_ble_eq_true rfl) ?_
  have hn_ia := (hkp).no (fun h9 => absurd h9.symm (m_fr hia hR_mo_2)) hia
  have ne_mo_ia : mo ≠ ia := m_fr hia hR_mo_2
  have ne_ia_mo : ia ≠ mo := Ne.symm ne_mo_ia
  have ne_cn_ia : cn ≠ ia := m_fr hia hR_cn_2
  have ne_ia_cn : ia ≠ cn := Ne.symm ne_cn_ia
  have hm : mm D (AZ z) (mu Mc2 ia (.inl (k 0, 3200, .inl (fun _ => 0)))) H := hm
  have hkp : kpx (fun a => a = mo) M (mu Mc2 ia (.inl (k 0, 3200, .inl (fun _ => 0)))) := (hkp).new hia
  have hR_mo_3 : (mu Mc2 ia (.inl (k 0, 3200, .inl (fun _ => 0)))) mo = _ := ((mu_ne ne_mo_ia).trans hR_mo_2)
  have hR_cn_3 : (mu Mc2 ia (.inl (k 0, 3200, .inl (fun _ => 0)))) cn = _ := ((mu_ne ne_cn_ia).trans hR_cn_2)
  have hR_ia_3 : (mu Mc2 ia (.inl (k 0, 3200, .inl (fun _ => 0)))) ia = _ := (mu_self _ _ _)
  generalize (mu Mc2 ia (.inl (k 0, 3200, .inl (fun _ => 0)))) = Mc3 at hm hkp hR_mo_3 hR_cn_3 hR_ia_3
  refine m_putF (T := TX6) (N := 24) (ci := 6) (v := .ref ia) (ty := .array .int) hx hb hts wX6 tyX6 tyX6_ok nmX6 hown hK hm hS hR_mo_3 rfl 2 (by decide) f13 (fun _ h9 => h9) rfl hin rfl (by decide +kernel) rfl rfl (Nat.le_of_ble_eq_true rfl) dX6_init_18 (fun H locs hm hS => ?_)
  have hm : mm D (AZ z) (mu Mc3 mo (.inr (6, [.int 0, .ref cn, .ref ia, .null, .null, .null, .null, .int 0, .null, .null, .null, .int 0, .int 0, .int 0, .int 0, .int 0, .null, .null, .null, .null, .null, .null, .int 0, .int 0]))) H := hm
  have hkp : kpx (fun a => a = mo) M (mu Mc3 mo (.inr (6, [.int 0, .ref cn, .ref ia, .null, .null, .null, .null, .int 0, .null, .null, .null, .int 0, .int 0, .int 0, .int 0, .int 0, .null, .null, .null, .null, .null, .null, .int 0, .int 0]))) := (hkp).self rfl
  have hR_mo_4 : (mu Mc3 mo (.inr (6, [.int 0, .ref cn, .ref ia, .null, .null, .null, .null, .int 0, .null, .null, .null, .int 0, .int 0, .int 0, .int 0, .int 0, .null, .null, .null, .null, .null, .null, .int 0, .int 0]))) mo = _ := (mu_self _ _ _)
  have hR_cn_4 : (mu Mc3 mo (.inr (6, [.int 0, .ref cn, .ref ia, .null, .null, .null, .null, .int 0, .null, .null, .null, .int 0, .int 0, .int 0, .int 0, .int 0, .null, .null, .null, .null, .null, .null, .int 0, .int 0]))) cn = _ := ((mu_ne ne_cn_mo).trans hR_cn_3)
  have hR_ia_4 : (mu Mc3 mo (.inr (6, [.int 0, .ref cn, .ref ia, .null, .null, .null, .null, .int 0, .null, .null, .null, .int 0, .int 0, .int 0, .int 0, .int 0, .null, .null, .null, .null, .null, .null, .int 0, .int 0]))) ia = _ := ((mu_ne ne_ia_mo).trans hR_ia_3)
  generalize (mu Mc3 mo (.inr (6, [.int 0, .ref cn, .ref ia, .null, .null, .null, .null, .int 0, .null, .null, .null, .int 0, .int 0, .int 0, .int 0, .int 0, .null, .null, .null, .null, .null, .null, .int 0, .int 0]))) = Mc4 at hm hkp hR_mo_4 hR_cn_4 hR_ia_4
  refine lv_aload_n hx hb dX6_init_21 rfl (lv_at hl 0 rfl) ?_
  refine lv_sipush (v := 3200) hx hb dX6_init_22 (by decide) ?_
  refine m_newa (atype := .boolean) hx hb (hts (.arrayClass .boolean) (by decide +kernel)) (ty := .boolean) rfl (fun C h => by cases h) hK 2 rfl hm hS hA (N' := 3200) (a0 := (3200, .inl (fun _ => 0))) (fun cA => vp_cell_i cA _ _) (by decide) rfl (by decide) (Nat.le_of_ble_eq_true rfl) (Nat.le_of_ble_eq_true rfl) dX6_init_25 (fun dr H hdr hm hS => ?_)
  refine W.widen (k := 3) (n := 6432) (Nat.le_of_ble_eq_true rfl) (Nat.le_of_ble_eq_true rfl) ?_
  have hn_dr := (hkp).no (fun h9 => absurd h9.symm (m_fr hdr hR_mo_4)) hdr
  have ne_mo_dr : mo ≠ dr := m_fr hdr hR_mo_4
  have ne_dr_mo : dr ≠ mo := Ne.symm ne_mo_dr
  have ne_cn_dr : cn ≠ dr := m_fr hdr hR_cn_4
  have ne_dr_cn : dr ≠ cn := Ne.symm ne_cn_dr
  have ne_ia_dr : ia ≠ dr := m_fr hdr hR_ia_4
  have ne_dr_ia : dr ≠ ia := Ne.symm ne_ia_dr
  have hm : mm D (AZ z) (mu Mc4 dr (.inl (k 2, 3200, .inl (fun _ => 0)))) H := hm
  have hkp : kpx (fun a => a = mo) M (mu Mc4 dr (.inl (k 2, 3200, .inl (fun _ => 0)))) := (hkp).new hdr
  have hR_mo_5 : (mu Mc4 dr (.inl (k 2, 3200, .inl (fun _ => 0)))) mo = _ := ((mu_ne ne_mo_dr).trans hR_mo_4)
  have hR_cn_5 : (mu Mc4 dr (.inl (k 2, 3200, .inl (fun _ => 0)))) cn = _ := ((mu_ne ne_cn_dr).trans hR_cn_4)
  have hR_ia_5 : (mu Mc4 dr (.inl (k 2, 3200, .inl (fun _ => 0)))) ia = _ := ((mu_ne ne_ia_dr).trans hR_ia_4)
  have hR_dr_5 : (mu Mc4 dr (.inl (k 2, 3200, .inl (fun _ => 0)))) dr = _ := (mu_self _ _ _)
  generalize (mu Mc4 dr (.inl (k 2, 3200, .inl (fun _ => 0)))) = Mc5 at hm hkp hR_mo_5 hR_cn_5 hR_ia_5 hR_dr_5
  refine m_putF (T := TX6) (N := 24) (ci := 6) (v := .ref dr) (ty := .array .boolean) hx hb hts wX6 tyX6 tyX6_ok nmX6 hown hK hm hS hR_mo_5 rfl 3 (by decide) f16 (fun _ h9 => h9) rfl hin rfl (by decide +kernel) rfl rfl (Nat.le_of_ble_eq_true rfl) dX6_init_27 (fun H locs hm hS => ?_)
  have hm : mm D (AZ z) (mu Mc5 mo (.inr (6, [.int 0, .ref cn, .ref ia, .ref dr, .null, .null, .null, .int 0, .null, .null, .null, .int 0, .int 0, .int 0, .int 0, .int 0, .null, .null, .null, .null, .null, .null, .int 0, .int 0]))) H := hm
  have hkp : kpx (fun a => a = mo) M (mu Mc5 mo (.inr (6, [.int 0, .ref cn, .ref ia, .ref dr, .null, .null, .null, .int 0, .null, .null, .null, .int 0, .int 0, .int 0, .int 0, .int 0, .null, .null, .null, .null, .null, .null, .int 0, .int 0]))) := (hkp).self rfl
  have hR_mo_6 : (mu Mc5 mo (.inr (6, [.int 0, .ref cn, .ref ia, .ref dr, .null, .null, .null, .int 0, .null, .null, .null, .int 0, .int 0, .int 0, .int 0, .int 0, .null, .null, .null, .null, .null, .null, .int 0, .int 0]))) mo = _ := (mu_self _ _ _)
  have hR_cn_6 : (mu Mc5 mo (.inr (6, [.int 0, .ref cn, .ref ia, .ref dr, .null, .null, .null, .int 0, .null, .null, .null, .int 0, .int 0, .int 0, .int 0, .int 0, .null, .null, .null, .null, .null, .null, .int 0, .int 0]))) cn = _ := ((mu_ne ne_cn_mo).trans hR_cn_5)
  have hR_ia_6 : (mu Mc5 mo (.inr (6, [.int 0, .ref cn, .ref ia, .ref dr, .null, .null, .null, .int 0, .null, .null, .null, .int 0, .int 0, .int 0, .int 0, .int 0, .null, .null, .null, .null, .null, .null, .int 0, .int 0]))) ia = _ := ((mu_ne ne_ia_mo).trans hR_ia_5)
  have hR_dr_6 : (mu Mc5 mo (.inr (6, [.int 0, .ref cn, .ref ia, .ref dr, .null, .null, .null, .int 0, .null, .null, .null, .int 0, .int 0, .int 0, .int 0, .int 0, .null, .null, .null, .null, .null, .null, .int 0, .int 0]))) dr = _ := ((mu_ne ne_dr_mo).trans hR_dr_5)
  generalize (mu Mc5 mo (.inr (6, [.int 0, .ref cn, .ref ia, .ref dr, .null, .null, .null, .int 0, .null, .null, .null, .int 0, .int 0, .int 0, .int 0, .int 0, .null, .null, .null, .null, .null, .null, .int 0, .int 0]))) = Mc6 at hm hkp hR_mo_6 hR_cn_6 hR_ia_6 hR_dr_6
  refine lv_aload_n hx hb dX6_init_30 rfl (lv_at hl 0 rfl) ?_
  refine lv_ldc hx hb hown (hts (.constant RX6 20 (51200)) (by decide +kernel)) dX6_init_31 ?_
  refine m_newa (atype := .int) hx hb (hts (.arrayClass .int) (by decide +kernel)) (ty := .int) rfl (fun C h => by cases h) hK 0 rfl hm hS hA (N' := 51200) (a0 := (51200, .inl (fun _ => 0))) (fun cA => vp_cell_i cA _ _) (by decide) rfl (by decide) (Nat.le_of_ble_eq_true rfl) (Nat.le_of_ble_eq_true rfl) dX6_init_33 (fun en H hen hm hS => ?_)
  refine W.widen (k := 4) (n := 57632) (Nat.le_of_ble_eq_true rfl) (Nat.le_of_ble_eq_true rfl) ?_
  have hn_en := (hkp).no (fun h9 => absurd h9.symm (m_fr hen hR_mo_6)) hen
  have ne_mo_en : mo ≠ en := m_fr hen hR_mo_6
  have ne_en_mo : en ≠ mo := Ne.symm ne_mo_en
  have ne_cn_en : cn ≠ en := m_fr hen hR_cn_6
  have ne_en_cn : en ≠ cn := Ne.symm ne_cn_en
  have ne_ia_en : ia ≠ en := m_fr hen hR_ia_6
  have ne_en_ia : en ≠ ia := Ne.symm ne_ia_en
  have ne_dr_en : dr ≠ en := m_fr hen hR_dr_6
  have ne_en_dr : en ≠ dr := Ne.symm ne_dr_en
  have hm : mm D (AZ z) (mu Mc6 en (.inl (k 0, 51200, .inl (fun _ => 0)))) H := hm
  have hkp : kpx (fun a => a = mo) M (mu Mc6 en (.inl (k 0, 51200, .inl (fun _ => 0)))) := (hkp).new hen
  have hR_mo_7 : (mu Mc6 en (.inl (k 0, 51200, .inl (fun _ => 0)))) mo = _ := ((mu_ne ne_mo_en).trans hR_mo_6)
  have hR_cn_7 : (mu Mc6 en (.inl (k 0, 51200, .inl (fun _ => 0)))) cn = _ := ((mu_ne ne_cn_en).trans hR_cn_6)
  have hR_ia_7 : (mu Mc6 en (.inl (k 0, 51200, .inl (fun _ => 0)))) ia = _ := ((mu_ne ne_ia_en).trans hR_ia_6)
  have hR_dr_7 : (mu Mc6 en (.inl (k 0, 51200, .inl (fun _ => 0)))) dr = _ := ((mu_ne ne_dr_en).trans hR_dr_6)
  have hR_en_7 : (mu Mc6 en (.inl (k 0, 51200, .inl (fun _ => 0)))) en = _ := (mu_self _ _ _)
  generalize (mu Mc6 en (.inl (k 0, 51200, .inl (fun _ => 0)))) = Mc7 at hm hkp hR_mo_7 hR_cn_7 hR_ia_7 hR_dr_7 hR_en_7
  refine m_putF (T := TX6) (N := 24) (ci := 6) (v := .ref en) (ty := .array .int) hx hb hts wX6 tyX6 tyX6_ok nmX6 hown hK hm hS hR_mo_7 rfl 4 (by decide) f21 (fun _ h9 => h9) rfl hin rfl (by decide +kernel) rfl rfl (Nat.le_of_ble_eq_true rfl) dX6_init_35 (fun H locs hm hS => ?_)
  have hm : mm D (AZ z) (mu Mc7 mo (.inr (6, [.int 0, .ref cn, .ref ia, .ref dr, .ref en, .null, .null, .int 0, .null, .null, .null, .int 0, .int 0, .int 0, .int 0, .int 0, .null, .null, .null, .null, .null, .null, .int 0, .int 0]))) H := hm
  have hkp : kpx (fun a => a = mo) M (mu Mc7 mo (.inr (6, [.int 0, .ref cn, .ref ia, .ref dr, .ref en, .null, .null, .int 0, .null, .null, .null, .int 0, .int 0, .int 0, .int 0, .int 0, .null, .null, .null, .null, .null, .null, .int 0, .int 0]))) := (hkp).self rfl
  have hR_mo_8 : (mu Mc7 mo (.inr (6, [.int 0, .ref cn, .ref ia, .ref dr, .ref en, .null, .null, .int 0, .null, .null, .null, .int 0, .int 0, .int 0, .int 0, .int 0, .null, .null, .null, .null, .null, .null, .int 0, .int 0]))) mo = _ := (mu_self _ _ _)
  have hR_cn_8 : (mu Mc7 mo (.inr (6, [.int 0, .ref cn, .ref ia, .ref dr, .ref en, .null, .null, .int 0, .null, .null, .null, .int 0, .int 0, .int 0, .int 0, .int 0, .null, .null, .null, .null, .null, .null, .int 0, .int 0]))) cn = _ := ((mu_ne ne_cn_mo).trans hR_cn_7)
  have hR_ia_8 : (mu Mc7 mo (.inr (6, [.int 0, .ref cn, .ref ia, .ref dr, .ref en, .null, .null, .int 0, .null, .null, .null, .int 0, .int 0, .int 0, .int 0, .int 0, .null, .null, .null, .null, .null, .null, .int 0, .int 0]))) ia = _ := ((mu_ne ne_ia_mo).trans hR_ia_7)
  have hR_dr_8 : (mu Mc7 mo (.inr (6, [.int 0, .ref cn, .ref ia, .ref dr, .ref en, .null, .null, .int 0, .null, .null, .null, .int 0, .int 0, .int 0, .int 0, .int 0, .null, .null, .null, .null, .null, .null, .int 0, .int 0]))) dr = _ := ((mu_ne ne_dr_mo).trans hR_dr_7)
  have hR_en_8 : (mu Mc7 mo (.inr (6, [.int 0, .ref cn, .ref ia, .ref dr, .ref en, .null, .null, .int 0, .null, .null, .null, .int 0, .int 0, .int 0, .int 0, .int 0, .null, .null, .null, .null, .null, .null, .int 0, .int 0]))) en = _ := ((mu_ne ne_en_mo).trans hR_en_7)
  generalize (mu Mc7 mo (.inr (6, [.int 0, .ref cn, .ref ia, .ref dr, .ref en, .null, .null, .int 0, .null, .null, .null, .int 0, .int 0, .int 0, .int 0, .int 0, .null, .null, .null, .null, .null, .null, .int 0, .int 0]))) = Mc8 at hm hkp hR_mo_8 hR_cn_8 hR_ia_8 hR_dr_8 hR_en_8
  refine lv_aload_n hx hb dX6_init_38 rfl (lv_at hl 0 rfl) ?_
  refine lv_sipush (v := 3200) hx hb dX6_init_39 (by decide) ?_
  refine m_newa (atype := .int) hx hb (hts (.arrayClass .int) (by decide +kernel)) (ty := .int) rfl (fun C h => by cases h) hK 0 rfl hm hS hA (N' := 3200) (a0 := (3200, .inl (fun _ => 0))) (fun cA => vp_cell_i cA _ _) (by decide) rfl (by decide) (Nat.le_of_ble_eq_true rfl) (Nat.le_of_ble_eq_true rfl) dX6_init_42 (fun la H hla hm hS => ?_)
  refine W.widen (k := 5) (n := 60832) (Nat.le_of_ble_eq_true rfl) (Nat.le_of_ble_eq_true rfl) ?_
  have hn_la := (hkp).no (fun h9 => absurd h9.symm (m_fr hla hR_mo_8)) hla
  have ne_mo_la : mo ≠ la := m_fr hla hR_mo_8
  have ne_la_mo : la ≠ mo := Ne.symm ne_mo_la
  have ne_cn_la : cn ≠ la := m_fr hla hR_cn_8
  have ne_la_cn : la ≠ cn := Ne.symm ne_cn_la
  have ne_ia_la : ia ≠ la := m_fr hla hR_ia_8
  have ne_la_ia : la ≠ ia := Ne.symm ne_ia_la
  have ne_dr_la : dr ≠ la := m_fr hla hR_dr_8
  have ne_la_dr : la ≠ dr := Ne.symm ne_dr_la
  have ne_en_la : en ≠ la := m_fr hla hR_en_8
  have ne_la_en : la ≠ en := Ne.symm ne_en_la
  have hm : mm D (AZ z) (mu Mc8 la (.inl (k 0, 3200, .inl (fun _ => 0)))) H := hm
  have hkp : kpx (fun a => a = mo) M (mu Mc8 la (.inl (k 0, 3200, .inl (fun _ => 0)))) := (hkp).new hla
  have hR_mo_9 : (mu Mc8 la (.inl (k 0, 3200, .inl (fun _ => 0)))) mo = _ := ((mu_ne ne_mo_la).trans hR_mo_8)
  have hR_cn_9 : (mu Mc8 la (.inl (k 0, 3200, .inl (fun _ => 0)))) cn = _ := ((mu_ne ne_cn_la).trans hR_cn_8)
  have hR_ia_9 : (mu Mc8 la (.inl (k 0, 3200, .inl (fun _ => 0)))) ia = _ := ((mu_ne ne_ia_la).trans hR_ia_8)
  have hR_dr_9 : (mu Mc8 la (.inl (k 0, 3200, .inl (fun _ => 0)))) dr = _ := ((mu_ne ne_dr_la).trans hR_dr_8)
  have hR_en_9 : (mu Mc8 la (.inl (k 0, 3200, .inl (fun _ => 0)))) en = _ := ((mu_ne ne_en_la).trans hR_en_8)
  have hR_la_9 : (mu Mc8 la (.inl (k 0, 3200, .inl (fun _ => 0)))) la = _ := (mu_self _ _ _)
  generalize (mu Mc8 la (.inl (k 0, 3200, .inl (fun _ => 0)))) = Mc9 at hm hkp hR_mo_9 hR_cn_9 hR_ia_9 hR_dr_9 hR_en_9 hR_la_9
  refine m_putF (T := TX6) (N := 24) (ci := 6) (v := .ref la) (ty := .array .int) hx hb hts wX6 tyX6 tyX6_ok nmX6 hown hK hm hS hR_mo_9 rfl 5 (by decide) f24 (fun _ h9 => h9) rfl hin rfl (by decide +kernel) rfl rfl (Nat.le_of_ble_eq_true rfl) dX6_init_44 (fun H locs hm hS => ?_)
  have hm : mm D (AZ z) (mu Mc9 mo (.inr (6, [.int 0, .ref cn, .ref ia, .ref dr, .ref en, .ref la, .null, .int 0, .null, .null, .null, .int 0, .int 0, .int 0, .int 0, .int 0, .null, .null, .null, .null, .null, .null, .int 0, .int 0]))) H := hm
  have hkp : kpx (fun a => a = mo) M (mu Mc9 mo (.inr (6, [.int 0, .ref cn, .ref ia, .ref dr, .ref en, .ref la, .null, .int 0, .null, .null, .null, .int 0, .int 0, .int 0, .int 0, .int 0, .null, .null, .null, .null, .null, .null, .int 0, .int 0]))) := (hkp).self rfl
  have hR_mo_10 : (mu Mc9 mo (.inr (6, [.int 0, .ref cn, .ref ia, .ref dr, .ref en, .ref la, .null, .int 0, .null, .null, .null, .int 0, .int 0, .int 0, .int 0, .int 0, .null, .null, .null, .null, .null, .null, .int 0, .int 0]))) mo = _ := (mu_self _ _ _)
  have hR_cn_10 : (mu Mc9 mo (.inr (6, [.int 0, .ref cn, .ref ia, .ref dr, .ref en, .ref la, .null, .int 0, .null, .null, .null, .int 0, .int 0, .int 0, .int 0, .int 0, .null, .null, .null, .null, .null, .null, .int 0, .int 0]))) cn = _ := ((mu_ne ne_cn_mo).trans hR_cn_9)
  have hR_ia_10 : (mu Mc9 mo (.inr (6, [.int 0, .ref cn, .ref ia, .ref dr, .ref en, .ref la, .null, .int 0, .null, .null, .null, .int 0, .int 0, .int 0, .int 0, .int 0, .null, .null, .null, .null, .null, .null, .int 0, .int 0]))) ia = _ := ((mu_ne ne_ia_mo).trans hR_ia_9)
  have hR_dr_10 : (mu Mc9 mo (.inr (6, [.int 0, .ref cn, .ref ia, .ref dr, .ref en, .ref la, .null, .int 0, .null, .null, .null, .int 0, .int 0, .int 0, .int 0, .int 0, .null, .null, .null, .null, .null, .null, .int 0, .int 0]))) dr = _ := ((mu_ne ne_dr_mo).trans hR_dr_9)
  have hR_en_10 : (mu Mc9 mo (.inr (6, [.int 0, .ref cn, .ref ia, .ref dr, .ref en, .ref la, .null, .int 0, .null, .null, .null, .int 0, .int 0, .int 0, .int 0, .int 0, .null, .null, .null, .null, .null, .null, .int 0, .int 0]))) en = _ := ((mu_ne ne_en_mo).trans hR_en_9)
  have hR_la_10 : (mu Mc9 mo (.inr (6, [.int 0, .ref cn, .ref ia, .ref dr, .ref en, .ref la, .null, .int 0, .null, .null, .null, .int 0, .int 0, .int 0, .int 0, .int 0, .null, .null, .null, .null, .null, .null, .int 0, .int 0]))) la = _ := ((mu_ne ne_la_mo).trans hR_la_9)
  generalize (mu Mc9 mo (.inr (6, [.int 0, .ref cn, .ref ia, .ref dr, .ref en, .ref la, .null, .int 0, .null, .null, .null, .int 0, .int 0, .int 0, .int 0, .int 0, .null, .null, .null, .null, .null, .null, .int 0, .int 0]))) = Mc10 at hm hkp hR_mo_10 hR_cn_10 hR_ia_10 hR_dr_10 hR_en_10 hR_la_10
  refine lv_aload_n hx hb dX6_init_47 rfl (lv_at hl 0 rfl) ?_
  refine lv_ldc hx hb hown (hts (.constant RX6 27 (204800)) (by decide +kernel)) dX6_init_48 ?_
  refine m_newa (atype := .int) hx hb (hts (.arrayClass .int) (by decide +kernel)) (ty := .int) rfl (fun C h => by cases h) hK 0 rfl hm hS hA (N' := 204800) (a0 := (204800, .inl (fun _ => 0))) (fun cA => vp_cell_i cA _ _) (by decide) rfl (by decide) (Nat.le_of_ble_eq_true rfl) (Nat.le_of_ble_eq_true rfl) dX6_init_50 (fun wo H hwo hm hS => ?_)
  refine W.widen (k := 6) (n := 265632) (Nat.le_of_ble_eq_true rfl) (Nat.le_of_ble_eq_true rfl) ?_
  have hn_wo := (hkp).no (fun h9 => absurd h9.symm (m_fr hwo hR_mo_10)) hwo
  have ne_mo_wo : mo ≠ wo := m_fr hwo hR_mo_10
  have ne_wo_mo : wo ≠ mo := Ne.symm ne_mo_wo
  have ne_cn_wo : cn ≠ wo := m_fr hwo hR_cn_10
  have ne_wo_cn : wo ≠ cn := Ne.symm ne_cn_wo
  have ne_ia_wo : ia ≠ wo := m_fr hwo hR_ia_10
  have ne_wo_ia : wo ≠ ia := Ne.symm ne_ia_wo
  have ne_dr_wo : dr ≠ wo := m_fr hwo hR_dr_10
  have ne_wo_dr : wo ≠ dr := Ne.symm ne_dr_wo
  have ne_en_wo : en ≠ wo := m_fr hwo hR_en_10
  have ne_wo_en : wo ≠ en := Ne.symm ne_en_wo
  have ne_la_wo : la ≠ wo := m_fr hwo hR_la_10
  have ne_wo_la : wo ≠ la := Ne.symm ne_la_wo
  have hm : mm D (AZ z) (mu Mc10 wo (.inl (k 0, 204800, .inl (fun _ => 0)))) H := hm
  have hkp : kpx (fun a => a = mo) M (mu Mc10 wo (.inl (k 0, 204800, .inl (fun _ => 0)))) := (hkp).new hwo
  have hR_mo_11 : (mu Mc10 wo (.inl (k 0, 204800, .inl (fun _ => 0)))) mo = _ := ((mu_ne ne_mo_wo).trans hR_mo_10)
  have hR_cn_11 : (mu Mc10 wo (.inl (k 0, 204800, .inl (fun _ => 0)))) cn = _ := ((mu_ne ne_cn_wo).trans hR_cn_10)
  have hR_ia_11 : (mu Mc10 wo (.inl (k 0, 204800, .inl (fun _ => 0)))) ia = _ := ((mu_ne ne_ia_wo).trans hR_ia_10)
  have hR_dr_11 : (mu Mc10 wo (.inl (k 0, 204800, .inl (fun _ => 0)))) dr = _ := ((mu_ne ne_dr_wo).trans hR_dr_10)
  have hR_en_11 : (mu Mc10 wo (.inl (k 0, 204800, .inl (fun _ => 0)))) en = _ := ((mu_ne ne_en_wo).trans hR_en_10)
  have hR_la_11 : (mu Mc10 wo (.inl (k 0, 204800, .inl (fun _ => 0)))) la = _ := ((mu_ne ne_la_wo).trans hR_la_10)
  have hR_wo_11 : (mu Mc10 wo (.inl (k 0, 204800, .inl (fun _ => 0)))) wo = _ := (mu_self _ _ _)
  generalize (mu Mc10 wo (.inl (k 0, 204800, .inl (fun _ => 0)))) = Mc11 at hm hkp hR_mo_11 hR_cn_11 hR_ia_11 hR_dr_11 hR_en_11 hR_la_11 hR_wo_11
  refine m_putF (T := TX6) (N := 24) (ci := 6) (v := .ref wo) (ty := .array .int) hx hb hts wX6 tyX6 tyX6_ok nmX6 hown hK hm hS hR_mo_11 rfl 6 (by decide) f28 (fun _ h9 => h9) rfl hin rfl (by decide +kernel) rfl rfl (Nat.le_of_ble_eq_true rfl) dX6_init_52 (fun H locs hm hS => ?_)
  have hm : mm D (AZ z) (mu Mc11 mo (.inr (6, [.int 0, .ref cn, .ref ia, .ref dr, .ref en, .ref la, .ref wo, .int 0, .null, .null, .null, .int 0, .int 0, .int 0, .int 0, .int 0, .null, .null, .null, .null, .null, .null, .int 0, .int 0]))) H := hm
  have hkp : kpx (fun a => a = mo) M (mu Mc11 mo (.inr (6, [.int 0, .ref cn, .ref ia, .ref dr, .ref en, .ref la, .ref wo, .int 0, .null, .null, .null, .int 0, .int 0, .int 0, .int 0, .int 0, .null, .null, .null, .null, .null, .null, .int 0, .int 0]))) := (hkp).self rfl
  have hR_mo_12 : (mu Mc11 mo (.inr (6, [.int 0, .ref cn, .ref ia, .ref dr, .ref en, .ref la, .ref wo, .int 0, .null, .null, .null, .int 0, .int 0, .int 0, .int 0, .int 0, .null, .null, .null, .null, .null, .null, .int 0, .int 0]))) mo = _ := (mu_self _ _ _)
  have hR_cn_12 : (mu Mc11 mo (.inr (6, [.int 0, .ref cn, .ref ia, .ref dr, .ref en, .ref la, .ref wo, .int 0, .null, .null, .null, .int 0, .int 0, .int 0, .int 0, .int 0, .null, .null, .null, .null, .null, .null, .int 0, .int 0]))) cn = _ := ((mu_ne ne_cn_mo).trans hR_cn_11)
  have hR_ia_12 : (mu Mc11 mo (.inr (6, [.int 0, .ref cn, .ref ia, .ref dr, .ref en, .ref la, .ref wo, .int 0, .null, .null, .null, .int 0, .int 0, .int 0, .int 0, .int 0, .null, .null, .null, .null, .null, .null, .int 0, .int 0]))) ia = _ := ((mu_ne ne_ia_mo).trans hR_ia_11)
  have hR_dr_12 : (mu Mc11 mo (.inr (6, [.int 0, .ref cn, .ref ia, .ref dr, .ref en, .ref la, .ref wo, .int 0, .null, .null, .null, .int 0, .int 0, .int 0, .int 0, .int 0, .null, .null, .null, .null, .null, .null, .int 0, .int 0]))) dr = _ := ((mu_ne ne_dr_mo).trans hR_dr_11)
  have hR_en_12 : (mu Mc11 mo (.inr (6, [.int 0, .ref cn, .ref ia, .ref dr, .ref en, .ref la, .ref wo, .int 0, .null, .null, .null, .int 0, .int 0, .int 0, .int 0, .int 0, .null, .null, .null, .null, .null, .null, .int 0, .int 0]))) en = _ := ((mu_ne ne_en_mo).trans hR_en_11)
  have hR_la_12 : (mu Mc11 mo (.inr (6, [.int 0, .ref cn, .ref ia, .ref dr, .ref en, .ref la, .ref wo, .int 0, .null, .null, .null, .int 0, .int 0, .int 0, .int 0, .int 0, .null, .null, .null, .null, .null, .null, .int 0, .int 0]))) la = _ := ((mu_ne ne_la_mo).trans hR_la_11)
  have hR_wo_12 : (mu Mc11 mo (.inr (6, [.int 0, .ref cn, .ref ia, .ref dr, .ref en, .ref la, .ref wo, .int 0, .null, .null, .null, .int 0, .int 0, .int 0, .int 0, .int 0, .null, .null, .null, .null, .null, .null, .int 0, .int 0]))) wo = _ := ((mu_ne ne_wo_mo).trans hR_wo_11)
  generalize (mu Mc11 mo (.inr (6, [.int 0, .ref cn, .ref ia, .ref dr, .ref en, .ref la, .ref wo, .int 0, .null, .null, .null, .int 0, .int 0, .int 0, .int 0, .int 0, .null, .null, .null, .null, .null, .null, .int 0, .int 0]))) = Mc12 at hm hkp hR_mo_12 hR_cn_12 hR_ia_12 hR_dr_12 hR_en_12 hR_la_12 hR_wo_12
  refine lv_aload_n hx hb dX6_init_55 rfl (lv_at hl 0 rfl) ?_
  refine lv_iconst (v := 2) hx hb dX6_init_56 (by decide) ?_
  refine m_put (T := TX6) (N := 24) (ci := 6) (v := .int 2) (ty := .int) hx hb hts wX6 tyX6 tyX6_ok nmX6 hown hK hm hS hR_mo_12 rfl 7 (by decide) f31 (fun _ h9 => h9) rfl (by decide +kernel) rfl rfl (Nat.le_of_ble_eq_true rfl) dX6_init_57 (fun H locs hm hS => ?_)
  have hm : mm D (AZ z) (mu Mc12 mo (.inr (6, [.int 0, .ref cn, .ref ia, .ref dr, .ref en, .ref la, .ref wo, .int 2, .null, .null, .null, .int 0, .int 0, .int 0, .int 0, .int 0, .null, .null, .null, .null, .null, .null, .int 0, .int 0]))) H := hm
  have hkp : kpx (fun a => a = mo) M (mu Mc12 mo (.inr (6, [.int 0, .ref cn, .ref ia, .ref dr, .ref en, .ref la, .ref wo, .int 2, .null, .null, .null, .int 0, .int 0, .int 0, .int 0, .int 0, .null, .null, .null, .null, .null, .null, .int 0, .int 0]))) := (hkp).self rfl
  have hR_mo_13 : (mu Mc12 mo (.inr (6, [.int 0, .ref cn, .ref ia, .ref dr, .ref en, .ref la, .ref wo, .int 2, .null, .null, .null, .int 0, .int 0, .int 0, .int 0, .int 0, .null, .null, .null, .null, .null, .null, .int 0, .int 0]))) mo = _ := (mu_self _ _ _)
  have hR_cn_13 : (mu Mc12 mo (.inr (6, [.int 0, .ref cn, .ref ia, .ref dr, .ref en, .ref la, .ref wo, .int 2, .null, .null, .null, .int 0, .int 0, .int 0, .int 0, .int 0, .null, .null, .null, .null, .null, .null, .int 0, .int 0]))) cn = _ := ((mu_ne ne_cn_mo).trans hR_cn_12)
  have hR_ia_13 : (mu Mc12 mo (.inr (6, [.int 0, .ref cn, .ref ia, .ref dr, .ref en, .ref la, .ref wo, .int 2, .null, .null, .null, .int 0, .int 0, .int 0, .int 0, .int 0, .null, .null, .null, .null, .null, .null, .int 0, .int 0]))) ia = _ := ((mu_ne ne_ia_mo).trans hR_ia_12)
  have hR_dr_13 : (mu Mc12 mo (.inr (6, [.int 0, .ref cn, .ref ia, .ref dr, .ref en, .ref la, .ref wo, .int 2, .null, .null, .null, .int 0, .int 0, .int 0, .int 0, .int 0, .null, .null, .null, .null, .null, .null, .int 0, .int 0]))) dr = _ := ((mu_ne ne_dr_mo).trans hR_dr_12)
  have hR_en_13 : (mu Mc12 mo (.inr (6, [.int 0, .ref cn, .ref ia, .ref dr, .ref en, .ref la, .ref wo, .int 2, .null, .null, .null, .int 0, .int 0, .int 0, .int 0, .int 0, .null, .null, .null, .null, .null, .null, .int 0, .int 0]))) en = _ := ((mu_ne ne_en_mo).trans hR_en_12)
  have hR_la_13 : (mu Mc12 mo (.inr (6, [.int 0, .ref cn, .ref ia, .ref dr, .ref en, .ref la, .ref wo, .int 2, .null, .null, .null, .int 0, .int 0, .int 0, .int 0, .int 0, .null, .null, .null, .null, .null, .null, .int 0, .int 0]))) la = _ := ((mu_ne ne_la_mo).trans hR_la_12)
  have hR_wo_13 : (mu Mc12 mo (.inr (6, [.int 0, .ref cn, .ref ia, .ref dr, .ref en, .ref la, .ref wo, .int 2, .null, .null, .null, .int 0, .int 0, .int 0, .int 0, .int 0, .null, .null, .null, .null, .null, .null, .int 0, .int 0]))) wo = _ := ((mu_ne ne_wo_mo).trans hR_wo_12)
  generalize (mu Mc12 mo (.inr (6, [.int 0, .ref cn, .ref ia, .ref dr, .ref en, .ref la, .ref wo, .int 2, .null, .null, .null, .int 0, .int 0, .int 0, .int 0, .int 0, .null, .null, .null, .null, .null, .null, .int 0, .int 0]))) = Mc13 at hm hkp hR_mo_13 hR_cn_13 hR_ia_13 hR_dr_13 hR_en_13 hR_la_13 hR_wo_13
  refine lv_aload_n hx hb dX6_init_60 rfl (lv_at hl 0 rfl) ?_
  refine lv_bipush (v := 6) hx hb dX6_init_61 (by decide) ?_
  refine m_newa (atype := .boolean) hx hb (hts (.arrayClass .boolean) (by decide +kernel)) (ty := .boolean) rfl (fun C h => by cases h) hK 2 rfl hm hS hA (N' := 6) (a0 := (6, .inl (fun _ => 0))) (fun cA => vp_cell_i cA _ _) (by decide) rfl (by decide) (Nat.le_of_ble_eq_true rfl) (Nat.le_of_ble_eq_true rfl) dX6_init_63 (fun op H hop hm hS => ?_)
  refine W.widen (k := 7) (n := 265638) (Nat.le_of_ble_eq_true rfl) (Nat.le_of_ble_eq_true rfl) ?_
  have hn_op := (hkp).no (fun h9 => absurd h9.symm (m_fr hop hR_mo_13)) hop
  have ne_mo_op : mo ≠ op := m_fr hop hR_mo_13
  have ne_op_mo : op ≠ mo := Ne.symm ne_mo_op
  have ne_cn_op : cn ≠ op := m_fr hop hR_cn_13
  have ne_op_cn : op ≠ cn := Ne.symm ne_cn_op
  have ne_ia_op : ia ≠ op := m_fr hop hR_ia_13
  have ne_op_ia : op ≠ ia := Ne.symm ne_ia_op
  have ne_dr_op : dr ≠ op := m_fr hop hR_dr_13
  have ne_op_dr : op ≠ dr := Ne.symm ne_dr_op
  have ne_en_op : en ≠ op := m_fr hop hR_en_13
  have ne_op_en : op ≠ en := Ne.symm ne_en_op
  have ne_la_op : la ≠ op := m_fr hop hR_la_13
  have ne_op_la : op ≠ la := Ne.symm ne_la_op
  have ne_wo_op : wo ≠ op := m_fr hop hR_wo_13
  have ne_op_wo : op ≠ wo := Ne.symm ne_wo_op
  have hm : mm D (AZ z) (mu Mc13 op (.inl (k 2, 6, .inl (fun _ => 0)))) H := hm
  have hkp : kpx (fun a => a = mo) M (mu Mc13 op (.inl (k 2, 6, .inl (fun _ => 0)))) := (hkp).new hop
  have hR_mo_14 : (mu Mc13 op (.inl (k 2, 6, .inl (fun _ => 0)))) mo = _ := ((mu_ne ne_mo_op).trans hR_mo_13)
  have hR_cn_14 : (mu Mc13 op (.inl (k 2, 6, .inl (fun _ => 0)))) cn = _ := ((mu_ne ne_cn_op).trans hR_cn_13)
  have hR_ia_14 : (mu Mc13 op (.inl (k 2, 6, .inl (fun _ => 0)))) ia = _ := ((mu_ne ne_ia_op).trans hR_ia_13)
  have hR_dr_14 : (mu Mc13 op (.inl (k 2, 6, .inl (fun _ => 0)))) dr = _ := ((mu_ne ne_dr_op).trans hR_dr_13)
  have hR_en_14 : (mu Mc13 op (.inl (k 2, 6, .inl (fun _ => 0)))) en = _ := ((mu_ne ne_en_op).trans hR_en_13)
  have hR_la_14 : (mu Mc13 op (.inl (k 2, 6, .inl (fun _ => 0)))) la = _ := ((mu_ne ne_la_op).trans hR_la_13)
  have hR_wo_14 : (mu Mc13 op (.inl (k 2, 6, .inl (fun _ => 0)))) wo = _ := ((mu_ne ne_wo_op).trans hR_wo_13)
  have hR_op_14 : (mu Mc13 op (.inl (k 2, 6, .inl (fun _ => 0)))) op = _ := (mu_self _ _ _)
  generalize (mu Mc13 op (.inl (k 2, 6, .inl (fun _ => 0)))) = Mc14 at hm hkp hR_mo_14 hR_cn_14 hR_ia_14 hR_dr_14 hR_en_14 hR_la_14 hR_wo_14 hR_op_14
  refine m_putF (T := TX6) (N := 24) (ci := 6) (v := .ref op) (ty := .array .boolean) hx hb hts wX6 tyX6 tyX6_ok nmX6 hown hK hm hS hR_mo_14 rfl 8 (by decide) f35 (fun _ h9 => h9) rfl hin rfl (by decide +kernel) rfl rfl (Nat.le_of_ble_eq_true rfl) dX6_init_65 (fun H locs hm hS => ?_)
  have hm : mm D (AZ z) (mu Mc14 mo (.inr (6, [.int 0, .ref cn, .ref ia, .ref dr, .ref en, .ref la, .ref wo, .int 2, .ref op, .null, .null, .int 0, .int 0, .int 0, .int 0, .int 0, .null, .null, .null, .null, .null, .null, .int 0, .int 0]))) H := hm
  have hkp : kpx (fun a => a = mo) M (mu Mc14 mo (.inr (6, [.int 0, .ref cn, .ref ia, .ref dr, .ref en, .ref la, .ref wo, .int 2, .ref op, .null, .null, .int 0, .int 0, .int 0, .int 0, .int 0, .null, .null, .null, .null, .null, .null, .int 0, .int 0]))) := (hkp).self rfl
  have hR_mo_15 : (mu Mc14 mo (.inr (6, [.int 0, .ref cn, .ref ia, .ref dr, .ref en, .ref la, .ref wo, .int 2, .ref op, .null, .null, .int 0, .int 0, .int 0, .int 0, .int 0, .null, .null, .null, .null, .null, .null, .int 0, .int 0]))) mo = _ := (mu_self _ _ _)
  have hR_cn_15 : (mu Mc14 mo (.inr (6, [.int 0, .ref cn, .ref ia, .ref dr, .ref en, .ref la, .ref wo, .int 2, .ref op, .null, .null, .int 0, .int 0, .int 0, .int 0, .int 0, .null, .null, .null, .null, .null, .null, .int 0, .int 0]))) cn = _ := ((mu_ne ne_cn_mo).trans hR_cn_14)
  have hR_ia_15 : (mu Mc14 mo (.inr (6, [.int 0, .ref cn, .ref ia, .ref dr, .ref en, .ref la, .ref wo, .int 2, .ref op, .null, .null, .int 0, .int 0, .int 0, .int 0, .int 0, .null, .null, .null, .null, .null, .null, .int 0, .int 0]))) ia = _ := ((mu_ne ne_ia_mo).trans hR_ia_14)
  have hR_dr_15 : (mu Mc14 mo (.inr (6, [.int 0, .ref cn, .ref ia, .ref dr, .ref en, .ref la, .ref wo, .int 2, .ref op, .null, .null, .int 0, .int 0, .int 0, .int 0, .int 0, .null, .null, .null, .null, .null, .null, .int 0, .int 0]))) dr = _ := ((mu_ne ne_dr_mo).trans hR_dr_14)
  have hR_en_15 : (mu Mc14 mo (.inr (6, [.int 0, .ref cn, .ref ia, .ref dr, .ref en, .ref la, .ref wo, .int 2, .ref op, .null, .null, .int 0, .int 0, .int 0, .int 0, .int 0, .null, .null, .null, .null, .null, .null, .int 0, .int 0]))) en = _ := ((mu_ne ne_en_mo).trans hR_en_14)
  have hR_la_15 : (mu Mc14 mo (.inr (6, [.int 0, .ref cn, .ref ia, .ref dr, .ref en, .ref la, .ref wo, .int 2, .ref op, .null, .null, .int 0, .int 0, .int 0, .int 0, .int 0, .null, .null, .null, .null, .null, .null, .int 0, .int 0]))) la = _ := ((mu_ne ne_la_mo).trans hR_la_14)
  have hR_wo_15 : (mu Mc14 mo (.inr (6, [.int 0, .ref cn, .ref ia, .ref dr, .ref en, .ref la, .ref wo, .int 2, .ref op, .null, .null, .int 0, .int 0, .int 0, .int 0, .int 0, .null, .null, .null, .null, .null, .null, .int 0, .int 0]))) wo = _ := ((mu_ne ne_wo_mo).trans hR_wo_14)
  have hR_op_15 : (mu Mc14 mo (.inr (6, [.int 0, .ref cn, .ref ia, .ref dr, .ref en, .ref la, .ref wo, .int 2, .ref op, .null, .null, .int 0, .int 0, .int 0, .int 0, .int 0, .null, .null, .null, .null, .null, .null, .int 0, .int 0]))) op = _ := ((mu_ne ne_op_mo).trans hR_op_14)
  generalize (mu Mc14 mo (.inr (6, [.int 0, .ref cn, .ref ia, .ref dr, .ref en, .ref la, .ref wo, .int 2, .ref op, .null, .null, .int 0, .int 0, .int 0, .int 0, .int 0, .null, .null, .null, .null, .null, .null, .int 0, .int 0]))) = Mc15 at hm hkp hR_mo_15 hR_cn_15 hR_ia_15 hR_dr_15 hR_en_15 hR_la_15 hR_wo_15 hR_op_15
  refine lv_aload_n hx hb dX6_init_68 rfl (lv_at hl 0 rfl) ?_
  refine lv_bipush (v := 6) hx hb dX6_init_69 (by decide) ?_
  refine m_newa (atype := .int) hx hb (hts (.arrayClass .int) (by decide +kernel)) (ty := .int) rfl (fun C h => by cases h) hK 0 rfl hm hS hA (N' := 6) (a0 := (6, .inl (fun _ => 0))) (fun cA => vp_cell_i cA _ _) (by decide) rfl (by decide) (Nat.le_of_ble_eq_true rfl) (Nat.le_of_ble_eq_true rfl) dX6_init_71 (fun mk H hmk hm hS => ?_)
  refine W.widen (k := 8) (n := 265644) (Nat.le_of_ble_eq_true rfl) (Nat.le_of_ble_eq_true rfl) ?_
  have hn_mk := (hkp).no (fun h9 => absurd h9.symm (m_fr hmk hR_mo_15)) hmk
  have ne_mo_mk : mo ≠ mk := m_fr hmk hR_mo_15
  have ne_mk_mo : mk ≠ mo := Ne.symm ne_mo_mk
  have ne_cn_mk : cn ≠ mk := m_fr hmk hR_cn_15
  have ne_mk_cn : mk ≠ cn := Ne.symm ne_cn_mk
  have ne_ia_mk : ia ≠ mk := m_fr hmk hR_ia_15
  have ne_mk_ia : mk ≠ ia := Ne.symm ne_ia_mk
  have ne_dr_mk : dr ≠ mk := m_fr hmk hR_dr_15
  have ne_mk_dr : mk ≠ dr := Ne.symm ne_dr_mk
  have ne_en_mk : en ≠ mk := m_fr hmk hR_en_15
  have ne_mk_en : mk ≠ en := Ne.symm ne_en_mk
  have ne_la_mk : la ≠ mk := m_fr hmk hR_la_15
  have ne_mk_la : mk ≠ la := Ne.symm ne_la_mk
  have ne_wo_mk : wo ≠ mk := m_fr hmk hR_wo_15
  have ne_mk_wo : mk ≠ wo := Ne.symm ne_wo_mk
  have ne_op_mk : op ≠ mk := m_fr hmk hR_op_15
  have ne_mk_op : mk ≠ op := Ne.symm ne_op_mk
  have hm : mm D (AZ z) (mu Mc15 mk (.inl (k 0, 6, .inl (fun _ => 0)))) H := hm
  have hkp : kpx (fun a => a = mo) M (mu Mc15 mk (.inl (k 0, 6, .inl (fun _ => 0)))) := (hkp).new hmk
  have hR_mo_16 : (mu Mc15 mk (.inl (k 0, 6, .inl (fun _ => 0)))) mo = _ := ((mu_ne ne_mo_mk).trans hR_mo_15)
  have hR_cn_16 : (mu Mc15 mk (.inl (k 0, 6, .inl (fun _ => 0)))) cn = _ := ((mu_ne ne_cn_mk).trans hR_cn_15)
  have hR_ia_16 : (mu Mc15 mk (.inl (k 0, 6, .inl (fun _ => 0)))) ia = _ := ((mu_ne ne_ia_mk).trans hR_ia_15)
  have hR_dr_16 : (mu Mc15 mk (.inl (k 0, 6, .inl (fun _ => 0)))) dr = _ := ((mu_ne ne_dr_mk).trans hR_dr_15)
  have hR_en_16 : (mu Mc15 mk (.inl (k 0, 6, .inl (fun _ => 0)))) en = _ := ((mu_ne ne_en_mk).trans hR_en_15)
  have hR_la_16 : (mu Mc15 mk (.inl (k 0, 6, .inl (fun _ => 0)))) la = _ := ((mu_ne ne_la_mk).trans hR_la_15)
  have hR_wo_16 : (mu Mc15 mk (.inl (k 0, 6, .inl (fun _ => 0)))) wo = _ := ((mu_ne ne_wo_mk).trans hR_wo_15)
  have hR_op_16 : (mu Mc15 mk (.inl (k 0, 6, .inl (fun _ => 0)))) op = _ := ((mu_ne ne_op_mk).trans hR_op_15)
  have hR_mk_16 : (mu Mc15 mk (.inl (k 0, 6, .inl (fun _ => 0)))) mk = _ := (mu_self _ _ _)
  generalize (mu Mc15 mk (.inl (k 0, 6, .inl (fun _ => 0)))) = Mc16 at hm hkp hR_mo_16 hR_cn_16 hR_ia_16 hR_dr_16 hR_en_16 hR_la_16 hR_wo_16 hR_op_16 hR_mk_16
  refine m_putF (T := TX6) (N := 24) (ci := 6) (v := .ref mk) (ty := .array .int) hx hb hts wX6 tyX6 tyX6_ok nmX6 hown hK hm hS hR_mo_16 rfl 9 (by decide) f38 (fun _ h9 => h9) rfl hin rfl (by decide +kernel) rfl rfl (Nat.le_of_ble_eq_true rfl) dX6_init_73 (fun H locs hm hS => ?_)
  have hm : mm D (AZ z) (mu Mc16 mo (.inr (6, [.int 0, .ref cn, .ref ia, .ref dr, .ref en, .ref la, .ref wo, .int 2, .ref op, .ref mk, .null, .int 0, .int 0, .int 0, .int 0, .int 0, .null, .null, .null, .null, .null, .null, .int 0, .int 0]))) H := hm
  have hkp : kpx (fun a => a = mo) M (mu Mc16 mo (.inr (6, [.int 0, .ref cn, .ref ia, .ref dr, .ref en, .ref la, .ref wo, .int 2, .ref op, .ref mk, .null, .int 0, .int 0, .int 0, .int 0, .int 0, .null, .null, .null, .null, .null, .null, .int 0, .int 0]))) := (hkp).self rfl
  have hR_mo_17 : (mu Mc16 mo (.inr (6, [.int 0, .ref cn, .ref ia, .ref dr, .ref en, .ref la, .ref wo, .int 2, .ref op, .ref mk, .null, .int 0, .int 0, .int 0, .int 0, .int 0, .null, .null, .null, .null, .null, .null, .int 0, .int 0]))) mo = _ := (mu_self _ _ _)
  have hR_cn_17 : (mu Mc16 mo (.inr (6, [.int 0, .ref cn, .ref ia, .ref dr, .ref en, .ref la, .ref wo, .int 2, .ref op, .ref mk, .null, .int 0, .int 0, .int 0, .int 0, .int 0, .null, .null, .null, .null, .null, .null, .int 0, .int 0]))) cn = _ := ((mu_ne ne_cn_mo).trans hR_cn_16)
  have hR_ia_17 : (mu Mc16 mo (.inr (6, [.int 0, .ref cn, .ref ia, .ref dr, .ref en, .ref la, .ref wo, .int 2, .ref op, .ref mk, .null, .int 0, .int 0, .int 0, .int 0, .int 0, .null, .null, .null, .null, .null, .null, .int 0, .int 0]))) ia = _ := ((mu_ne ne_ia_mo).trans hR_ia_16)
  have hR_dr_17 : (mu Mc16 mo (.inr (6, [.int 0, .ref cn, .ref ia, .ref dr, .ref en, .ref la, .ref wo, .int 2, .ref op, .ref mk, .null, .int 0, .int 0, .int 0, .int 0, .int 0, .null, .null, .null, .null, .null, .null, .int 0, .int 0]))) dr = _ := ((mu_ne ne_dr_mo).trans hR_dr_16)
  have hR_en_17 : (mu Mc16 mo (.inr (6, [.int 0, .ref cn, .ref ia, .ref dr, .ref en, .ref la, .ref wo, .int 2, .ref op, .ref mk, .null, .int 0, .int 0, .int 0, .int 0, .int 0, .null, .null, .null, .null, .null, .null, .int 0, .int 0]))) en = _ := ((mu_ne ne_en_mo).trans hR_en_16)
  have hR_la_17 : (mu Mc16 mo (.inr (6, [.int 0, .ref cn, .ref ia, .ref dr, .ref en, .ref la, .ref wo, .int 2, .ref op, .ref mk, .null, .int 0, .int 0, .int 0, .int 0, .int 0, .null, .null, .null, .null, .null, .null, .int 0, .int 0]))) la = _ := ((mu_ne ne_la_mo).trans hR_la_16)
  have hR_wo_17 : (mu Mc16 mo (.inr (6, [.int 0, .ref cn, .ref ia, .ref dr, .ref en, .ref la, .ref wo, .int 2, .ref op, .ref mk, .null, .int 0, .int 0, .int 0, .int 0, .int 0, .null, .null, .null, .null, .null, .null, .int 0, .int 0]))) wo = _ := ((mu_ne ne_wo_mo).trans hR_wo_16)
  have hR_op_17 : (mu Mc16 mo (.inr (6, [.int 0, .ref cn, .ref ia, .ref dr, .ref en, .ref la, .ref wo, .int 2, .ref op, .ref mk, .null, .int 0, .int 0, .int 0, .int 0, .int 0, .null, .null, .null, .null, .null, .null, .int 0, .int 0]))) op = _ := ((mu_ne ne_op_mo).trans hR_op_16)
  have hR_mk_17 : (mu Mc16 mo (.inr (6, [.int 0, .ref cn, .ref ia, .ref dr, .ref en, .ref la, .ref wo, .int 2, .ref op, .ref mk, .null, .int 0, .int 0, .int 0, .int 0, .int 0, .null, .null, .null, .null, .null, .null, .int 0, .int 0]))) mk = _ := ((mu_ne ne_mk_mo).trans hR_mk_16)
  generalize (mu Mc16 mo (.inr (6, [.int 0, .ref cn, .ref ia, .ref dr, .ref en, .ref la, .ref wo, .int 2, .ref op, .ref mk, .null, .int 0, .int 0, .int 0, .int 0, .int 0, .null, .null, .null, .null, .null, .null, .int 0, .int 0]))) = Mc17 at hm hkp hR_mo_17 hR_cn_17 hR_ia_17 hR_dr_17 hR_en_17 hR_la_17 hR_wo_17 hR_op_17 hR_mk_17
  refine lv_aload_n hx hb dX6_init_76 rfl (lv_at hl 0 rfl) ?_
  refine lv_ldc hx hb hown (hts (.constant RX6 41 (57000)) (by decide +kernel)) dX6_init_77 ?_
  refine m_newa (atype := .boolean) hx hb (hts (.arrayClass .boolean) (by decide +kernel)) (ty := .boolean) rfl (fun C h => by cases h) hK 2 rfl hm hS hA (N' := 57000) (a0 := (57000, .inl (fun _ => 0))) (fun cA => vp_cell_i cA _ _) (by decide) rfl (by decide) (Nat.le_of_ble_eq_true rfl) (Nat.le_of_ble_eq_true rfl) dX6_init_79 (fun ir H hir hm hS => ?_)
  refine W.widen (k := 9) (n := 322644) (Nat.le_of_ble_eq_true rfl) (Nat.le_of_ble_eq_true rfl) ?_
  have hn_ir := (hkp).no (fun h9 => absurd h9.symm (m_fr hir hR_mo_17)) hir
  have ne_mo_ir : mo ≠ ir := m_fr hir hR_mo_17
  have ne_ir_mo : ir ≠ mo := Ne.symm ne_mo_ir
  have ne_cn_ir : cn ≠ ir := m_fr hir hR_cn_17
  have ne_ir_cn : ir ≠ cn := Ne.symm ne_cn_ir
  have ne_ia_ir : ia ≠ ir := m_fr hir hR_ia_17
  have ne_ir_ia : ir ≠ ia := Ne.symm ne_ia_ir
  have ne_dr_ir : dr ≠ ir := m_fr hir hR_dr_17
  have ne_ir_dr : ir ≠ dr := Ne.symm ne_dr_ir
  have ne_en_ir : en ≠ ir := m_fr hir hR_en_17
  have ne_ir_en : ir ≠ en := Ne.symm ne_en_ir
  have ne_la_ir : la ≠ ir := m_fr hir hR_la_17
  have ne_ir_la : ir ≠ la := Ne.symm ne_la_ir
  have ne_wo_ir : wo ≠ ir := m_fr hir hR_wo_17
  have ne_ir_wo : ir ≠ wo := Ne.symm ne_wo_ir
  have ne_op_ir : op ≠ ir := m_fr hir hR_op_17
  have ne_ir_op : ir ≠ op := Ne.symm ne_op_ir
  have ne_mk_ir : mk ≠ ir := m_fr hir hR_mk_17
  have ne_ir_mk : ir ≠ mk := Ne.symm ne_mk_ir
  have hm : mm D (AZ z) (mu Mc17 ir (.inl (k 2, 57000, .inl (fun _ => 0)))) H := hm
  have hkp : kpx (fun a => a = mo) M (mu Mc17 ir (.inl (k 2, 57000, .inl (fun _ => 0)))) := (hkp).new hir
  have hR_mo_18 : (mu Mc17 ir (.inl (k 2, 57000, .inl (fun _ => 0)))) mo = _ := ((mu_ne ne_mo_ir).trans hR_mo_17)
  have hR_cn_18 : (mu Mc17 ir (.inl (k 2, 57000, .inl (fun _ => 0)))) cn = _ := ((mu_ne ne_cn_ir).trans hR_cn_17)
  have hR_ia_18 : (mu Mc17 ir (.inl (k 2, 57000, .inl (fun _ => 0)))) ia = _ := ((mu_ne ne_ia_ir).trans hR_ia_17)
  have hR_dr_18 : (mu Mc17 ir (.inl (k 2, 57000, .inl (fun _ => 0)))) dr = _ := ((mu_ne ne_dr_ir).trans hR_dr_17)
  have hR_en_18 : (mu Mc17 ir (.inl (k 2, 57000, .inl (fun _ => 0)))) en = _ := ((mu_ne ne_en_ir).trans hR_en_17)
  have hR_la_18 : (mu Mc17 ir (.inl (k 2, 57000, .inl (fun _ => 0)))) la = _ := ((mu_ne ne_la_ir).trans hR_la_17)
  have hR_wo_18 : (mu Mc17 ir (.inl (k 2, 57000, .inl (fun _ => 0)))) wo = _ := ((mu_ne ne_wo_ir).trans hR_wo_17)
  have hR_op_18 : (mu Mc17 ir (.inl (k 2, 57000, .inl (fun _ => 0)))) op = _ := ((mu_ne ne_op_ir).trans hR_op_17)
  have hR_mk_18 : (mu Mc17 ir (.inl (k 2, 57000, .inl (fun _ => 0)))) mk = _ := ((mu_ne ne_mk_ir).trans hR_mk_17)
  have hR_ir_18 : (mu Mc17 ir (.inl (k 2, 57000, .inl (fun _ => 0)))) ir = _ := (mu_self _ _ _)
  generalize (mu Mc17 ir (.inl (k 2, 57000, .inl (fun _ => 0)))) = Mc18 at hm hkp hR_mo_18 hR_cn_18 hR_ia_18 hR_dr_18 hR_en_18 hR_la_18 hR_wo_18 hR_op_18 hR_mk_18 hR_ir_18
  refine m_putF (T := TX6) (N := 24) (ci := 6) (v := .ref ir) (ty := .array .boolean) hx hb hts wX6 tyX6 tyX6_ok nmX6 hown hK hm hS hR_mo_18 rfl 10 (by decide) f42 (fun _ h9 => h9) rfl hin rfl (by decide +kernel) rfl rfl (Nat.le_of_ble_eq_true rfl) dX6_init_81 (fun H locs hm hS => ?_)
  have hm : mm D (AZ z) (mu Mc18 mo (.inr (6, [.int 0, .ref cn, .ref ia, .ref dr, .ref en, .ref la, .ref wo, .int 2, .ref op, .ref mk, .ref ir, .int 0, .int 0, .int 0, .int 0, .int 0, .null, .null, .null, .null, .null, .null, .int 0, .int 0]))) H := hm
  have hkp : kpx (fun a => a = mo) M (mu Mc18 mo (.inr (6, [.int 0, .ref cn, .ref ia, .ref dr, .ref en, .ref la, .ref wo, .int 2, .ref op, .ref mk, .ref ir, .int 0, .int 0, .int 0, .int 0, .int 0, .null, .null, .null, .null, .null, .null, .int 0, .int 0]))) := (hkp).self rfl
  have hR_mo_19 : (mu Mc18 mo (.inr (6, [.int 0, .ref cn, .ref ia, .ref dr, .ref en, .ref la, .ref wo, .int 2, .ref op, .ref mk, .ref ir, .int 0, .int 0, .int 0, .int 0, .int 0, .null, .null, .null, .null, .null, .null, .int 0, .int 0]))) mo = _ := (mu_self _ _ _)
  have hR_cn_19 : (mu Mc18 mo (.inr (6, [.int 0, .ref cn, .ref ia, .ref dr, .ref en, .ref la, .ref wo, .int 2, .ref op, .ref mk, .ref ir, .int 0, .int 0, .int 0, .int 0, .int 0, .null, .null, .null, .null, .null, .null, .int 0, .int 0]))) cn = _ := ((mu_ne ne_cn_mo).trans hR_cn_18)
  have hR_ia_19 : (mu Mc18 mo (.inr (6, [.int 0, .ref cn, .ref ia, .ref dr, .ref en, .ref la, .ref wo, .int 2, .ref op, .ref mk, .ref ir, .int 0, .int 0, .int 0, .int 0, .int 0, .null, .null, .null, .null, .null, .null, .int 0, .int 0]))) ia = _ := ((mu_ne ne_ia_mo).trans hR_ia_18)
  have hR_dr_19 : (mu Mc18 mo (.inr (6, [.int 0, .ref cn, .ref ia, .ref dr, .ref en, .ref la, .ref wo, .int 2, .ref op, .ref mk, .ref ir, .int 0, .int 0, .int 0, .int 0, .int 0, .null, .null, .null, .null, .null, .null, .int 0, .int 0]))) dr = _ := ((mu_ne ne_dr_mo).trans hR_dr_18)
  have hR_en_19 : (mu Mc18 mo (.inr (6, [.int 0, .ref cn, .ref ia, .ref dr, .ref en, .ref la, .ref wo, .int 2, .ref op, .ref mk, .ref ir, .int 0, .int 0, .int 0, .int 0, .int 0, .null, .null, .null, .null, .null, .null, .int 0, .int 0]))) en = _ := ((mu_ne ne_en_mo).trans hR_en_18)
  have hR_la_19 : (mu Mc18 mo (.inr (6, [.int 0, .ref cn, .ref ia, .ref dr, .ref en, .ref la, .ref wo, .int 2, .ref op, .ref mk, .ref ir, .int 0, .int 0, .int 0, .int 0, .int 0, .null, .null, .null, .null, .null, .null, .int 0, .int 0]))) la = _ := ((mu_ne ne_la_mo).trans hR_la_18)
  have hR_wo_19 : (mu Mc18 mo (.inr (6, [.int 0, .ref cn, .ref ia, .ref dr, .ref en, .ref la, .ref wo, .int 2, .ref op, .ref mk, .ref ir, .int 0, .int 0, .int 0, .int 0, .int 0, .null, .null, .null, .null, .null, .null, .int 0, .int 0]))) wo = _ := ((mu_ne ne_wo_mo).trans hR_wo_18)
  have hR_op_19 : (mu Mc18 mo (.inr (6, [.int 0, .ref cn, .ref ia, .ref dr, .ref en, .ref la, .ref wo, .int 2, .ref op, .ref mk, .ref ir, .int 0, .int 0, .int 0, .int 0, .int 0, .null, .null, .null, .null, .null, .null, .int 0, .int 0]))) op = _ := ((mu_ne ne_op_mo).trans hR_op_18)
  have hR_mk_19 : (mu Mc18 mo (.inr (6, [.int 0, .ref cn, .ref ia, .ref dr, .ref en, .ref la, .ref wo, .int 2, .ref op, .ref mk, .ref ir, .int 0, .int 0, .int 0, .int 0, .int 0, .null, .null, .null, .null, .null, .null, .int 0, .int 0]))) mk = _ := ((mu_ne ne_mk_mo).trans hR_mk_18)
  have hR_ir_19 : (mu Mc18 mo (.inr (6, [.int 0, .ref cn, .ref ia, .ref dr, .ref en, .ref la, .ref wo, .int 2, .ref op, .ref mk, .ref ir, .int 0, .int 0, .int 0, .int 0, .int 0, .null, .null, .null, .null, .null, .null, .int 0, .int 0]))) ir = _ := ((mu_ne ne_ir_mo).trans hR_ir_18)
  generalize (mu Mc18 mo (.inr (6, [.int 0, .ref cn, .ref ia, .ref dr, .ref en, .ref la, .ref wo, .int 2, .ref op, .ref mk, .ref ir, .int 0, .int 0, .int 0, .int 0, .int 0, .null, .null, .null, .null, .null, .null, .int 0, .int 0]))) = Mc19 at hm hkp hR_mo_19 hR_cn_19 hR_ia_19 hR_dr_19 hR_en_19 hR_la_19 hR_wo_19 hR_op_19 hR_mk_19 hR_ir_19
  refine lv_aload_n hx hb dX6_init_84 rfl (lv_at hl 0 rfl) ?_
  refine lv_iconst (v := (-1)) hx hb dX6_init_85 (by decide) ?_
  refine m_put (T := TX6) (N := 24) (ci := 6) (v := .int (-1)) (ty := .int) hx hb hts wX6 tyX6 tyX6_ok nmX6 hown hK hm hS hR_mo_19 rfl 13 (by decide) f45 (fun _ h9 => h9) rfl (by decide +kernel) rfl rfl (Nat.le_of_ble_eq_true rfl) dX6_init_86 (fun H locs hm hS => ?_)
  have hm : mm D (AZ z) (mu Mc19 mo (.inr (6, [.int 0, .ref cn, .ref ia, .ref dr, .ref en, .ref la, .ref wo, .int 2, .ref op, .ref mk, .ref ir, .int 0, .int 0, .int (-1), .int 0, .int 0, .null, .null, .null, .null, .null, .null, .int 0, .int 0]))) H := hm
  have hkp : kpx (fun a => a = mo) M (mu Mc19 mo (.inr (6, [.int 0, .ref cn, .ref ia, .ref dr, .ref en, .ref la, .ref wo, .int 2, .ref op, .ref mk, .ref ir, .int 0, .int 0, .int (-1), .int 0, .int 0, .null, .null, .null, .null, .null, .null, .int 0, .int 0]))) := (hkp).self rfl
  have hR_mo_20 : (mu Mc19 mo (.inr (6, [.int 0, .ref cn, .ref ia, .ref dr, .ref en, .ref la, .ref wo, .int 2, .ref op, .ref mk, .ref ir, .int 0, .int 0, .int (-1), .int 0, .int 0, .null, .null, .null, .null, .null, .null, .int 0, .int 0]))) mo = _ := (mu_self _ _ _)
  have hR_cn_20 : (mu Mc19 mo (.inr (6, [.int 0, .ref cn, .ref ia, .ref dr, .ref en, .ref la, .ref wo, .int 2, .ref op, .ref mk, .ref ir, .int 0, .int 0, .int (-1), .int 0, .int 0, .null, .null, .null, .null, .null, .null, .int 0, .int 0]))) cn = _ := ((mu_ne ne_cn_mo).trans hR_cn_19)
  have hR_ia_20 : (mu Mc19 mo (.inr (6, [.int 0, .ref cn, .ref ia, .ref dr, .ref en, .ref la, .ref wo, .int 2, .ref op, .ref mk, .ref ir, .int 0, .int 0, .int (-1), .int 0, .int 0, .null, .null, .null, .null, .null, .null, .int 0, .int 0]))) ia = _ := ((mu_ne ne_ia_mo).trans hR_ia_19)
  have hR_dr_20 : (mu Mc19 mo (.inr (6, [.int 0, .ref cn, .ref ia, .ref dr, .ref en, .ref la, .ref wo, .int 2, .ref op, .ref mk, .ref ir, .int 0, .int 0, .int (-1), .int 0, .int 0, .null, .null, .null, .null, .null, .null, .int 0, .int 0]))) dr = _ := ((mu_ne ne_dr_mo).trans hR_dr_19)
  have hR_en_20 : (mu Mc19 mo (.inr (6, [.int 0, .ref cn, .ref ia, .ref dr, .ref en, .ref la, .ref wo, .int 2, .ref op, .ref mk, .ref ir, .int 0, .int 0, .int (-1), .int 0, .int 0, .null, .null, .null, .null, .null, .null, .int 0, .int 0]))) en = _ := ((mu_ne ne_en_mo).trans hR_en_19)
  have hR_la_20 : (mu Mc19 mo (.inr (6, [.int 0, .ref cn, .ref ia, .ref dr, .ref en, .ref la, .ref wo, .int 2, .ref op, .ref mk, .ref ir, .int 0, .int 0, .int (-1), .int 0, .int 0, .null, .null, .null, .null, .null, .null, .int 0, .int 0]))) la = _ := ((mu_ne ne_la_mo).trans hR_la_19)
  have hR_wo_20 : (mu Mc19 mo (.inr (6, [.int 0, .ref cn, .ref ia, .ref dr, .ref en, .ref la, .ref wo, .int 2, .ref op, .ref mk, .ref ir, .int 0, .int 0, .int (-1), .int 0, .int 0, .null, .null, .null, .null, .null, .null, .int 0, .int 0]))) wo = _ := ((mu_ne ne_wo_mo).trans hR_wo_19)
  have hR_op_20 : (mu Mc19 mo (.inr (6, [.int 0, .ref cn, .ref ia, .ref dr, .ref en, .ref la, .ref wo, .int 2, .ref op, .ref mk, .ref ir, .int 0, .int 0, .int (-1), .int 0, .int 0, .null, .null, .null, .null, .null, .null, .int 0, .int 0]))) op = _ := ((mu_ne ne_op_mo).trans hR_op_19)
  have hR_mk_20 : (mu Mc19 mo (.inr (6, [.int 0, .ref cn, .ref ia, .ref dr, .ref en, .ref la, .ref wo, .int 2, .ref op, .ref mk, .ref ir, .int 0, .int 0, .int (-1), .int 0, .int 0, .null, .null, .null, .null, .null, .null, .int 0, .int 0]))) mk = _ := ((mu_ne ne_mk_mo).trans hR_mk_19)
  have hR_ir_20 : (mu Mc19 mo (.inr (6, [.int 0, .ref cn, .ref ia, .ref dr, .ref en, .ref la, .ref wo, .int 2, .ref op, .ref mk, .ref ir, .int 0, .int 0, .int (-1), .int 0, .int 0, .null, .null, .null, .null, .null, .null, .int 0, .int 0]))) ir = _ := ((mu_ne ne_ir_mo).trans hR_ir_19)
  generalize (mu Mc19 mo (.inr (6, [.int 0, .ref cn, .ref ia, .ref dr, .ref en, .ref la, .ref wo, .int 2, .ref op, .ref mk, .ref ir, .int 0, .int 0, .int (-1), .int 0, .int 0, .null, .null, .null, .null, .null, .null, .int 0, .int 0]))) = Mc20 at hm hkp hR_mo_20 hR_cn_20 hR_ia_20 hR_dr_20 hR_en_20 hR_la_20 hR_wo_20 hR_op_20 hR_mk_20 hR_ir_20
  refine lv_aload_n hx hb dX6_init_89 rfl (lv_at hl 0 rfl) ?_
  refine lv_bipush (v := 100) hx hb dX6_init_90 (by decide) ?_
  refine m_newa (atype := .boolean) hx hb (hts (.arrayClass .boolean) (by decide +kernel)) (ty := .boolean) rfl (fun C h => by cases h) hK 2 rfl hm hS hA (N' := 100) (a0 := (100, .inl (fun _ => 0))) (fun cA => vp_cell_i cA _ _) (by decide) rfl (by decide) (Nat.le_of_ble_eq_true rfl) (Nat.le_of_ble_eq_true rfl) dX6_init_92 (fun se H hse hm hS => ?_)
  refine W.widen (k := 10) (n := 322744) (Nat.le_of_ble_eq_true rfl) (Nat.le_of_ble_eq_true rfl) ?_
  have hn_se := (hkp).no (fun h9 => absurd h9.symm (m_fr hse hR_mo_20)) hse
  have ne_mo_se : mo ≠ se := m_fr hse hR_mo_20
  have ne_se_mo : se ≠ mo := Ne.symm ne_mo_se
  have ne_cn_se : cn ≠ se := m_fr hse hR_cn_20
  have ne_se_cn : se ≠ cn := Ne.symm ne_cn_se
  have ne_ia_se : ia ≠ se := m_fr hse hR_ia_20
  have ne_se_ia : se ≠ ia := Ne.symm ne_ia_se
  have ne_dr_se : dr ≠ se := m_fr hse hR_dr_20
  have ne_se_dr : se ≠ dr := Ne.symm ne_dr_se
  have ne_en_se : en ≠ se := m_fr hse hR_en_20
  have ne_se_en : se ≠ en := Ne.symm ne_en_se
  have ne_la_se : la ≠ se := m_fr hse hR_la_20
  have ne_se_la : se ≠ la := Ne.symm ne_la_se
  have ne_wo_se : wo ≠ se := m_fr hse hR_wo_20
  have ne_se_wo : se ≠ wo := Ne.symm ne_wo_se
  have ne_op_se : op ≠ se := m_fr hse hR_op_20
  have ne_se_op : se ≠ op := Ne.symm ne_op_se
  have ne_mk_se : mk ≠ se := m_fr hse hR_mk_20
  have ne_se_mk : se ≠ mk := Ne.symm ne_mk_se
  have ne_ir_se : ir ≠ se := m_fr hse hR_ir_20
  have ne_se_ir : se ≠ ir := Ne.symm ne_ir_se
  have hm : mm D (AZ z) (mu Mc20 se (.inl (k 2, 100, .inl (fun _ => 0)))) H := hm
  have hkp : kpx (fun a => a = mo) M (mu Mc20 se (.inl (k 2, 100, .inl (fun _ => 0)))) := (hkp).new hse
  have hR_mo_21 : (mu Mc20 se (.inl (k 2, 100, .inl (fun _ => 0)))) mo = _ := ((mu_ne ne_mo_se).trans hR_mo_20)
  have hR_cn_21 : (mu Mc20 se (.inl (k 2, 100, .inl (fun _ => 0)))) cn = _ := ((mu_ne ne_cn_se).trans hR_cn_20)
  have hR_ia_21 : (mu Mc20 se (.inl (k 2, 100, .inl (fun _ => 0)))) ia = _ := ((mu_ne ne_ia_se).trans hR_ia_20)
  have hR_dr_21 : (mu Mc20 se (.inl (k 2, 100, .inl (fun _ => 0)))) dr = _ := ((mu_ne ne_dr_se).trans hR_dr_20)
  have hR_en_21 : (mu Mc20 se (.inl (k 2, 100, .inl (fun _ => 0)))) en = _ := ((mu_ne ne_en_se).trans hR_en_20)
  have hR_la_21 : (mu Mc20 se (.inl (k 2, 100, .inl (fun _ => 0)))) la = _ := ((mu_ne ne_la_se).trans hR_la_20)
  have hR_wo_21 : (mu Mc20 se (.inl (k 2, 100, .inl (fun _ => 0)))) wo = _ := ((mu_ne ne_wo_se).trans hR_wo_20)
  have hR_op_21 : (mu Mc20 se (.inl (k 2, 100, .inl (fun _ => 0)))) op = _ := ((mu_ne ne_op_se).trans hR_op_20)
  have hR_mk_21 : (mu Mc20 se (.inl (k 2, 100, .inl (fun _ => 0)))) mk = _ := ((mu_ne ne_mk_se).trans hR_mk_20)
  have hR_ir_21 : (mu Mc20 se (.inl (k 2, 100, .inl (fun _ => 0)))) ir = _ := ((mu_ne ne_ir_se).trans hR_ir_20)
  have hR_se_21 : (mu Mc20 se (.inl (k 2, 100, .inl (fun _ => 0)))) se = _ := (mu_self _ _ _)
  generalize (mu Mc20 se (.inl (k 2, 100, .inl (fun _ => 0)))) = Mc21 at hm hkp hR_mo_21 hR_cn_21 hR_ia_21 hR_dr_21 hR_en_21 hR_la_21 hR_wo_21 hR_op_21 hR_mk_21 hR_ir_21 hR_se_21
  refine m_putF (T := TX6) (N := 24) (ci := 6) (v := .ref se) (ty := .array .boolean) hx hb hts wX6 tyX6 tyX6_ok nmX6 hown hK hm hS hR_mo_21 rfl 16 (by decide) f48 (fun _ h9 => h9) rfl hin rfl (by decide +kernel) rfl rfl (Nat.le_of_ble_eq_true rfl) dX6_init_94 (fun H locs hm hS => ?_)
  have hm : mm D (AZ z) (mu Mc21 mo (.inr (6, [.int 0, .ref cn, .ref ia, .ref dr, .ref en, .ref la, .ref wo, .int 2, .ref op, .ref mk, .ref ir, .int 0, .int 0, .int (-1), .int 0, .int 0, .ref se, .null, .null, .null, .null, .null, .int 0, .int 0]))) H := hm
  have hkp : kpx (fun a => a = mo) M (mu Mc21 mo (.inr (6, [.int 0, .ref cn, .ref ia, .ref dr, .ref en, .ref la, .ref wo, .int 2, .ref op, .ref mk, .ref ir, .int 0, .int 0, .int (-1), .int 0, .int 0, .ref se, .null, .null, .null, .null, .null, .int 0, .int 0]))) := (hkp).self rfl
  have hR_mo_22 : (mu Mc21 mo (.inr (6, [.int 0, .ref cn, .ref ia, .ref dr, .ref en, .ref la, .ref wo, .int 2, .ref op, .ref mk, .ref ir, .int 0, .int 0, .int (-1), .int 0, .int 0, .ref se, .null, .null, .null, .null, .null, .int 0, .int 0]))) mo = _ := (mu_self _ _ _)
  have hR_cn_22 : (mu Mc21 mo (.inr (6, [.int 0, .ref cn, .ref ia, .ref dr, .ref en, .ref la, .ref wo, .int 2, .ref op, .ref mk, .ref ir, .int 0, .int 0, .int (-1), .int 0, .int 0, .ref se, .null, .null, .null, .null, .null, .int 0, .int 0]))) cn = _ := ((mu_ne ne_cn_mo).trans hR_cn_21)
  have hR_ia_22 : (mu Mc21 mo (.inr (6, [.int 0, .ref cn, .ref ia, .ref dr, .ref en, .ref la, .ref wo, .int 2, .ref op, .ref mk, .ref ir, .int 0, .int 0, .int (-1), .int 0, .int 0, .ref se, .null, .null, .null, .null, .null, .int 0, .int 0]))) ia = _ := ((mu_ne ne_ia_mo).trans hR_ia_21)
  have hR_dr_22 : (mu Mc21 mo (.inr (6, [.int 0, .ref cn, .ref ia, .ref dr, .ref en, .ref la, .ref wo, .int 2, .ref op, .ref mk, .ref ir, .int 0, .int 0, .int (-1), .int 0, .int 0, .ref se, .null, .null, .null, .null, .null, .int 0, .int 0]))) dr = _ := ((mu_ne ne_dr_mo).trans hR_dr_21)
  have hR_en_22 : (mu Mc21 mo (.inr (6, [.int 0, .ref cn, .ref ia, .ref dr, .ref en, .ref la, .ref wo, .int 2, .ref op, .ref mk, .ref ir, .int 0, .int 0, .int (-1), .int 0, .int 0, .ref se, .null, .null, .null, .null, .null, .int 0, .int 0]))) en = _ := ((mu_ne ne_en_mo).trans hR_en_21)
  have hR_la_22 : (mu Mc21 mo (.inr (6, [.int 0, .ref cn, .ref ia, .ref dr, .ref en, .ref la, .ref wo, .int 2, .ref op, .ref mk, .ref ir, .int 0, .int 0, .int (-1), .int 0, .int 0, .ref se, .null, .null, .null, .null, .null, .int 0, .int 0]))) la = _ := ((mu_ne ne_la_mo).trans hR_la_21)
  have hR_wo_22 : (mu Mc21 mo (.inr (6, [.int 0, .ref cn, .ref ia, .ref dr, .ref en, .ref la, .ref wo, .int 2, .ref op, .ref mk, .ref ir, .int 0, .int 0, .int (-1), .int 0, .int 0, .ref se, .null, .null, .null, .null, .null, .int 0, .int 0]))) wo = _ := ((mu_ne ne_wo_mo).trans hR_wo_21)
  have hR_op_22 : (mu Mc21 mo (.inr (6, [.int 0, .ref cn, .ref ia, .ref dr, .ref en, .ref la, .ref wo, .int 2, .ref op, .ref mk, .ref ir, .int 0, .int 0, .int (-1), .int 0, .int 0, .ref se, .null, .null, .null, .null, .null, .int 0, .int 0]))) op = _ := ((mu_ne ne_op_mo).trans hR_op_21)
  have hR_mk_22 : (mu Mc21 mo (.inr (6, [.int 0, .ref cn, .ref ia, .ref dr, .ref en, .ref la, .ref wo, .int 2, .ref op, .ref mk, .ref ir, .int 0, .int 0, .int (-1), .int 0, .int 0, .ref se, .null, .null, .null, .null, .null, .int 0, .int 0]))) mk = _ := ((mu_ne ne_mk_mo).trans hR_mk_21)
  have hR_ir_22 : (mu Mc21 mo (.inr (6, [.int 0, .ref cn, .ref ia, .ref dr, .ref en, .ref la, .ref wo, .int 2, .ref op, .ref mk, .ref ir, .int 0, .int 0, .int (-1), .int 0, .int 0, .ref se, .null, .null, .null, .null, .null, .int 0, .int 0]))) ir = _ := ((mu_ne ne_ir_mo).trans hR_ir_21)
  have hR_se_22 : (mu Mc21 mo (.inr (6, [.int 0, .ref cn, .ref ia, .ref dr, .ref en, .ref la, .ref wo, .int 2, .ref op, .ref mk, .ref ir, .int 0, .int 0, .int (-1), .int 0, .int 0, .ref se, .null, .null, .null, .null, .null, .int 0, .int 0]))) se = _ := ((mu_ne ne_se_mo).trans hR_se_21)
  generalize (mu Mc21 mo (.inr (6, [.int 0, .ref cn, .ref ia, .ref dr, .ref en, .ref la, .ref wo, .int 2, .ref op, .ref mk, .ref ir, .int 0, .int 0, .int (-1), .int 0, .int 0, .ref se, .null, .null, .null, .null, .null, .int 0, .int 0]))) = Mc22 at hm hkp hR_mo_22 hR_cn_22 hR_ia_22 hR_dr_22 hR_en_22 hR_la_22 hR_wo_22 hR_op_22 hR_mk_22 hR_ir_22 hR_se_22
  refine lv_aload_n hx hb dX6_init_97 rfl (lv_at hl 0 rfl) ?_
  refine lv_bipush (v := 100) hx hb dX6_init_98 (by decide) ?_
  refine m_newa (atype := .int) hx hb (hts (.arrayClass .int) (by decide +kernel)) (ty := .int) rfl (fun C h => by cases h) hK 0 rfl hm hS hA (N' := 100) (a0 := (100, .inl (fun _ => 0))) (fun cA => vp_cell_i cA _ _) (by decide) rfl (by decide) (Nat.le_of_ble_eq_true rfl) (Nat.le_of_ble_eq_true rfl) dX6_init_100 (fun ec H hec hm hS => ?_)
  refine W.widen (k := 11) (n := 322844) (Nat.le_of_ble_eq_true rfl) (Nat.le_of_ble_eq_true rfl) ?_
  have hn_ec := (hkp).no (fun h9 => absurd h9.symm (m_fr hec hR_mo_22)) hec
  have ne_mo_ec : mo ≠ ec := m_fr hec hR_mo_22
  have ne_ec_mo : ec ≠ mo := Ne.symm ne_mo_ec
  have ne_cn_ec : cn ≠ ec := m_fr hec hR_cn_22
  have ne_ec_cn : ec ≠ cn := Ne.symm ne_cn_ec
  have ne_ia_ec : ia ≠ ec := m_fr hec hR_ia_22
  have ne_ec_ia : ec ≠ ia := Ne.symm ne_ia_ec
  have ne_dr_ec : dr ≠ ec := m_fr hec hR_dr_22
  have ne_ec_dr : ec ≠ dr := Ne.symm ne_dr_ec
  have ne_en_ec : en ≠ ec := m_fr hec hR_en_22
  have ne_ec_en : ec ≠ en := Ne.symm ne_en_ec
  have ne_la_ec : la ≠ ec := m_fr hec hR_la_22
  have ne_ec_la : ec ≠ la := Ne.symm ne_la_ec
  have ne_wo_ec : wo ≠ ec := m_fr hec hR_wo_22
  have ne_ec_wo : ec ≠ wo := Ne.symm ne_wo_ec
  have ne_op_ec : op ≠ ec := m_fr hec hR_op_22
  have ne_ec_op : ec ≠ op := Ne.symm ne_op_ec
  have ne_mk_ec : mk ≠ ec := m_fr hec hR_mk_22
  have ne_ec_mk : ec ≠ mk := Ne.symm ne_mk_ec
  have ne_ir_ec : ir ≠ ec := m_fr hec hR_ir_22
  have ne_ec_ir : ec ≠ ir := Ne.symm ne_ir_ec
  have ne_se_ec : se ≠ ec := m_fr hec hR_se_22
  have ne_ec_se : ec ≠ se := Ne.symm ne_se_ec
  have hm : mm D (AZ z) (mu Mc22 ec (.inl (k 0, 100, .inl (fun _ => 0)))) H := hm
  have hkp : kpx (fun a => a = mo) M (mu Mc22 ec (.inl (k 0, 100, .inl (fun _ => 0)))) := (hkp).new hec
  have hR_mo_23 : (mu Mc22 ec (.inl (k 0, 100, .inl (fun _ => 0)))) mo = _ := ((mu_ne ne_mo_ec).trans hR_mo_22)
  have hR_cn_23 : (mu Mc22 ec (.inl (k 0, 100, .inl (fun _ => 0)))) cn = _ := ((mu_ne ne_cn_ec).trans hR_cn_22)
  have hR_ia_23 : (mu Mc22 ec (.inl (k 0, 100, .inl (fun _ => 0)))) ia = _ := ((mu_ne ne_ia_ec).trans hR_ia_22)
  have hR_dr_23 : (mu Mc22 ec (.inl (k 0, 100, .inl (fun _ => 0)))) dr = _ := ((mu_ne ne_dr_ec).trans hR_dr_22)
  have hR_en_23 : (mu Mc22 ec (.inl (k 0, 100, .inl (fun _ => 0)))) en = _ := ((mu_ne ne_en_ec).trans hR_en_22)
  have hR_la_23 : (mu Mc22 ec (.inl (k 0, 100, .inl (fun _ => 0)))) la = _ := ((mu_ne ne_la_ec).trans hR_la_22)
  have hR_wo_23 : (mu Mc22 ec (.inl (k 0, 100, .inl (fun _ => 0)))) wo = _ := ((mu_ne ne_wo_ec).trans hR_wo_22)
  have hR_op_23 : (mu Mc22 ec (.inl (k 0, 100, .inl (fun _ => 0)))) op = _ := ((mu_ne ne_op_ec).trans hR_op_22)
  have hR_mk_23 : (mu Mc22 ec (.inl (k 0, 100, .inl (fun _ => 0)))) mk = _ := ((mu_ne ne_mk_ec).trans hR_mk_22)
  have hR_ir_23 : (mu Mc22 ec (.inl (k 0, 100, .inl (fun _ => 0)))) ir = _ := ((mu_ne ne_ir_ec).trans hR_ir_22)
  have hR_se_23 : (mu Mc22 ec (.inl (k 0, 100, .inl (fun _ => 0)))) se = _ := ((mu_ne ne_se_ec).trans hR_se_22)
  have hR_ec_23 : (mu Mc22 ec (.inl (k 0, 100, .inl (fun _ => 0)))) ec = _ := (mu_self _ _ _)
  generalize (mu Mc22 ec (.inl (k 0, 100, .inl (fun _ => 0)))) = Mc23 at hm hkp hR_mo_23 hR_cn_23 hR_ia_23 hR_dr_23 hR_en_23 hR_la_23 hR_wo_23 hR_op_23 hR_mk_23 hR_ir_23 hR_se_23 hR_ec_23
  refine m_putF (T := TX6) (N := 24) (ci := 6) (v := .ref ec) (ty := .array .int) hx hb hts wX6 tyX6 tyX6_ok nmX6 hown hK hm hS hR_mo_23 rfl 17 (by decide) f51 (fun _ h9 => h9) rfl hin rfl (by decide +kernel) rfl rfl (Nat.le_of_ble_eq_true rfl) dX6_init_102 (fun H locs hm hS => ?_)
  have hm : mm D (AZ z) (mu Mc23 mo (.inr (6, [.int 0, .ref cn, .ref ia, .ref dr, .ref en, .ref la, .ref wo, .int 2, .ref op, .ref mk, .ref ir, .int 0, .int 0, .int (-1), .int 0, .int 0, .ref se, .ref ec, .null, .null, .null, .null, .int 0, .int 0]))) H := hm
  have hkp : kpx (fun a => a = mo) M (mu Mc23 mo (.inr (6, [.int 0, .ref cn, .ref ia, .ref dr, .ref en, .ref la, .ref wo, .int 2, .ref op, .ref mk, .ref ir, .int 0, .int 0, .int (-1), .int 0, .int 0, .ref se, .ref ec, .null, .null, .null, .null, .int 0, .int 0]))) := (hkp).self rfl
  have hR_mo_24 : (mu Mc23 mo (.inr (6, [.int 0, .ref cn, .ref ia, .ref dr, .ref en, .ref la, .ref wo, .int 2, .ref op, .ref mk, .ref ir, .int 0, .int 0, .int (-1), .int 0, .int 0, .ref se, .ref ec, .null, .null, .null, .null, .int 0, .int 0]))) mo = _ := (mu_self _ _ _)
  have hR_cn_24 : (mu Mc23 mo (.inr (6, [.int 0, .ref cn, .ref ia, .ref dr, .ref en, .ref la, .ref wo, .int 2, .ref op, .ref mk, .ref ir, .int 0, .int 0, .int (-1), .int 0, .int 0, .ref se, .ref ec, .null, .null, .null, .null, .int 0, .int 0]))) cn = _ := ((mu_ne ne_cn_mo).trans hR_cn_23)
  have hR_ia_24 : (mu Mc23 mo (.inr (6, [.int 0, .ref cn, .ref ia, .ref dr, .ref en, .ref la, .ref wo, .int 2, .ref op, .ref mk, .ref ir, .int 0, .int 0, .int (-1), .int 0, .int 0, .ref se, .ref ec, .null, .null, .null, .null, .int 0, .int 0]))) ia = _ := ((mu_ne ne_ia_mo).trans hR_ia_23)
  have hR_dr_24 : (mu Mc23 mo (.inr (6, [.int 0, .ref cn, .ref ia, .ref dr, .ref en, .ref la, .ref wo, .int 2, .ref op, .ref mk, .ref ir, .int 0, .int 0, .int (-1), .int 0, .int 0, .ref se, .ref ec, .null, .null, .null, .null, .int 0, .int 0]))) dr = _ := ((mu_ne ne_dr_mo).trans hR_dr_23)
  have hR_en_24 : (mu Mc23 mo (.inr (6, [.int 0, .ref cn, .ref ia, .ref dr, .ref en, .ref la, .ref wo, .int 2, .ref op, .ref mk, .ref ir, .int 0, .int 0, .int (-1), .int 0, .int 0, .ref se, .ref ec, .null, .null, .null, .null, .int 0, .int 0]))) en = _ := ((mu_ne ne_en_mo).trans hR_en_23)
  have hR_la_24 : (mu Mc23 mo (.inr (6, [.int 0, .ref cn, .ref ia, .ref dr, .ref en, .ref la, .ref wo, .int 2, .ref op, .ref mk, .ref ir, .int 0, .int 0, .int (-1), .int 0, .int 0, .ref se, .ref ec, .null, .null, .null, .null, .int 0, .int 0]))) la = _ := ((mu_ne ne_la_mo).trans hR_la_23)
  have hR_wo_24 : (mu Mc23 mo (.inr (6, [.int 0, .ref cn, .ref ia, .ref dr, .ref en, .ref la, .ref wo, .int 2, .ref op, .ref mk, .ref ir, .int 0, .int 0, .int (-1), .int 0, .int 0, .ref se, .ref ec, .null, .null, .null, .null, .int 0, .int 0]))) wo = _ := ((mu_ne ne_wo_mo).trans hR_wo_23)
  have hR_op_24 : (mu Mc23 mo (.inr (6, [.int 0, .ref cn, .ref ia, .ref dr, .ref en, .ref la, .ref wo, .int 2, .ref op, .ref mk, .ref ir, .int 0, .int 0, .int (-1), .int 0, .int 0, .ref se, .ref ec, .null, .null, .null, .null, .int 0, .int 0]))) op = _ := ((mu_ne ne_op_mo).trans hR_op_23)
  have hR_mk_24 : (mu Mc23 mo (.inr (6, [.int 0, .ref cn, .ref ia, .ref dr, .ref en, .ref la, .ref wo, .int 2, .ref op, .ref mk, .ref ir, .int 0, .int 0, .int (-1), .int 0, .int 0, .ref se, .ref ec, .null, .null, .null, .null, .int 0, .int 0]))) mk = _ := ((mu_ne ne_mk_mo).trans hR_mk_23)
  have hR_ir_24 : (mu Mc23 mo (.inr (6, [.int 0, .ref cn, .ref ia, .ref dr, .ref en, .ref la, .ref wo, .int 2, .ref op, .ref mk, .ref ir, .int 0, .int 0, .int (-1), .int 0, .int 0, .ref se, .ref ec, .null, .null, .null, .null, .int 0, .int 0]))) ir = _ := ((mu_ne ne_ir_mo).trans hR_ir_23)
  have hR_se_24 : (mu Mc23 mo (.inr (6, [.int 0, .ref cn, .ref ia, .ref dr, .ref en, .ref la, .ref wo, .int 2, .ref op, .ref mk, .ref ir, .int 0, .int 0, .int (-1), .int 0, .int 0, .ref se, .ref ec, .null, .null, .null, .null, .int 0, .int 0]))) se = _ := ((mu_ne ne_se_mo).trans hR_se_23)
  have hR_ec_24 : (mu Mc23 mo (.inr (6, [.int 0, .ref cn, .ref ia, .ref dr, .ref en, .ref la, .ref wo, .int 2, .ref op, .ref mk, .ref ir, .int 0, .int 0, .int (-1), .int 0, .int 0, .ref se, .ref ec, .null, .null, .null, .null, .int 0, .int 0]))) ec = _ := ((mu_ne ne_ec_mo).trans hR_ec_23)
  generalize (mu Mc23 mo (.inr (6, [.int 0, .ref cn, .ref ia, .ref dr, .ref en, .ref la, .ref wo, .int 2, .ref op, .ref mk, .ref ir, .int 0, .int 0, .int (-1), .int 0, .int 0, .ref se, .ref ec, .null, .null, .null, .null, .int 0, .int 0]))) = Mc24 at hm hkp hR_mo_24 hR_cn_24 hR_ia_24 hR_dr_24 hR_en_24 hR_la_24 hR_wo_24 hR_op_24 hR_mk_24 hR_ir_24 hR_se_24 hR_ec_24
  refine lv_aload_n hx hb dX6_init_105 rfl (lv_at hl 0 rfl) ?_
  refine lv_bipush (v := 100) hx hb dX6_init_106 (by decide) ?_
  refine m_newa (atype := .boolean) hx hb (hts (.arrayClass .boolean) (by decide +kernel)) (ty := .boolean) rfl (fun C h => by cases h) hK 2 rfl hm hS hA (N' := 100) (a0 := (100, .inl (fun _ => 0))) (fun cA => vp_cell_i cA _ _) (by decide) rfl (by decide) (Nat.le_of_ble_eq_true rfl) (Nat.le_of_ble_eq_true rfl) dX6_init_108 (fun lc H hlc hm hS => ?_)
  refine W.widen (k := 12) (n := 322944) (Nat.le_of_ble_eq_true rfl) (Nat.le_of_ble_eq_true rfl) ?_
  have hn_lc := (hkp).no (fun h9 => absurd h9.symm (m_fr hlc hR_mo_24)) hlc
  have ne_mo_lc : mo ≠ lc := m_fr hlc hR_mo_24
  have ne_lc_mo : lc ≠ mo := Ne.symm ne_mo_lc
  have ne_cn_lc : cn ≠ lc := m_fr hlc hR_cn_24
  have ne_lc_cn : lc ≠ cn := Ne.symm ne_cn_lc
  have ne_ia_lc : ia ≠ lc := m_fr hlc hR_ia_24
  have ne_lc_ia : lc ≠ ia := Ne.symm ne_ia_lc
  have ne_dr_lc : dr ≠ lc := m_fr hlc hR_dr_24
  have ne_lc_dr : lc ≠ dr := Ne.symm ne_dr_lc
  have ne_en_lc : en ≠ lc := m_fr hlc hR_en_24
  have ne_lc_en : lc ≠ en := Ne.symm ne_en_lc
  have ne_la_lc : la ≠ lc := m_fr hlc hR_la_24
  have ne_lc_la : lc ≠ la := Ne.symm ne_la_lc
  have ne_wo_lc : wo ≠ lc := m_fr hlc hR_wo_24
  have ne_lc_wo : lc ≠ wo := Ne.symm ne_wo_lc
  have ne_op_lc : op ≠ lc := m_fr hlc hR_op_24
  have ne_lc_op : lc ≠ op := Ne.symm ne_op_lc
  have ne_mk_lc : mk ≠ lc := m_fr hlc hR_mk_24
  have ne_lc_mk : lc ≠ mk := Ne.symm ne_mk_lc
  have ne_ir_lc : ir ≠ lc := m_fr hlc hR_ir_24
  have ne_lc_ir : lc ≠ ir := Ne.symm ne_ir_lc
  have ne_se_lc : se ≠ lc := m_fr hlc hR_se_24
  have ne_lc_se : lc ≠ se := Ne.symm ne_se_lc
  have ne_ec_lc : ec ≠ lc := m_fr hlc hR_ec_24
  have ne_lc_ec : lc ≠ ec := Ne.symm ne_ec_lc
  have hm : mm D (AZ z) (mu Mc24 lc (.inl (k 2, 100, .inl (fun _ => 0)))) H := hm
  have hkp : kpx (fun a => a = mo) M (mu Mc24 lc (.inl (k 2, 100, .inl (fun _ => 0)))) := (hkp).new hlc
  have hR_mo_25 : (mu Mc24 lc (.inl (k 2, 100, .inl (fun _ => 0)))) mo = _ := ((mu_ne ne_mo_lc).trans hR_mo_24)
  have hR_cn_25 : (mu Mc24 lc (.inl (k 2, 100, .inl (fun _ => 0)))) cn = _ := ((mu_ne ne_cn_lc).trans hR_cn_24)
  have hR_ia_25 : (mu Mc24 lc (.inl (k 2, 100, .inl (fun _ => 0)))) ia = _ := ((mu_ne ne_ia_lc).trans hR_ia_24)
  have hR_dr_25 : (mu Mc24 lc (.inl (k 2, 100, .inl (fun _ => 0)))) dr = _ := ((mu_ne ne_dr_lc).trans hR_dr_24)
  have hR_en_25 : (mu Mc24 lc (.inl (k 2, 100, .inl (fun _ => 0)))) en = _ := ((mu_ne ne_en_lc).trans hR_en_24)
  have hR_la_25 : (mu Mc24 lc (.inl (k 2, 100, .inl (fun _ => 0)))) la = _ := ((mu_ne ne_la_lc).trans hR_la_24)
  have hR_wo_25 : (mu Mc24 lc (.inl (k 2, 100, .inl (fun _ => 0)))) wo = _ := ((mu_ne ne_wo_lc).trans hR_wo_24)
  have hR_op_25 : (mu Mc24 lc (.inl (k 2, 100, .inl (fun _ => 0)))) op = _ := ((mu_ne ne_op_lc).trans hR_op_24)
  have hR_mk_25 : (mu Mc24 lc (.inl (k 2, 100, .inl (fun _ => 0)))) mk = _ := ((mu_ne ne_mk_lc).trans hR_mk_24)
  have hR_ir_25 : (mu Mc24 lc (.inl (k 2, 100, .inl (fun _ => 0)))) ir = _ := ((mu_ne ne_ir_lc).trans hR_ir_24)
  have hR_se_25 : (mu Mc24 lc (.inl (k 2, 100, .inl (fun _ => 0)))) se = _ := ((mu_ne ne_se_lc).trans hR_se_24)
  have hR_ec_25 : (mu Mc24 lc (.inl (k 2, 100, .inl (fun _ => 0)))) ec = _ := ((mu_ne ne_ec_lc).trans hR_ec_24)
  have hR_lc_25 : (mu Mc24 lc (.inl (k 2, 100, .inl (fun _ => 0)))) lc = _ := (mu_self _ _ _)
  generalize (mu Mc24 lc (.inl (k 2, 100, .inl (fun _ => 0)))) = Mc25 at hm hkp hR_mo_25 hR_cn_25 hR_ia_25 hR_dr_25 hR_en_25 hR_la_25 hR_wo_25 hR_op_25 hR_mk_25 hR_ir_25 hR_se_25 hR_ec_25 hR_lc_25
  refine m_putF (T := TX6) (N := 24) (ci := 6) (v := .ref lc) (ty := .array .boolean) hx hb hts wX6 tyX6 tyX6_ok nmX6 hown hK hm hS hR_mo_25 rfl 18 (by decide) f54 (fun _ h9 => h9) rfl hin rfl (by decide +kernel) rfl rfl (Nat.le_of_ble_eq_true rfl) dX6_init_110 (fun H locs hm hS => ?_)
  have hm : mm D (AZ z) (mu Mc25 mo (.inr (6, [.int 0, .ref cn, .ref ia, .ref dr, .ref en, .ref la, .ref wo, .int 2, .ref op, .ref mk, .ref ir, .int 0, .int 0, .int (-1), .int 0, .int 0, .ref se, .ref ec, .ref lc, .null, .null, .null, .int 0, .int 0]))) H := hm
  have hkp : kpx (fun a => a = mo) M (mu Mc25 mo (.inr (6, [.int 0, .ref cn, .ref ia, .ref dr, .ref en, .ref la, .ref wo, .int 2, .ref op, .ref mk, .ref ir, .int 0, .int 0, .int (-1), .int 0, .int 0, .ref se, .ref ec, .ref lc, .null, .null, .null, .int 0, .int 0]))) := (hkp).self rfl
  have hR_mo_26 : (mu Mc25 mo (.inr (6, [.int 0, .ref cn, .ref ia, .ref dr, .ref en, .ref la, .ref wo, .int 2, .ref op, .ref mk, .ref ir, .int 0, .int 0, .int (-1), .int 0, .int 0, .ref se, .ref ec, .ref lc, .null, .null, .null, .int 0, .int 0]))) mo = _ := (mu_self _ _ _)
  have hR_cn_26 : (mu Mc25 mo (.inr (6, [.int 0, .ref cn, .ref ia, .ref dr, .ref en, .ref la, .ref wo, .int 2, .ref op, .ref mk, .ref ir, .int 0, .int 0, .int (-1), .int 0, .int 0, .ref se, .ref ec, .ref lc, .null, .null, .null, .int 0, .int 0]))) cn = _ := ((mu_ne ne_cn_mo).trans hR_cn_25)
  have hR_ia_26 : (mu Mc25 mo (.inr (6, [.int 0, .ref cn, .ref ia, .ref dr, .ref en, .ref la, .ref wo, .int 2, .ref op, .ref mk, .ref ir, .int 0, .int 0, .int (-1), .int 0, .int 0, .ref se, .ref ec, .ref lc, .null, .null, .null, .int 0, .int 0]))) ia = _ := ((mu_ne ne_ia_mo).trans hR_ia_25)
  have hR_dr_26 : (mu Mc25 mo (.inr (6, [.int 0, .ref cn, .ref ia, .ref dr, .ref en, .ref la, .ref wo, .int 2, .ref op, .ref mk, .ref ir, .int 0, .int 0, .int (-1), .int 0, .int 0, .ref se, .ref ec, .ref lc, .null, .null, .null, .int 0, .int 0]))) dr = _ := ((mu_ne ne_dr_mo).trans hR_dr_25)
  have hR_en_26 : (mu Mc25 mo (.inr (6, [.int 0, .ref cn, .ref ia, .ref dr, .ref en, .ref la, .ref wo, .int 2, .ref op, .ref mk, .ref ir, .int 0, .int 0, .int (-1), .int 0, .int 0, .ref se, .ref ec, .ref lc, .null, .null, .null, .int 0, .int 0]))) en = _ := ((mu_ne ne_en_mo).trans hR_en_25)
  have hR_la_26 : (mu Mc25 mo (.inr (6, [.int 0, .ref cn, .ref ia, .ref dr, .ref en, .ref la, .ref wo, .int 2, .ref op, .ref mk, .ref ir, .int 0, .int 0, .int (-1), .int 0, .int 0, .ref se, .ref ec, .ref lc, .null, .null, .null, .int 0, .int 0]))) la = _ := ((mu_ne ne_la_mo).trans hR_la_25)
  have hR_wo_26 : (mu Mc25 mo (.inr (6, [.int 0, .ref cn, .ref ia, .ref dr, .ref en, .ref la, .ref wo, .int 2, .ref op, .ref mk, .ref ir, .int 0, .int 0, .int (-1), .int 0, .int 0, .ref se, .ref ec, .ref lc, .null, .null, .null, .int 0, .int 0]))) wo = _ := ((mu_ne ne_wo_mo).trans hR_wo_25)
  have hR_op_26 : (mu Mc25 mo (.inr (6, [.int 0, .ref cn, .ref ia, .ref dr, .ref en, .ref la, .ref wo, .int 2, .ref op, .ref mk, .ref ir, .int 0, .int 0, .int (-1), .int 0, .int 0, .ref se, .ref ec, .ref lc, .null, .null, .null, .int 0, .int 0]))) op = _ := ((mu_ne ne_op_mo).trans hR_op_25)
  have hR_mk_26 : (mu Mc25 mo (.inr (6, [.int 0, .ref cn, .ref ia, .ref dr, .ref en, .ref la, .ref wo, .int 2, .ref op, .ref mk, .ref ir, .int 0, .int 0, .int (-1), .int 0, .int 0, .ref se, .ref ec, .ref lc, .null, .null, .null, .int 0, .int 0]))) mk = _ := ((mu_ne ne_mk_mo).trans hR_mk_25)
  have hR_ir_26 : (mu Mc25 mo (.inr (6, [.int 0, .ref cn, .ref ia, .ref dr, .ref en, .ref la, .ref wo, .int 2, .ref op, .ref mk, .ref ir, .int 0, .int 0, .int (-1), .int 0, .int 0, .ref se, .ref ec, .ref lc, .null, .null, .null, .int 0, .int 0]))) ir = _ := ((mu_ne ne_ir_mo).trans hR_ir_25)
  have hR_se_26 : (mu Mc25 mo (.inr (6, [.int 0, .ref cn, .ref ia, .ref dr, .ref en, .ref la, .ref wo, .int 2, .ref op, .ref mk, .ref ir, .int 0, .int 0, .int (-1), .int 0, .int 0, .ref se, .ref ec, .ref lc, .null, .null, .null, .int 0, .int 0]))) se = _ := ((mu_ne ne_se_mo).trans hR_se_25)
  have hR_ec_26 : (mu Mc25 mo (.inr (6, [.int 0, .ref cn, .ref ia, .ref dr, .ref en, .ref la, .ref wo, .int 2, .ref op, .ref mk, .ref ir, .int 0, .int 0, .int (-1), .int 0, .int 0, .ref se, .ref ec, .ref lc, .null, .null, .null, .int 0, .int 0]))) ec = _ := ((mu_ne ne_ec_mo).trans hR_ec_25)
  have hR_lc_26 : (mu Mc25 mo (.inr (6, [.int 0, .ref cn, .ref ia, .ref dr, .ref en, .ref la, .ref wo, .int 2, .ref op, .ref mk, .ref ir, .int 0, .int 0, .int (-1), .int 0, .int 0, .ref se, .ref ec, .ref lc, .null, .null, .null, .int 0, .int 0]))) lc = _ := ((mu_ne ne_lc_mo).trans hR_lc_25)
  generalize (mu Mc25 mo (.inr (6, [.int 0, .ref cn, .ref ia, .ref dr, .ref en, .ref la, .ref wo, .int 2, .ref op, .ref mk, .ref ir, .int 0, .int 0, .int (-1), .int 0, .int 0, .ref se, .ref ec, .ref lc, .null, .null, .null, .int 0, .int 0]))) = Mc26 at hm hkp hR_mo_26 hR_cn_26 hR_ia_26 hR_dr_26 hR_en_26 hR_la_26 hR_wo_26 hR_op_26 hR_mk_26 hR_ir_26 hR_se_26 hR_ec_26 hR_lc_26
  refine lv_aload_n hx hb dX6_init_113 rfl (lv_at hl 0 rfl) ?_
  refine lv_bipush (v := 100) hx hb dX6_init_114 (by decide) ?_
  refine m_newa (atype := .long) hx hb (hts (.arrayClass .long) (by decide +kernel)) (ty := .long) rfl (fun C h => by cases h) hK 1 rfl hm hS hA (N' := 100) (a0 := (100, .inr (.inl (fun _ => 0)))) (fun cA => vp_cell_l cA _ _) (by decide) rfl (by decide) (Nat.le_of_ble_eq_true rfl) (Nat.le_of_ble_eq_true rfl) dX6_init_116 (fun wc H hwc hm hS => ?_)
  refine W.widen (k := 13) (n := 323044) (Nat.le_of_ble_eq_true rfl) (Nat.le_of_ble_eq_true rfl) ?_
  have hn_wc := (hkp).no (fun h9 => absurd h9.symm (m_fr hwc hR_mo_26)) hwc
  have ne_mo_wc : mo ≠ wc := m_fr hwc hR_mo_26
  have ne_wc_mo : wc ≠ mo := Ne.symm ne_mo_wc
  have ne_cn_wc : cn ≠ wc := m_fr hwc hR_cn_26
  have ne_wc_cn : wc ≠ cn := Ne.symm ne_cn_wc
  have ne_ia_wc : ia ≠ wc := m_fr hwc hR_ia_26
  have ne_wc_ia : wc ≠ ia := Ne.symm ne_ia_wc
  have ne_dr_wc : dr ≠ wc := m_fr hwc hR_dr_26
  have ne_wc_dr : wc ≠ dr := Ne.symm ne_dr_wc
  have ne_en_wc : en ≠ wc := m_fr hwc hR_en_26
  have ne_wc_en : wc ≠ en := Ne.symm ne_en_wc
  have ne_la_wc : la ≠ wc := m_fr hwc hR_la_26
  have ne_wc_la : wc ≠ la := Ne.symm ne_la_wc
  have ne_wo_wc : wo ≠ wc := m_fr hwc hR_wo_26
  have ne_wc_wo : wc ≠ wo := Ne.symm ne_wo_wc
  have ne_op_wc : op ≠ wc := m_fr hwc hR_op_26
  have ne_wc_op : wc ≠ op := Ne.symm ne_op_wc
  have ne_mk_wc : mk ≠ wc := m_fr hwc hR_mk_26
  have ne_wc_mk : wc ≠ mk := Ne.symm ne_mk_wc
  have ne_ir_wc : ir ≠ wc := m_fr hwc hR_ir_26
  have ne_wc_ir : wc ≠ ir := Ne.symm ne_ir_wc
  have ne_se_wc : se ≠ wc := m_fr hwc hR_se_26
  have ne_wc_se : wc ≠ se := Ne.symm ne_se_wc
  have ne_ec_wc : ec ≠ wc := m_fr hwc hR_ec_26
  have ne_wc_ec : wc ≠ ec := Ne.symm ne_ec_wc
  have ne_lc_wc : lc ≠ wc := m_fr hwc hR_lc_26
  have ne_wc_lc : wc ≠ lc := Ne.symm ne_lc_wc
  have hm : mm D (AZ z) (mu Mc26 wc (.inl (k 1, 100, .inr (.inl (fun _ => 0))))) H := hm
  have hkp : kpx (fun a => a = mo) M (mu Mc26 wc (.inl (k 1, 100, .inr (.inl (fun _ => 0))))) := (hkp).new hwc
  have hR_mo_27 : (mu Mc26 wc (.inl (k 1, 100, .inr (.inl (fun _ => 0))))) mo = _ := ((mu_ne ne_mo_wc).trans hR_mo_26)
  have hR_cn_27 : (mu Mc26 wc (.inl (k 1, 100, .inr (.inl (fun _ => 0))))) cn = _ := ((mu_ne ne_cn_wc).trans hR_cn_26)
  have hR_ia_27 : (mu Mc26 wc (.inl (k 1, 100, .inr (.inl (fun _ => 0))))) ia = _ := ((mu_ne ne_ia_wc).trans hR_ia_26)
  have hR_dr_27 : (mu Mc26 wc (.inl (k 1, 100, .inr (.inl (fun _ => 0))))) dr = _ := ((mu_ne ne_dr_wc).trans hR_dr_26)
  have hR_en_27 : (mu Mc26 wc (.inl (k 1, 100, .inr (.inl (fun _ => 0))))) en = _ := ((mu_ne ne_en_wc).trans hR_en_26)
  have hR_la_27 : (mu Mc26 wc (.inl (k 1, 100, .inr (.inl (fun _ => 0))))) la = _ := ((mu_ne ne_la_wc).trans hR_la_26)
  have hR_wo_27 : (mu Mc26 wc (.inl (k 1, 100, .inr (.inl (fun _ => 0))))) wo = _ := ((mu_ne ne_wo_wc).trans hR_wo_26)
  have hR_op_27 : (mu Mc26 wc (.inl (k 1, 100, .inr (.inl (fun _ => 0))))) op = _ := ((mu_ne ne_op_wc).trans hR_op_26)
  have hR_mk_27 : (mu Mc26 wc (.inl (k 1, 100, .inr (.inl (fun _ => 0))))) mk = _ := ((mu_ne ne_mk_wc).trans hR_mk_26)
  have hR_ir_27 : (mu Mc26 wc (.inl (k 1, 100, .inr (.inl (fun _ => 0))))) ir = _ := ((mu_ne ne_ir_wc).trans hR_ir_26)
  have hR_se_27 : (mu Mc26 wc (.inl (k 1, 100, .inr (.inl (fun _ => 0))))) se = _ := ((mu_ne ne_se_wc).trans hR_se_26)
  have hR_ec_27 : (mu Mc26 wc (.inl (k 1, 100, .inr (.inl (fun _ => 0))))) ec = _ := ((mu_ne ne_ec_wc).trans hR_ec_26)
  have hR_lc_27 : (mu Mc26 wc (.inl (k 1, 100, .inr (.inl (fun _ => 0))))) lc = _ := ((mu_ne ne_lc_wc).trans hR_lc_26)
  have hR_wc_27 : (mu Mc26 wc (.inl (k 1, 100, .inr (.inl (fun _ => 0))))) wc = _ := (mu_self _ _ _)
  generalize (mu Mc26 wc (.inl (k 1, 100, .inr (.inl (fun _ => 0))))) = Mc27 at hm hkp hR_mo_27 hR_cn_27 hR_ia_27 hR_dr_27 hR_en_27 hR_la_27 hR_wo_27 hR_op_27 hR_mk_27 hR_ir_27 hR_se_27 hR_ec_27 hR_lc_27 hR_wc_27
  refine m_putF (T := TX6) (N := 24) (ci := 6) (v := .ref wc) (ty := .array .long) hx hb hts wX6 tyX6 tyX6_ok nmX6 hown hK hm hS hR_mo_27 rfl 19 (by decide) f57 (fun _ h9 => h9) rfl hin rfl (by decide +kernel) rfl rfl (Nat.le_of_ble_eq_true rfl) dX6_init_118 (fun H locs hm hS => ?_)
  have hm : mm D (AZ z) (mu Mc27 mo (.inr (6, [.int 0, .ref cn, .ref ia, .ref dr, .ref en, .ref la, .ref wo, .int 2, .ref op, .ref mk, .ref ir, .int 0, .int 0, .int (-1), .int 0, .int 0, .ref se, .ref ec, .ref lc, .ref wc, .null, .null, .int 0, .int 0]))) H := hm
  have hkp : kpx (fun a => a = mo) M (mu Mc27 mo (.inr (6, [.int 0, .ref cn, .ref ia, .ref dr, .ref en, .ref la, .ref wo, .int 2, .ref op, .ref mk, .ref ir, .int 0, .int 0, .int (-1), .int 0, .int 0, .ref se, .ref ec, .ref lc, .ref wc, .null, .null, .int 0, .int 0]))) := (hkp).self rfl
  have hR_mo_28 : (mu Mc27 mo (.inr (6, [.int 0, .ref cn, .ref ia, .ref dr, .ref en, .ref la, .ref wo, .int 2, .ref op, .ref mk, .ref ir, .int 0, .int 0, .int (-1), .int 0, .int 0, .ref se, .ref ec, .ref lc, .ref wc, .null, .null, .int 0, .int 0]))) mo = _ := (mu_self _ _ _)
  have hR_cn_28 : (mu Mc27 mo (.inr (6, [.int 0, .ref cn, .ref ia, .ref dr, .ref en, .ref la, .ref wo, .int 2, .ref op, .ref mk, .ref ir, .int 0, .int 0, .int (-1), .int 0, .int 0, .ref se, .ref ec, .ref lc, .ref wc, .null, .null, .int 0, .int 0]))) cn = _ := ((mu_ne ne_cn_mo).trans hR_cn_27)
  have hR_ia_28 : (mu Mc27 mo (.inr (6, [.int 0, .ref cn, .ref ia, .ref dr, .ref en, .ref la, .ref wo, .int 2, .ref op, .ref mk, .ref ir, .int 0, .int 0, .int (-1), .int 0, .int 0, .ref se, .ref ec, .ref lc, .ref wc, .null, .null, .int 0, .int 0]))) ia = _ := ((mu_ne ne_ia_mo).trans hR_ia_27)
  have hR_dr_28 : (mu Mc27 mo (.inr (6, [.int 0, .ref cn, .ref ia, .ref dr, .ref en, .ref la, .ref wo, .int 2, .ref op, .ref mk, .ref ir, .int 0, .int 0, .int (-1), .int 0, .int 0, .ref se, .ref ec, .ref lc, .ref wc, .null, .null, .int 0, .int 0]))) dr = _ := ((mu_ne ne_dr_mo).trans hR_dr_27)
  have hR_en_28 : (mu Mc27 mo (.inr (6, [.int 0, .ref cn, .ref ia, .ref dr, .ref en, .ref la, .ref wo, .int 2, .ref op, .ref mk, .ref ir, .int 0, .int 0, .int (-1), .int 0, .int 0, .ref se, .ref ec, .ref lc, .ref wc, .null, .null, .int 0, .int 0]))) en = _ := ((mu_ne ne_en_mo).trans hR_en_27)
  have hR_la_28 : (mu Mc27 mo (.inr (6, [.int 0, .ref cn, .ref ia, .ref dr, .ref en, .ref la, .ref wo, .int 2, .ref op, .ref mk, .ref ir, .int 0, .int 0, .int (-1), .int 0, .int 0, .ref se, .ref ec, .ref lc, .ref wc, .null, .null, .int 0, .int 0]))) la = _ := ((mu_ne ne_la_mo).trans hR_la_27)
  have hR_wo_28 : (mu Mc27 mo (.inr (6, [.int 0, .ref cn, .ref ia, .ref dr, .ref en, .ref la, .ref wo, .int 2, .ref op, .ref mk, .ref ir, .int 0, .int 0, .int (-1), .int 0, .int 0, .ref se, .ref ec, .ref lc, .ref wc, .null, .null, .int 0, .int 0]))) wo = _ := ((mu_ne ne_wo_mo).trans hR_wo_27)
  have hR_op_28 : (mu Mc27 mo (.inr (6, [.int 0, .ref cn, .ref ia, .ref dr, .ref en, .ref la, .ref wo, .int 2, .ref op, .ref mk, .ref ir, .int 0, .int 0, .int (-1), .int 0, .int 0, .ref se, .ref ec, .ref lc, .ref wc, .null, .null, .int 0, .int 0]))) op = _ := ((mu_ne ne_op_mo).trans hR_op_27)
  have hR_mk_28 : (mu Mc27 mo (.inr (6, [.int 0, .ref cn, .ref ia, .ref dr, .ref en, .ref la, .ref wo, .int 2, .ref op, .ref mk, .ref ir, .int 0, .int 0, .int (-1), .int 0, .int 0, .ref se, .ref ec, .ref lc, .ref wc, .null, .null, .int 0, .int 0]))) mk = _ := ((mu_ne ne_mk_mo).trans hR_mk_27)
  have hR_ir_28 : (mu Mc27 mo (.inr (6, [.int 0, .ref cn, .ref ia, .ref dr, .ref en, .ref la, .ref wo, .int 2, .ref op, .ref mk, .ref ir, .int 0, .int 0, .int (-1), .int 0, .int 0, .ref se, .ref ec, .ref lc, .ref wc, .null, .null, .int 0, .int 0]))) ir = _ := ((mu_ne ne_ir_mo).trans hR_ir_27)
  have hR_se_28 : (mu Mc27 mo (.inr (6, [.int 0, .ref cn, .ref ia, .ref dr, .ref en, .ref la, .ref wo, .int 2, .ref op, .ref mk, .ref ir, .int 0, .int 0, .int (-1), .int 0, .int 0, .ref se, .ref ec, .ref lc, .ref wc, .null, .null, .int 0, .int 0]))) se = _ := ((mu_ne ne_se_mo).trans hR_se_27)
  have hR_ec_28 : (mu Mc27 mo (.inr (6, [.int 0, .ref cn, .ref ia, .ref dr, .ref en, .ref la, .ref wo, .int 2, .ref op, .ref mk, .ref ir, .int 0, .int 0, .int (-1), .int 0, .int 0, .ref se, .ref ec, .ref lc, .ref wc, .null, .null, .int 0, .int 0]))) ec = _ := ((mu_ne ne_ec_mo).trans hR_ec_27)
  have hR_lc_28 : (mu Mc27 mo (.inr (6, [.int 0, .ref cn, .ref ia, .ref dr, .ref en, .ref la, .ref wo, .int 2, .ref op, .ref mk, .ref ir, .int 0, .int 0, .int (-1), .int 0, .int 0, .ref se, .ref ec, .ref lc, .ref wc, .null, .null, .int 0, .int 0]))) lc = _ := ((mu_ne ne_lc_mo).trans hR_lc_27)
  have hR_wc_28 : (mu Mc27 mo (.inr (6, [.int 0, .ref cn, .ref ia, .ref dr, .ref en, .ref la, .ref wo, .int 2, .ref op, .ref mk, .ref ir, .int 0, .int 0, .int (-1), .int 0, .int 0, .ref se, .ref ec, .ref lc, .ref wc, .null, .null, .int 0, .int 0]))) wc = _ := ((mu_ne ne_wc_mo).trans hR_wc_27)
  generalize (mu Mc27 mo (.inr (6, [.int 0, .ref cn, .ref ia, .ref dr, .ref en, .ref la, .ref wo, .int 2, .ref op, .ref mk, .ref ir, .int 0, .int 0, .int (-1), .int 0, .int 0, .ref se, .ref ec, .ref lc, .ref wc, .null, .null, .int 0, .int 0]))) = Mc28 at hm hkp hR_mo_28 hR_cn_28 hR_ia_28 hR_dr_28 hR_en_28 hR_la_28 hR_wo_28 hR_op_28 hR_mk_28 hR_ir_28 hR_se_28 hR_ec_28 hR_lc_28 hR_wc_28
  refine lv_aload_n hx hb dX6_init_121 rfl (lv_at hl 0 rfl) ?_
  refine lv_bipush (v := 100) hx hb dX6_init_122 (by decide) ?_
  refine m_newa (atype := .int) hx hb (hts (.arrayClass .int) (by decide +kernel)) (ty := .int) rfl (fun C h => by cases h) hK 0 rfl hm hS hA (N' := 100) (a0 := (100, .inl (fun _ => 0))) (fun cA => vp_cell_i cA _ _) (by decide) rfl (by decide) (Nat.le_of_ble_eq_true rfl) (Nat.le_of_ble_eq_true rfl) dX6_init_124 (fun ol H hol hm hS => ?_)
  refine W.widen (k := 14) (n := 323144) (Nat.le_of_ble_eq_true rfl) (Nat.le_of_ble_eq_true rfl) ?_
  have hn_ol := (hkp).no (fun h9 => absurd h9.symm (m_fr hol hR_mo_28)) hol
  have ne_mo_ol : mo ≠ ol := m_fr hol hR_mo_28
  have ne_ol_mo : ol ≠ mo := Ne.symm ne_mo_ol
  have ne_cn_ol : cn ≠ ol := m_fr hol hR_cn_28
  have ne_ol_cn : ol ≠ cn := Ne.symm ne_cn_ol
  have ne_ia_ol : ia ≠ ol := m_fr hol hR_ia_28
  have ne_ol_ia : ol ≠ ia := Ne.symm ne_ia_ol
  have ne_dr_ol : dr ≠ ol := m_fr hol hR_dr_28
  have ne_ol_dr : ol ≠ dr := Ne.symm ne_dr_ol
  have ne_en_ol : en ≠ ol := m_fr hol hR_en_28
  have ne_ol_en : ol ≠ en := Ne.symm ne_en_ol
  have ne_la_ol : la ≠ ol := m_fr hol hR_la_28
  have ne_ol_la : ol ≠ la := Ne.symm ne_la_ol
  have ne_wo_ol : wo ≠ ol := m_fr hol hR_wo_28
  have ne_ol_wo : ol ≠ wo := Ne.symm ne_wo_ol
  have ne_op_ol : op ≠ ol := m_fr hol hR_op_28
  have ne_ol_op : ol ≠ op := Ne.symm ne_op_ol
  have ne_mk_ol : mk ≠ ol := m_fr hol hR_mk_28
  have ne_ol_mk : ol ≠ mk := Ne.symm ne_mk_ol
  have ne_ir_ol : ir ≠ ol := m_fr hol hR_ir_28
  have ne_ol_ir : ol ≠ ir := Ne.symm ne_ir_ol
  have ne_se_ol : se ≠ ol := m_fr hol hR_se_28
  have ne_ol_se : ol ≠ se := Ne.symm ne_se_ol
  have ne_ec_ol : ec ≠ ol := m_fr hol hR_ec_28
  have ne_ol_ec : ol ≠ ec := Ne.symm ne_ec_ol
  have ne_lc_ol : lc ≠ ol := m_fr hol hR_lc_28
  have ne_ol_lc : ol ≠ lc := Ne.symm ne_lc_ol
  have ne_wc_ol : wc ≠ ol := m_fr hol hR_wc_28
  have ne_ol_wc : ol ≠ wc := Ne.symm ne_wc_ol
  have hm : mm D (AZ z) (mu Mc28 ol (.inl (k 0, 100, .inl (fun _ => 0)))) H := hm
  have hkp : kpx (fun a => a = mo) M (mu Mc28 ol (.inl (k 0, 100, .inl (fun _ => 0)))) := (hkp).new hol
  have hR_mo_29 : (mu Mc28 ol (.inl (k 0, 100, .inl (fun _ => 0)))) mo = _ := ((mu_ne ne_mo_ol).trans hR_mo_28)
  have hR_cn_29 : (mu Mc28 ol (.inl (k 0, 100, .inl (fun _ => 0)))) cn = _ := ((mu_ne ne_cn_ol).trans hR_cn_28)
  have hR_ia_29 : (mu Mc28 ol (.inl (k 0, 100, .inl (fun _ => 0)))) ia = _ := ((mu_ne ne_ia_ol).trans hR_ia_28)
  have hR_dr_29 : (mu Mc28 ol (.inl (k 0, 100, .inl (fun _ => 0)))) dr = _ := ((mu_ne ne_dr_ol).trans hR_dr_28)
  have hR_en_29 : (mu Mc28 ol (.inl (k 0, 100, .inl (fun _ => 0)))) en = _ := ((mu_ne ne_en_ol).trans hR_en_28)
  have hR_la_29 : (mu Mc28 ol (.inl (k 0, 100, .inl (fun _ => 0)))) la = _ := ((mu_ne ne_la_ol).trans hR_la_28)
  have hR_wo_29 : (mu Mc28 ol (.inl (k 0, 100, .inl (fun _ => 0)))) wo = _ := ((mu_ne ne_wo_ol).trans hR_wo_28)
  have hR_op_29 : (mu Mc28 ol (.inl (k 0, 100, .inl (fun _ => 0)))) op = _ := ((mu_ne ne_op_ol).trans hR_op_28)
  have hR_mk_29 : (mu Mc28 ol (.inl (k 0, 100, .inl (fun _ => 0)))) mk = _ := ((mu_ne ne_mk_ol).trans hR_mk_28)
  have hR_ir_29 : (mu Mc28 ol (.inl (k 0, 100, .inl (fun _ => 0)))) ir = _ := ((mu_ne ne_ir_ol).trans hR_ir_28)
  have hR_se_29 : (mu Mc28 ol (.inl (k 0, 100, .inl (fun _ => 0)))) se = _ := ((mu_ne ne_se_ol).trans hR_se_28)
  have hR_ec_29 : (mu Mc28 ol (.inl (k 0, 100, .inl (fun _ => 0)))) ec = _ := ((mu_ne ne_ec_ol).trans hR_ec_28)
  have hR_lc_29 : (mu Mc28 ol (.inl (k 0, 100, .inl (fun _ => 0)))) lc = _ := ((mu_ne ne_lc_ol).trans hR_lc_28)
  have hR_wc_29 : (mu Mc28 ol (.inl (k 0, 100, .inl (fun _ => 0)))) wc = _ := ((mu_ne ne_wc_ol).trans hR_wc_28)
  have hR_ol_29 : (mu Mc28 ol (.inl (k 0, 100, .inl (fun _ => 0)))) ol = _ := (mu_self _ _ _)
  generalize (mu Mc28 ol (.inl (k 0, 100, .inl (fun _ => 0)))) = Mc29 at hm hkp hR_mo_29 hR_cn_29 hR_ia_29 hR_dr_29 hR_en_29 hR_la_29 hR_wo_29 hR_op_29 hR_mk_29 hR_ir_29 hR_se_29 hR_ec_29 hR_lc_29 hR_wc_29 hR_ol_29
  refine m_putF (T := TX6) (N := 24) (ci := 6) (v := .ref ol) (ty := .array .int) hx hb hts wX6 tyX6 tyX6_ok nmX6 hown hK hm hS hR_mo_29 rfl 20 (by decide) f61 (fun _ h9 => h9) rfl hin rfl (by decide +kernel) rfl rfl (Nat.le_of_ble_eq_true rfl) dX6_init_126 (fun H locs hm hS => ?_)
  have hm : mm D (AZ z) (mu Mc29 mo (.inr (6, [.int 0, .ref cn, .ref ia, .ref dr, .ref en, .ref la, .ref wo, .int 2, .ref op, .ref mk, .ref ir, .int 0, .int 0, .int (-1), .int 0, .int 0, .ref se, .ref ec, .ref lc, .ref wc, .ref ol, .null, .int 0, .int 0]))) H := hm
  have hkp : kpx (fun a => a = mo) M (mu Mc29 mo (.inr (6, [.int 0, .ref cn, .ref ia, .ref dr, .ref en, .ref la, .ref wo, .int 2, .ref op, .ref mk, .ref ir, .int 0, .int 0, .int (-1), .int 0, .int 0, .ref se, .ref ec, .ref lc, .ref wc, .ref ol, .null, .int 0, .int 0]))) := (hkp).self rfl
  have hR_mo_30 : (mu Mc29 mo (.inr (6, [.int 0, .ref cn, .ref ia, .ref dr, .ref en, .ref la, .ref wo, .int 2, .ref op, .ref mk, .ref ir, .int 0, .int 0, .int (-1), .int 0, .int 0, .ref se, .ref ec, .ref lc, .ref wc, .ref ol, .null, .int 0, .int 0]))) mo = _ := (mu_self _ _ _)
  have hR_cn_30 : (mu Mc29 mo (.inr (6, [.int 0, .ref cn, .ref ia, .ref dr, .ref en, .ref la, .ref wo, .int 2, .ref op, .ref mk, .ref ir, .int 0, .int 0, .int (-1), .int 0, .int 0, .ref se, .ref ec, .ref lc, .ref wc, .ref ol, .null, .int 0, .int 0]))) cn = _ := ((mu_ne ne_cn_mo).trans hR_cn_29)
  have hR_ia_30 : (mu Mc29 mo (.inr (6, [.int 0, .ref cn, .ref ia, .ref dr, .ref en, .ref la, .ref wo, .int 2, .ref op, .ref mk, .ref ir, .int 0, .int 0, .int (-1), .int 0, .int 0, .ref se, .ref ec, .ref lc, .ref wc, .ref ol, .null, .int 0, .int 0]))) ia = _ := ((mu_ne ne_ia_mo).trans hR_ia_29)
  have hR_dr_30 : (mu Mc29 mo (.inr (6, [.int 0, .ref cn, .ref ia, .ref dr, .ref en, .ref la, .ref wo, .int 2, .ref op, .ref mk, .ref ir, .int 0, .int 0, .int (-1), .int 0, .int 0, .ref se, .ref ec, .ref lc, .ref wc, .ref ol, .null, .int 0, .int 0]))) dr = _ := ((mu_ne ne_dr_mo).trans hR_dr_29)
  have hR_en_30 : (mu Mc29 mo (.inr (6, [.int 0, .ref cn, .ref ia, .ref dr, .ref en, .ref la, .ref wo, .int 2, .ref op, .ref mk, .ref ir, .int 0, .int 0, .int (-1), .int 0, .int 0, .ref se, .ref ec, .ref lc, .ref wc, .ref ol, .null, .int 0, .int 0]))) en = _ := ((mu_ne ne_en_mo).trans hR_en_29)
  have hR_la_30 : (mu Mc29 mo (.inr (6, [.int 0, .ref cn, .ref ia, .ref dr, .ref en, .ref la, .ref wo, .int 2, .ref op, .ref mk, .ref ir, .int 0, .int 0, .int (-1), .int 0, .int 0, .ref se, .ref ec, .ref lc, .ref wc, .ref ol, .null, .int 0, .int 0]))) la = _ := ((mu_ne ne_la_mo).trans hR_la_29)
  have hR_wo_30 : (mu Mc29 mo (.inr (6, [.int 0, .ref cn, .ref ia, .ref dr, .ref en, .ref la, .ref wo, .int 2, .ref op, .ref mk, .ref ir, .int 0, .int 0, .int (-1), .int 0, .int 0, .ref se, .ref ec, .ref lc, .ref wc, .ref ol, .null, .int 0, .int 0]))) wo = _ := ((mu_ne ne_wo_mo).trans hR_wo_29)
  have hR_op_30 : (mu Mc29 mo (.inr (6, [.int 0, .ref cn, .ref ia, .ref dr, .ref en, .ref la, .ref wo, .int 2, .ref op, .ref mk, .ref ir, .int 0, .int 0, .int (-1), .int 0, .int 0, .ref se, .ref ec, .ref lc, .ref wc, .ref ol, .null, .int 0, .int 0]))) op = _ := ((mu_ne ne_op_mo).trans hR_op_29)
  have hR_mk_30 : (mu Mc29 mo (.inr (6, [.int 0, .ref cn, .ref ia, .ref dr, .ref en, .ref la, .ref wo, .int 2, .ref op, .ref mk, .ref ir, .int 0, .int 0, .int (-1), .int 0, .int 0, .ref se, .ref ec, .ref lc, .ref wc, .ref ol, .null, .int 0, .int 0]))) mk = _ := ((mu_ne ne_mk_mo).trans hR_mk_29)
  have hR_ir_30 : (mu Mc29 mo (.inr (6, [.int 0, .ref cn, .ref ia, .ref dr, .ref en, .ref la, .ref wo, .int 2, .ref op, .ref mk, .ref ir, .int 0, .int 0, .int (-1), .int 0, .int 0, .ref se, .ref ec, .ref lc, .ref wc, .ref ol, .null, .int 0, .int 0]))) ir = _ := ((mu_ne ne_ir_mo).trans hR_ir_29)
  have hR_se_30 : (mu Mc29 mo (.inr (6, [.int 0, .ref cn, .ref ia, .ref dr, .ref en, .ref la, .ref wo, .int 2, .ref op, .ref mk, .ref ir, .int 0, .int 0, .int (-1), .int 0, .int 0, .ref se, .ref ec, .ref lc, .ref wc, .ref ol, .null, .int 0, .int 0]))) se = _ := ((mu_ne ne_se_mo).trans hR_se_29)
  have hR_ec_30 : (mu Mc29 mo (.inr (6, [.int 0, .ref cn, .ref ia, .ref dr, .ref en, .ref la, .ref wo, .int 2, .ref op, .ref mk, .ref ir, .int 0, .int 0, .int (-1), .int 0, .int 0, .ref se, .ref ec, .ref lc, .ref wc, .ref ol, .null, .int 0, .int 0]))) ec = _ := ((mu_ne ne_ec_mo).trans hR_ec_29)
  have hR_lc_30 : (mu Mc29 mo (.inr (6, [.int 0, .ref cn, .ref ia, .ref dr, .ref en, .ref la, .ref wo, .int 2, .ref op, .ref mk, .ref ir, .int 0, .int 0, .int (-1), .int 0, .int 0, .ref se, .ref ec, .ref lc, .ref wc, .ref ol, .null, .int 0, .int 0]))) lc = _ := ((mu_ne ne_lc_mo).trans hR_lc_29)
  have hR_wc_30 : (mu Mc29 mo (.inr (6, [.int 0, .ref cn, .ref ia, .ref dr, .ref en, .ref la, .ref wo, .int 2, .ref op, .ref mk, .ref ir, .int 0, .int 0, .int (-1), .int 0, .int 0, .ref se, .ref ec, .ref lc, .ref wc, .ref ol, .null, .int 0, .int 0]))) wc = _ := ((mu_ne ne_wc_mo).trans hR_wc_29)
  have hR_ol_30 : (mu Mc29 mo (.inr (6, [.int 0, .ref cn, .ref ia, .ref dr, .ref en, .ref la, .ref wo, .int 2, .ref op, .ref mk, .ref ir, .int 0, .int 0, .int (-1), .int 0, .int 0, .ref se, .ref ec, .ref lc, .ref wc, .ref ol, .null, .int 0, .int 0]))) ol = _ := ((mu_ne ne_ol_mo).trans hR_ol_29)
  generalize (mu Mc29 mo (.inr (6, [.int 0, .ref cn, .ref ia, .ref dr, .ref en, .ref la, .ref wo, .int 2, .ref op, .ref mk, .ref ir, .int 0, .int 0, .int (-1), .int 0, .int 0, .ref se, .ref ec, .ref lc, .ref wc, .ref ol, .null, .int 0, .int 0]))) = Mc30 at hm hkp hR_mo_30 hR_cn_30 hR_ia_30 hR_dr_30 hR_en_30 hR_la_30 hR_wo_30 hR_op_30 hR_mk_30 hR_ir_30 hR_se_30 hR_ec_30 hR_lc_30 hR_wc_30 hR_ol_30
  refine lv_aload_n hx hb dX6_init_129 rfl (lv_at hl 0 rfl) ?_
  refine lv_bipush (v := 100) hx hb dX6_init_130 (by decide) ?_
  refine m_newa (atype := .boolean) hx hb (hts (.arrayClass .boolean) (by decide +kernel)) (ty := .boolean) rfl (fun C h => by cases h) hK 2 rfl hm hS hA (N' := 100) (a0 := (100, .inl (fun _ => 0))) (fun cA => vp_cell_i cA _ _) (by decide) rfl (by decide) (Nat.le_of_ble_eq_true rfl) (Nat.le_of_ble_eq_true rfl) dX6_init_132 (fun al H hal hm hS => ?_)
  refine W.widen (k := 15) (n := 323244) (Nat.le_of_ble_eq_true rfl) (Nat.le_of_ble_eq_true rfl) ?_
  have hn_al := (hkp).no (fun h9 => absurd h9.symm (m_fr hal hR_mo_30)) hal
  have ne_mo_al : mo ≠ al := m_fr hal hR_mo_30
  have ne_al_mo : al ≠ mo := Ne.symm ne_mo_al
  have ne_cn_al : cn ≠ al := m_fr hal hR_cn_30
  have ne_al_cn : al ≠ cn := Ne.symm ne_cn_al
  have ne_ia_al : ia ≠ al := m_fr hal hR_ia_30
  have ne_al_ia : al ≠ ia := Ne.symm ne_ia_al
  have ne_dr_al : dr ≠ al := m_fr hal hR_dr_30
  have ne_al_dr : al ≠ dr := Ne.symm ne_dr_al
  have ne_en_al : en ≠ al := m_fr hal hR_en_30
  have ne_al_en : al ≠ en := Ne.symm ne_en_al
  have ne_la_al : la ≠ al := m_fr hal hR_la_30
  have ne_al_la : al ≠ la := Ne.symm ne_la_al
  have ne_wo_al : wo ≠ al := m_fr hal hR_wo_30
  have ne_al_wo : al ≠ wo := Ne.symm ne_wo_al
  have ne_op_al : op ≠ al := m_fr hal hR_op_30
  have ne_al_op : al ≠ op := Ne.symm ne_op_al
  have ne_mk_al : mk ≠ al := m_fr hal hR_mk_30
  have ne_al_mk : al ≠ mk := Ne.symm ne_mk_al
  have ne_ir_al : ir ≠ al := m_fr hal hR_ir_30
  have ne_al_ir : al ≠ ir := Ne.symm ne_ir_al
  have ne_se_al : se ≠ al := m_fr hal hR_se_30
  have ne_al_se : al ≠ se := Ne.symm ne_se_al
  have ne_ec_al : ec ≠ al := m_fr hal hR_ec_30
  have ne_al_ec : al ≠ ec := Ne.symm ne_ec_al
  have ne_lc_al : lc ≠ al := m_fr hal hR_lc_30
  have ne_al_lc : al ≠ lc := Ne.symm ne_lc_al
  have ne_wc_al : wc ≠ al := m_fr hal hR_wc_30
  have ne_al_wc : al ≠ wc := Ne.symm ne_wc_al
  have ne_ol_al : ol ≠ al := m_fr hal hR_ol_30
  have ne_al_ol : al ≠ ol := Ne.symm ne_ol_al
  have hm : mm D (AZ z) (mu Mc30 al (.inl (k 2, 100, .inl (fun _ => 0)))) H := hm
  have hkp : kpx (fun a => a = mo) M (mu Mc30 al (.inl (k 2, 100, .inl (fun _ => 0)))) := (hkp).new hal
  have hR_mo_31 : (mu Mc30 al (.inl (k 2, 100, .inl (fun _ => 0)))) mo = _ := ((mu_ne ne_mo_al).trans hR_mo_30)
  have hR_cn_31 : (mu Mc30 al (.inl (k 2, 100, .inl (fun _ => 0)))) cn = _ := ((mu_ne ne_cn_al).trans hR_cn_30)
  have hR_ia_31 : (mu Mc30 al (.inl (k 2, 100, .inl (fun _ => 0)))) ia = _ := ((mu_ne ne_ia_al).trans hR_ia_30)
  have hR_dr_31 : (mu Mc30 al (.inl (k 2, 100, .inl (fun _ => 0)))) dr = _ := ((mu_ne ne_dr_al).trans hR_dr_30)
  have hR_en_31 : (mu Mc30 al (.inl (k 2, 100, .inl (fun _ => 0)))) en = _ := ((mu_ne ne_en_al).trans hR_en_30)
  have hR_la_31 : (mu Mc30 al (.inl (k 2, 100, .inl (fun _ => 0)))) la = _ := ((mu_ne ne_la_al).trans hR_la_30)
  have hR_wo_31 : (mu Mc30 al (.inl (k 2, 100, .inl (fun _ => 0)))) wo = _ := ((mu_ne ne_wo_al).trans hR_wo_30)
  have hR_op_31 : (mu Mc30 al (.inl (k 2, 100, .inl (fun _ => 0)))) op = _ := ((mu_ne ne_op_al).trans hR_op_30)
  have hR_mk_31 : (mu Mc30 al (.inl (k 2, 100, .inl (fun _ => 0)))) mk = _ := ((mu_ne ne_mk_al).trans hR_mk_30)
  have hR_ir_31 : (mu Mc30 al (.inl (k 2, 100, .inl (fun _ => 0)))) ir = _ := ((mu_ne ne_ir_al).trans hR_ir_30)
  have hR_se_31 : (mu Mc30 al (.inl (k 2, 100, .inl (fun _ => 0)))) se = _ := ((mu_ne ne_se_al).trans hR_se_30)
  have hR_ec_31 : (mu Mc30 al (.inl (k 2, 100, .inl (fun _ => 0)))) ec = _ := ((mu_ne ne_ec_al).trans hR_ec_30)
  have hR_lc_31 : (mu Mc30 al (.inl (k 2, 100, .inl (fun _ => 0)))) lc = _ := ((mu_ne ne_lc_al).trans hR_lc_30)
  have hR_wc_31 : (mu Mc30 al (.inl (k 2, 100, .inl (fun _ => 0)))) wc = _ := ((mu_ne ne_wc_al).trans hR_wc_30)
  have hR_ol_31 : (mu Mc30 al (.inl (k 2, 100, .inl (fun _ => 0)))) ol = _ := ((mu_ne ne_ol_al).trans hR_ol_30)
  have hR_al_31 : (mu Mc30 al (.inl (k 2, 100, .inl (fun _ => 0)))) al = _ := (mu_self _ _ _)
  generalize (mu Mc30 al (.inl (k 2, 100, .inl (fun _ => 0)))) = Mc31 at hm hkp hR_mo_31 hR_cn_31 hR_ia_31 hR_dr_31 hR_en_31 hR_la_31 hR_wo_31 hR_op_31 hR_mk_31 hR_ir_31 hR_se_31 hR_ec_31 hR_lc_31 hR_wc_31 hR_ol_31 hR_al_31
  refine m_putF (T := TX6) (N := 24) (ci := 6) (v := .ref al) (ty := .array .boolean) hx hb hts wX6 tyX6 tyX6_ok nmX6 hown hK hm hS hR_mo_31 rfl 21 (by decide) f64 (fun _ h9 => h9) rfl hin rfl (by decide +kernel) rfl rfl (Nat.le_of_ble_eq_true rfl) dX6_init_134 (fun H locs hm hS => ?_)
  have hm : mm D (AZ z) (mu Mc31 mo (.inr (6, [.int 0, .ref cn, .ref ia, .ref dr, .ref en, .ref la, .ref wo, .int 2, .ref op, .ref mk, .ref ir, .int 0, .int 0, .int (-1), .int 0, .int 0, .ref se, .ref ec, .ref lc, .ref wc, .ref ol, .ref al, .int 0, .int 0]))) H := hm
  have hkp : kpx (fun a => a = mo) M (mu Mc31 mo (.inr (6, [.int 0, .ref cn, .ref ia, .ref dr, .ref en, .ref la, .ref wo, .int 2, .ref op, .ref mk, .ref ir, .int 0, .int 0, .int (-1), .int 0, .int 0, .ref se, .ref ec, .ref lc, .ref wc, .ref ol, .ref al, .int 0, .int 0]))) := (hkp).self rfl
  have hR_mo_32 : (mu Mc31 mo (.inr (6, [.int 0, .ref cn, .ref ia, .ref dr, .ref en, .ref la, .ref wo, .int 2, .ref op, .ref mk, .ref ir, .int 0, .int 0, .int (-1), .int 0, .int 0, .ref se, .ref ec, .ref lc, .ref wc, .ref ol, .ref al, .int 0, .int 0]))) mo = _ := (mu_self _ _ _)
  have hR_cn_32 : (mu Mc31 mo (.inr (6, [.int 0, .ref cn, .ref ia, .ref dr, .ref en, .ref la, .ref wo, .int 2, .ref op, .ref mk, .ref ir, .int 0, .int 0, .int (-1), .int 0, .int 0, .ref se, .ref ec, .ref lc, .ref wc, .ref ol, .ref al, .int 0, .int 0]))) cn = _ := ((mu_ne ne_cn_mo).trans hR_cn_31)
  have hR_ia_32 : (mu Mc31 mo (.inr (6, [.int 0, .ref cn, .ref ia, .ref dr, .ref en, .ref la, .ref wo, .int 2, .ref op, .ref mk, .ref ir, .int 0, .int 0, .int (-1), .int 0, .int 0, .ref se, .ref ec, .ref lc, .ref wc, .ref ol, .ref al, .int 0, .int 0]))) ia = _ := ((mu_ne ne_ia_mo).trans hR_ia_31)
  have hR_dr_32 : (mu Mc31 mo (.inr (6, [.int 0, .ref cn, .ref ia, .ref dr, .ref en, .ref la, .ref wo, .int 2, .ref op, .ref mk, .ref ir, .int 0, .int 0, .int (-1), .int 0, .int 0, .ref se, .ref ec, .ref lc, .ref wc, .ref ol, .ref al, .int 0, .int 0]))) dr = _ := ((mu_ne ne_dr_mo).trans hR_dr_31)
  have hR_en_32 : (mu Mc31 mo (.inr (6, [.int 0, .ref cn, .ref ia, .ref dr, .ref en, .ref la, .ref wo, .int 2, .ref op, .ref mk, .ref ir, .int 0, .int 0, .int (-1), .int 0, .int 0, .ref se, .ref ec, .ref lc, .ref wc, .ref ol, .ref al, .int 0, .int 0]))) en = _ := ((mu_ne ne_en_mo).trans hR_en_31)
  have hR_la_32 : (mu Mc31 mo (.inr (6, [.int 0, .ref cn, .ref ia, .ref dr, .ref en, .ref la, .ref wo, .int 2, .ref op, .ref mk, .ref ir, .int 0, .int 0, .int (-1), .int 0, .int 0, .ref se, .ref ec, .ref lc, .ref wc, .ref ol, .ref al, .int 0, .int 0]))) la = _ := ((mu_ne ne_la_mo).trans hR_la_31)
  have hR_wo_32 : (mu Mc31 mo (.inr (6, [.int 0, .ref cn, .ref ia, .ref dr, .ref en, .ref la, .ref wo, .int 2, .ref op, .ref mk, .ref ir, .int 0, .int 0, .int (-1), .int 0, .int 0, .ref se, .ref ec, .ref lc, .ref wc, .ref ol, .ref al, .int 0, .int 0]))) wo = _ := ((mu_ne ne_wo_mo).trans hR_wo_31)
  have hR_op_32 : (mu Mc31 mo (.inr (6, [.int 0, .ref cn, .ref ia, .ref dr, .ref en, .ref la, .ref wo, .int 2, .ref op, .ref mk, .ref ir, .int 0, .int 0, .int (-1), .int 0, .int 0, .ref se, .ref ec, .ref lc, .ref wc, .ref ol, .ref al, .int 0, .int 0]))) op = _ := ((mu_ne ne_op_mo).trans hR_op_31)
  have hR_mk_32 : (mu Mc31 mo (.inr (6, [.int 0, .ref cn, .ref ia, .ref dr, .ref en, .ref la, .ref wo, .int 2, .ref op, .ref mk, .ref ir, .int 0, .int 0, .int (-1), .int 0, .int 0, .ref se, .ref ec, .ref lc, .ref wc, .ref ol, .ref al, .int 0, .int 0]))) mk = _ := ((mu_ne ne_mk_mo).trans hR_mk_31)
  have hR_ir_32 : (mu Mc31 mo (.inr (6, [.int 0, .ref cn, .ref ia, .ref dr, .ref en, .ref la, .ref wo, .int 2, .ref op, .ref mk, .ref ir, .int 0, .int 0, .int (-1), .int 0, .int 0, .ref se, .ref ec, .ref lc, .ref wc, .ref ol, .ref al, .int 0, .int 0]))) ir = _ := ((mu_ne ne_ir_mo).trans hR_ir_31)
  have hR_se_32 : (mu Mc31 mo (.inr (6, [.int 0, .ref cn, .ref ia, .ref dr, .ref en, .ref la, .ref wo, .int 2, .ref op, .ref mk, .ref ir, .int 0, .int 0, .int (-1), .int 0, .int 0, .ref se, .ref ec, .ref lc, .ref wc, .ref ol, .ref al, .int 0, .int 0]))) se = _ := ((mu_ne ne_se_mo).trans hR_se_31)
  have hR_ec_32 : (mu Mc31 mo (.inr (6, [.int 0, .ref cn, .ref ia, .ref dr, .ref en, .ref la, .ref wo, .int 2, .ref op, .ref mk, .ref ir, .int 0, .int 0, .int (-1), .int 0, .int 0, .ref se, .ref ec, .ref lc, .ref wc, .ref ol, .ref al, .int 0, .int 0]))) ec = _ := ((mu_ne ne_ec_mo).trans hR_ec_31)
  have hR_lc_32 : (mu Mc31 mo (.inr (6, [.int 0, .ref cn, .ref ia, .ref dr, .ref en, .ref la, .ref wo, .int 2, .ref op, .ref mk, .ref ir, .int 0, .int 0, .int (-1), .int 0, .int 0, .ref se, .ref ec, .ref lc, .ref wc, .ref ol, .ref al, .int 0, .int 0]))) lc = _ := ((mu_ne ne_lc_mo).trans hR_lc_31)
  have hR_wc_32 : (mu Mc31 mo (.inr (6, [.int 0, .ref cn, .ref ia, .ref dr, .ref en, .ref la, .ref wo, .int 2, .ref op, .ref mk, .ref ir, .int 0, .int 0, .int (-1), .int 0, .int 0, .ref se, .ref ec, .ref lc, .ref wc, .ref ol, .ref al, .int 0, .int 0]))) wc = _ := ((mu_ne ne_wc_mo).trans hR_wc_31)
  have hR_ol_32 : (mu Mc31 mo (.inr (6, [.int 0, .ref cn, .ref ia, .ref dr, .ref en, .ref la, .ref wo, .int 2, .ref op, .ref mk, .ref ir, .int 0, .int 0, .int (-1), .int 0, .int 0, .ref se, .ref ec, .ref lc, .ref wc, .ref ol, .ref al, .int 0, .int 0]))) ol = _ := ((mu_ne ne_ol_mo).trans hR_ol_31)
  have hR_al_32 : (mu Mc31 mo (.inr (6, [.int 0, .ref cn, .ref ia, .ref dr, .ref en, .ref la, .ref wo, .int 2, .ref op, .ref mk, .ref ir, .int 0, .int 0, .int (-1), .int 0, .int 0, .ref se, .ref ec, .ref lc, .ref wc, .ref ol, .ref al, .int 0, .int 0]))) al = _ := ((mu_ne ne_al_mo).trans hR_al_31)
  generalize (mu Mc31 mo (.inr (6, [.int 0, .ref cn, .ref ia, .ref dr, .ref en, .ref la, .ref wo, .int 2, .ref op, .ref mk, .ref ir, .int 0, .int 0, .int (-1), .int 0, .int 0, .ref se, .ref ec, .ref lc, .ref wc, .ref ol, .ref al, .int 0, .int 0]))) = Mc32 at hm hkp hR_mo_32 hR_cn_32 hR_ia_32 hR_dr_32 hR_en_32 hR_la_32 hR_wo_32 hR_op_32 hR_mk_32 hR_ir_32 hR_se_32 hR_ec_32 hR_lc_32 hR_wc_32 hR_ol_32 hR_al_32
  refine lv_aload_n hx hb dX6_init_137 rfl (lv_at hl 0 rfl) ?_
  refine m_get (T := TX6) (N := 24) (ci := 6) (v := .ref cn) hx hb hts wX6 hown hK hm hR_mo_32 rfl 1 (by decide) f7 (fun _ h9 => h9) rfl dX6_init_138 ?_
  refine lv_iconst (v := 0) hx hb dX6_init_141 (by decide) ?_
  refine lv_iconst (v := 1) hx hb dX6_init_142 (by decide) ?_
  refine m_iast hx hb hK hm hS 0 hR_cn_32 rfl (by unfold vp_in; decide) dX6_init_143 (fun H locs hm hS => ?_)
  have hm : mm D (AZ z) (mu Mc32 cn (.inl (k 0, 32, .inl (upd (fun _ => 0) (0 : Int32).toNatClampNeg 1)))) H := hm
  have hkp : kpx (fun a => a = mo) M (mu Mc32 cn (.inl (k 0, 32, .inl (upd (fun _ => 0) (0 : Int32).toNatClampNeg 1)))) := (hkp).old hn_cn
  have hR_mo_33 : (mu Mc32 cn (.inl (k 0, 32, .inl (upd (fun _ => 0) (0 : Int32).toNatClampNeg 1)))) mo = _ := ((mu_ne ne_mo_cn).trans hR_mo_32)
  have hR_cn_33 : (mu Mc32 cn (.inl (k 0, 32, .inl (upd (fun _ => 0) (0 : Int32).toNatClampNeg 1)))) cn = _ := (mu_self _ _ _)
  have hR_ia_33 : (mu Mc32 cn (.inl (k 0, 32, .inl (upd (fun _ => 0) (0 : Int32).toNatClampNeg 1)))) ia = _ := ((mu_ne ne_ia_cn).trans hR_ia_32)
  have hR_dr_33 : (mu Mc32 cn (.inl (k 0, 32, .inl (upd (fun _ => 0) (0 : Int32).toNatClampNeg 1)))) dr = _ := ((mu_ne ne_dr_cn).trans hR_dr_32)
  have hR_en_33 : (mu Mc32 cn (.inl (k 0, 32, .inl (upd (fun _ => 0) (0 : Int32).toNatClampNeg 1)))) en = _ := ((mu_ne ne_en_cn).trans hR_en_32)
  have hR_la_33 : (mu Mc32 cn (.inl (k 0, 32, .inl (upd (fun _ => 0) (0 : Int32).toNatClampNeg 1)))) la = _ := ((mu_ne ne_la_cn).trans hR_la_32)
  have hR_wo_33 : (mu Mc32 cn (.inl (k 0, 32, .inl (upd (fun _ => 0) (0 : Int32).toNatClampNeg 1)))) wo = _ := ((mu_ne ne_wo_cn).trans hR_wo_32)
  have hR_op_33 : (mu Mc32 cn (.inl (k 0, 32, .inl (upd (fun _ => 0) (0 : Int32).toNatClampNeg 1)))) op = _ := ((mu_ne ne_op_cn).trans hR_op_32)
  have hR_mk_33 : (mu Mc32 cn (.inl (k 0, 32, .inl (upd (fun _ => 0) (0 : Int32).toNatClampNeg 1)))) mk = _ := ((mu_ne ne_mk_cn).trans hR_mk_32)
  have hR_ir_33 : (mu Mc32 cn (.inl (k 0, 32, .inl (upd (fun _ => 0) (0 : Int32).toNatClampNeg 1)))) ir = _ := ((mu_ne ne_ir_cn).trans hR_ir_32)
  have hR_se_33 : (mu Mc32 cn (.inl (k 0, 32, .inl (upd (fun _ => 0) (0 : Int32).toNatClampNeg 1)))) se = _ := ((mu_ne ne_se_cn).trans hR_se_32)
  have hR_ec_33 : (mu Mc32 cn (.inl (k 0, 32, .inl (upd (fun _ => 0) (0 : Int32).toNatClampNeg 1)))) ec = _ := ((mu_ne ne_ec_cn).trans hR_ec_32)
  have hR_lc_33 : (mu Mc32 cn (.inl (k 0, 32, .inl (upd (fun _ => 0) (0 : Int32).toNatClampNeg 1)))) lc = _ := ((mu_ne ne_lc_cn).trans hR_lc_32)
  have hR_wc_33 : (mu Mc32 cn (.inl (k 0, 32, .inl (upd (fun _ => 0) (0 : Int32).toNatClampNeg 1)))) wc = _ := ((mu_ne ne_wc_cn).trans hR_wc_32)
  have hR_ol_33 : (mu Mc32 cn (.inl (k 0, 32, .inl (upd (fun _ => 0) (0 : Int32).toNatClampNeg 1)))) ol = _ := ((mu_ne ne_ol_cn).trans hR_ol_32)
  have hR_al_33 : (mu Mc32 cn (.inl (k 0, 32, .inl (upd (fun _ => 0) (0 : Int32).toNatClampNeg 1)))) al = _ := ((mu_ne ne_al_cn).trans hR_al_32)
  generalize (mu Mc32 cn (.inl (k 0, 32, .inl (upd (fun _ => 0) (0 : Int32).toNatClampNeg 1)))) = Mc33 at hm hkp hR_mo_33 hR_cn_33 hR_ia_33 hR_dr_33 hR_en_33 hR_la_33 hR_wo_33 hR_op_33 hR_mk_33 hR_ir_33 hR_se_33 hR_ec_33 hR_lc_33 hR_wc_33 hR_ol_33 hR_al_33
  refine lv_aload_n hx hb dX6_init_144 rfl (lv_at hl 0 rfl) ?_
  refine m_get (T := TX6) (N := 24) (ci := 6) (v := .ref ia) hx hb hts wX6 hown hK hm hR_mo_33 rfl 2 (by decide) f13 (fun _ h9 => h9) rfl dX6_init_145 ?_
  refine lv_iconst (v := 0) hx hb dX6_init_148 (by decide) ?_
  refine lv_iconst (v := 1) hx hb dX6_init_149 (by decide) ?_
  refine m_iast hx hb hK hm hS 0 hR_ia_33 rfl (by unfold vp_in; decide) dX6_init_150 (fun H locs hm hS => ?_)
  have hm : mm D (AZ z) (mu Mc33 ia (.inl (k 0, 3200, .inl (upd (fun _ => 0) (0 : Int32).toNatClampNeg 1)))) H := hm
  have hkp : kpx (fun a => a = mo) M (mu Mc33 ia (.inl (k 0, 3200, .inl (upd (fun _ => 0) (0 : Int32).toNatClampNeg 1)))) := (hkp).old hn_ia
  have hR_mo_34 : (mu Mc33 ia (.inl (k 0, 3200, .inl (upd (fun _ => 0) (0 : Int32).toNatClampNeg 1)))) mo = _ := ((mu_ne ne_mo_ia).trans hR_mo_33)
  have hR_cn_34 : (mu Mc33 ia (.inl (k 0, 3200, .inl (upd (fun _ => 0) (0 : Int32).toNatClampNeg 1)))) cn = _ := ((mu_ne ne_cn_ia).trans hR_cn_33)
  have hR_ia_34 : (mu Mc33 ia (.inl (k 0, 3200, .inl (upd (fun _ => 0) (0 : Int32).toNatClampNeg 1)))) ia = _ := (mu_self _ _ _)
  have hR_dr_34 : (mu Mc33 ia (.inl (k 0, 3200, .inl (upd (fun _ => 0) (0 : Int32).toNatClampNeg 1)))) dr = _ := ((mu_ne ne_dr_ia).trans hR_dr_33)
  have hR_en_34 : (mu Mc33 ia (.inl (k 0, 3200, .inl (upd (fun _ => 0) (0 : Int32).toNatClampNeg 1)))) en = _ := ((mu_ne ne_en_ia).trans hR_en_33)
  have hR_la_34 : (mu Mc33 ia (.inl (k 0, 3200, .inl (upd (fun _ => 0) (0 : Int32).toNatClampNeg 1)))) la = _ := ((mu_ne ne_la_ia).trans hR_la_33)
  have hR_wo_34 : (mu Mc33 ia (.inl (k 0, 3200, .inl (upd (fun _ => 0) (0 : Int32).toNatClampNeg 1)))) wo = _ := ((mu_ne ne_wo_ia).trans hR_wo_33)
  have hR_op_34 : (mu Mc33 ia (.inl (k 0, 3200, .inl (upd (fun _ => 0) (0 : Int32).toNatClampNeg 1)))) op = _ := ((mu_ne ne_op_ia).trans hR_op_33)
  have hR_mk_34 : (mu Mc33 ia (.inl (k 0, 3200, .inl (upd (fun _ => 0) (0 : Int32).toNatClampNeg 1)))) mk = _ := ((mu_ne ne_mk_ia).trans hR_mk_33)
  have hR_ir_34 : (mu Mc33 ia (.inl (k 0, 3200, .inl (upd (fun _ => 0) (0 : Int32).toNatClampNeg 1)))) ir = _ := ((mu_ne ne_ir_ia).trans hR_ir_33)
  have hR_se_34 : (mu Mc33 ia (.inl (k 0, 3200, .inl (upd (fun _ => 0) (0 : Int32).toNatClampNeg 1)))) se = _ := ((mu_ne ne_se_ia).trans hR_se_33)
  have hR_ec_34 : (mu Mc33 ia (.inl (k 0, 3200, .inl (upd (fun _ => 0) (0 : Int32).toNatClampNeg 1)))) ec = _ := ((mu_ne ne_ec_ia).trans hR_ec_33)
  have hR_lc_34 : (mu Mc33 ia (.inl (k 0, 3200, .inl (upd (fun _ => 0) (0 : Int32).toNatClampNeg 1)))) lc = _ := ((mu_ne ne_lc_ia).trans hR_lc_33)
  have hR_wc_34 : (mu Mc33 ia (.inl (k 0, 3200, .inl (upd (fun _ => 0) (0 : Int32).toNatClampNeg 1)))) wc = _ := ((mu_ne ne_wc_ia).trans hR_wc_33)
  have hR_ol_34 : (mu Mc33 ia (.inl (k 0, 3200, .inl (upd (fun _ => 0) (0 : Int32).toNatClampNeg 1)))) ol = _ := ((mu_ne ne_ol_ia).trans hR_ol_33)
  have hR_al_34 : (mu Mc33 ia (.inl (k 0, 3200, .inl (upd (fun _ => 0) (0 : Int32).toNatClampNeg 1)))) al = _ := ((mu_ne ne_al_ia).trans hR_al_33)
  generalize (mu Mc33 ia (.inl (k 0, 3200, .inl (upd (fun _ => 0) (0 : Int32).toNatClampNeg 1)))) = Mc34 at hm hkp hR_mo_34 hR_cn_34 hR_ia_34 hR_dr_34 hR_en_34 hR_la_34 hR_wo_34 hR_op_34 hR_mk_34 hR_ir_34 hR_se_34 hR_ec_34 hR_lc_34 hR_wc_34 hR_ol_34 hR_al_34
  refine lv_aload_n hx hb dX6_init_151 rfl (lv_at hl 0 rfl) ?_
  refine m_get (T := TX6) (N := 24) (ci := 6) (v := .ref dr) hx hb hts wX6 hown hK hm hR_mo_34 rfl 3 (by decide) f16 (fun _ h9 => h9) rfl dX6_init_152 ?_
  refine lv_iconst (v := 0) hx hb dX6_init_155 (by decide) ?_
  refine lv_iconst (v := 1) hx hb dX6_init_156 (by decide) ?_
  refine m_zast hx hb hK hm hS 2 hR_dr_34 rfl (by unfold vp_in; decide) dX6_init_157 (fun H locs hm hS => ?_)
  have hm : mm D (AZ z) (mu Mc34 dr (.inl (k 2, 3200, .inl (upd (fun _ => 0) (0 : Int32).toNatClampNeg (vp_nar .boolean 1))))) H := hm
  have hkp : kpx (fun a => a = mo) M (mu Mc34 dr (.inl (k 2, 3200, .inl (upd (fun _ => 0) (0 : Int32).toNatClampNeg (vp_nar .boolean 1))))) := (hkp).old hn_dr
  have hR_mo_35 : (mu Mc34 dr (.inl (k 2, 3200, .inl (upd (fun _ => 0) (0 : Int32).toNatClampNeg (vp_nar .boolean 1))))) mo = _ := ((mu_ne ne_mo_dr).trans hR_mo_34)
  have hR_cn_35 : (mu Mc34 dr (.inl (k 2, 3200, .inl (upd (fun _ => 0) (0 : Int32).toNatClampNeg (vp_nar .boolean 1))))) cn = _ := ((mu_ne ne_cn_dr).trans hR_cn_34)
  have hR_ia_35 : (mu Mc34 dr (.inl (k 2, 3200, .inl (upd (fun _ => 0) (0 : Int32).toNatClampNeg (vp_nar .boolean 1))))) ia = _ := ((mu_ne ne_ia_dr).trans hR_ia_34)
  have hR_dr_35 : (mu Mc34 dr (.inl (k 2, 3200, .inl (upd (fun _ => 0) (0 : Int32).toNatClampNeg (vp_nar .boolean 1))))) dr = _ := (mu_self _ _ _)
  have hR_en_35 : (mu Mc34 dr (.inl (k 2, 3200, .inl (upd (fun _ => 0) (0 : Int32).toNatClampNeg (vp_nar .boolean 1))))) en = _ := ((mu_ne ne_en_dr).trans hR_en_34)
  have hR_la_35 : (mu Mc34 dr (.inl (k 2, 3200, .inl (upd (fun _ => 0) (0 : Int32).toNatClampNeg (vp_nar .boolean 1))))) la = _ := ((mu_ne ne_la_dr).trans hR_la_34)
  have hR_wo_35 : (mu Mc34 dr (.inl (k 2, 3200, .inl (upd (fun _ => 0) (0 : Int32).toNatClampNeg (vp_nar .boolean 1))))) wo = _ := ((mu_ne ne_wo_dr).trans hR_wo_34)
  have hR_op_35 : (mu Mc34 dr (.inl (k 2, 3200, .inl (upd (fun _ => 0) (0 : Int32).toNatClampNeg (vp_nar .boolean 1))))) op = _ := ((mu_ne ne_op_dr).trans hR_op_34)
  have hR_mk_35 : (mu Mc34 dr (.inl (k 2, 3200, .inl (upd (fun _ => 0) (0 : Int32).toNatClampNeg (vp_nar .boolean 1))))) mk = _ := ((mu_ne ne_mk_dr).trans hR_mk_34)
  have hR_ir_35 : (mu Mc34 dr (.inl (k 2, 3200, .inl (upd (fun _ => 0) (0 : Int32).toNatClampNeg (vp_nar .boolean 1))))) ir = _ := ((mu_ne ne_ir_dr).trans hR_ir_34)
  have hR_se_35 : (mu Mc34 dr (.inl (k 2, 3200, .inl (upd (fun _ => 0) (0 : Int32).toNatClampNeg (vp_nar .boolean 1))))) se = _ := ((mu_ne ne_se_dr).trans hR_se_34)
  have hR_ec_35 : (mu Mc34 dr (.inl (k 2, 3200, .inl (upd (fun _ => 0) (0 : Int32).toNatClampNeg (vp_nar .boolean 1))))) ec = _ := ((mu_ne ne_ec_dr).trans hR_ec_34)
  have hR_lc_35 : (mu Mc34 dr (.inl (k 2, 3200, .inl (upd (fun _ => 0) (0 : Int32).toNatClampNeg (vp_nar .boolean 1))))) lc = _ := ((mu_ne ne_lc_dr).trans hR_lc_34)
  have hR_wc_35 : (mu Mc34 dr (.inl (k 2, 3200, .inl (upd (fun _ => 0) (0 : Int32).toNatClampNeg (vp_nar .boolean 1))))) wc = _ := ((mu_ne ne_wc_dr).trans hR_wc_34)
  have hR_ol_35 : (mu Mc34 dr (.inl (k 2, 3200, .inl (upd (fun _ => 0) (0 : Int32).toNatClampNeg (vp_nar .boolean 1))))) ol = _ := ((mu_ne ne_ol_dr).trans hR_ol_34)
  have hR_al_35 : (mu Mc34 dr (.inl (k 2, 3200, .inl (upd (fun _ => 0) (0 : Int32).toNatClampNeg (vp_nar .boolean 1))))) al = _ := ((mu_ne ne_al_dr).trans hR_al_34)
  generalize (mu Mc34 dr (.inl (k 2, 3200, .inl (upd (fun _ => 0) (0 : Int32).toNatClampNeg (vp_nar .boolean 1))))) = Mc35 at hm hkp hR_mo_35 hR_cn_35 hR_ia_35 hR_dr_35 hR_en_35 hR_la_35 hR_wo_35 hR_op_35 hR_mk_35 hR_ir_35 hR_se_35 hR_ec_35 hR_lc_35 hR_wc_35 hR_ol_35 hR_al_35
  have hap : [mo, cn, ia, dr, en, la, wo, op, mk, ir, se, ec, lc, wc, ol, al].Pairwise (· ≠ ·) := by
    refine List.Pairwise.cons ?_ (List.Pairwise.cons ?_ (List.Pairwise.cons ?_ (List.Pairwise.cons ?_ (List.Pairwise.cons ?_ (List.Pairwise.cons ?_ (List.Pairwise.cons ?_ (List.Pairwise.cons ?_ (List.Pairwise.cons ?_ (List.Pairwise.cons ?_ (List.Pairwise.cons ?_ (List.Pairwise.cons ?_ (List.Pairwise.cons ?_ (List.Pairwise.cons ?_ (List.Pairwise.cons ?_ (List.Pairwise.cons ?_ (List.Pairwise.nil))))))))))))))))
    · intro b9 hb9
      simp only [List.mem_cons, List.not_mem_nil, or_false] at hb9
      rcases hb9 with hb9 | hb9 | hb9 | hb9 | hb9 | hb9 | hb9 | hb9 | hb9 | hb9 | hb9 | hb9 | hb9 | hb9 | hb9
      · rw [hb9]; exact ne_mo_cn
      · rw [hb9]; exact ne_mo_ia
      · rw [hb9]; exact ne_mo_dr
      · rw [hb9]; exact ne_mo_en
      · rw [hb9]; exact ne_mo_la
      · rw [hb9]; exact ne_mo_wo
      · rw [hb9]; exact ne_mo_op
      · rw [hb9]; exact ne_mo_mk
      · rw [hb9]; exact ne_mo_ir
      · rw [hb9]; exact ne_mo_se
      · rw [hb9]; exact ne_mo_ec
      · rw [hb9]; exact ne_mo_lc
      · rw [hb9]; exact ne_mo_wc
      · rw [hb9]; exact ne_mo_ol
      · rw [hb9]; exact ne_mo_al
    · intro b9 hb9
      simp only [List.mem_cons, List.not_mem_nil, or_false] at hb9
      rcases hb9 with hb9 | hb9 | hb9 | hb9 | hb9 | hb9 | hb9 | hb9 | hb9 | hb9 | hb9 | hb9 | hb9 | hb9
      · rw [hb9]; exact ne_cn_ia
      · rw [hb9]; exact ne_cn_dr
      · rw [hb9]; exact ne_cn_en
      · rw [hb9]; exact ne_cn_la
      · rw [hb9]; exact ne_cn_wo
      · rw [hb9]; exact ne_cn_op
      · rw [hb9]; exact ne_cn_mk
      · rw [hb9]; exact ne_cn_ir
      · rw [hb9]; exact ne_cn_se
      · rw [hb9]; exact ne_cn_ec
      · rw [hb9]; exact ne_cn_lc
      · rw [hb9]; exact ne_cn_wc
      · rw [hb9]; exact ne_cn_ol
      · rw [hb9]; exact ne_cn_al
    · intro b9 hb9
      simp only [List.mem_cons, List.not_mem_nil, or_false] at hb9
      rcases hb9 with hb9 | hb9 | hb9 | hb9 | hb9 | hb9 | hb9 | hb9 | hb9 | hb9 | hb9 | hb9 | hb9
      · rw [hb9]; exact ne_ia_dr
      · rw [hb9]; exact ne_ia_en
      · rw [hb9]; exact ne_ia_la
      · rw [hb9]; exact ne_ia_wo
      · rw [hb9]; exact ne_ia_op
      · rw [hb9]; exact ne_ia_mk
      · rw [hb9]; exact ne_ia_ir
      · rw [hb9]; exact ne_ia_se
      · rw [hb9]; exact ne_ia_ec
      · rw [hb9]; exact ne_ia_lc
      · rw [hb9]; exact ne_ia_wc
      · rw [hb9]; exact ne_ia_ol
      · rw [hb9]; exact ne_ia_al
    · intro b9 hb9
      simp only [List.mem_cons, List.not_mem_nil, or_false] at hb9
      rcases hb9 with hb9 | hb9 | hb9 | hb9 | hb9 | hb9 | hb9 | hb9 | hb9 | hb9 | hb9 | hb9
      · rw [hb9]; exact ne_dr_en
      · rw [hb9]; exact ne_dr_la
      · rw [hb9]; exact ne_dr_wo
      · rw [hb9]; exact ne_dr_op
      · rw [hb9]; exact ne_dr_mk
      · rw [hb9]; exact ne_dr_ir
      · rw [hb9]; exact ne_dr_se
      · rw [hb9]; exact ne_dr_ec
      · rw [hb9]; exact ne_dr_lc
      · rw [hb9]; exact ne_dr_wc
      · rw [hb9]; exact ne_dr_ol
      · rw [hb9]; exact ne_dr_al
    · intro b9 hb9
      simp only [List.mem_cons, List.not_mem_nil, or_false] at hb9
      rcases hb9 with hb9 | hb9 | hb9 | hb9 | hb9 | hb9 | hb9 | hb9 | hb9 | hb9 | hb9
      · rw [hb9]; exact ne_en_la
      · rw [hb9]; exact ne_en_wo
      · rw [hb9]; exact ne_en_op
      · rw [hb9]; exact ne_en_mk
      · rw [hb9]; exact ne_en_ir
      · rw [hb9]; exact ne_en_se
      · rw [hb9]; exact ne_en_ec
      · rw [hb9]; exact ne_en_lc
      · rw [hb9]; exact ne_en_wc
      · rw [hb9]; exact ne_en_ol
      · rw [hb9]; exact ne_en_al
    · intro b9 hb9
      simp only [List.mem_cons, List.not_mem_nil, or_false] at hb9
      rcases hb9 with hb9 | hb9 | hb9 | hb9 | hb9 | hb9 | hb9 | hb9 | hb9 | hb9
      · rw [hb9]; exact ne_la_wo
      · rw [hb9]; exact ne_la_op
      · rw [hb9]; exact ne_la_mk
      · rw [hb9]; exact ne_la_ir
      · rw [hb9]; exact ne_la_se
      · rw [hb9]; exact ne_la_ec
      · rw [hb9]; exact ne_la_lc
      · rw [hb9]; exact ne_la_wc
      · rw [hb9]; exact ne_la_ol
      · rw [hb9]; exact ne_la_al
    · intro b9 hb9
      simp only [List.mem_cons, List.not_mem_nil, or_false] at hb9
      rcases hb9 with hb9 | hb9 | hb9 | hb9 | hb9 | hb9 | hb9 | hb9 | hb9
      · rw [hb9]; exact ne_wo_op
      · rw [hb9]; exact ne_wo_mk
      · rw [hb9]; exact ne_wo_ir
      · rw [hb9]; exact ne_wo_se
      · rw [hb9]; exact ne_wo_ec
      · rw [hb9]; exact ne_wo_lc
      · rw [hb9]; exact ne_wo_wc
      · rw [hb9]; exact ne_wo_ol
      · rw [hb9]; exact ne_wo_al
    · intro b9 hb9
      simp only [List.mem_cons, List.not_mem_nil, or_false] at hb9
      rcases hb9 with hb9 | hb9 | hb9 | hb9 | hb9 | hb9 | hb9 | hb9
      · rw [hb9]; exact ne_op_mk
      · rw [hb9]; exact ne_op_ir
      · rw [hb9]; exact ne_op_se
      · rw [hb9]; exact ne_op_ec
      · rw [hb9]; exact ne_op_lc
      · rw [hb9]; exact ne_op_wc
      · rw [hb9]; exact ne_op_ol
      · rw [hb9]; exact ne_op_al
    · intro b9 hb9
      simp only [List.mem_cons, List.not_mem_nil, or_false] at hb9
      rcases hb9 with hb9 | hb9 | hb9 | hb9 | hb9 | hb9 | hb9
      · rw [hb9]; exact ne_mk_ir
      · rw [hb9]; exact ne_mk_se
      · rw [hb9]; exact ne_mk_ec
      · rw [hb9]; exact ne_mk_lc
      · rw [hb9]; exact ne_mk_wc
      · rw [hb9]; exact ne_mk_ol
      · rw [hb9]; exact ne_mk_al
    · intro b9 hb9
      simp only [List.mem_cons, List.not_mem_nil, or_false] at hb9
      rcases hb9 with hb9 | hb9 | hb9 | hb9 | hb9 | hb9
      · rw [hb9]; exact ne_ir_se
      · rw [hb9]; exact ne_ir_ec
      · rw [hb9]; exact ne_ir_lc
      · rw [hb9]; exact ne_ir_wc
      · rw [hb9]; exact ne_ir_ol
      · rw [hb9]; exact ne_ir_al
    · intro b9 hb9
      simp only [List.mem_cons, List.not_mem_nil, or_false] at hb9
      rcases hb9 with hb9 | hb9 | hb9 | hb9 | hb9
      · rw [hb9]; exact ne_se_ec
      · rw [hb9]; exact ne_se_lc
      · rw [hb9]; exact ne_se_wc
      · rw [hb9]; exact ne_se_ol
      · rw [hb9]; exact ne_se_al
    · intro b9 hb9
      simp only [List.mem_cons, List.not_mem_nil, or_false] at hb9
      rcases hb9 with hb9 | hb9 | hb9 | hb9
      · rw [hb9]; exact ne_ec_lc
      · rw [hb9]; exact ne_ec_wc
      · rw [hb9]; exact ne_ec_ol
      · rw [hb9]; exact ne_ec_al
    · intro b9 hb9
      simp only [List.mem_cons, List.not_mem_nil, or_false] at hb9
      rcases hb9 with hb9 | hb9 | hb9
      · rw [hb9]; exact ne_lc_wc
      · rw [hb9]; exact ne_lc_ol
      · rw [hb9]; exact ne_lc_al
    · intro b9 hb9
      simp only [List.mem_cons, List.not_mem_nil, or_false] at hb9
      rcases hb9 with hb9 | hb9
      · rw [hb9]; exact ne_wc_ol
      · rw [hb9]; exact ne_wc_al
    · intro b9 hb9
      simp only [List.mem_cons, List.not_mem_nil, or_false] at hb9
      rcases hb9 with hb9
      · rw [hb9]; exact ne_ol_al
    · intro b9 hb9; simp at hb9
  have hnn : ∀ a ∈ [cn, ia, dr, en, la, wo, op, mk, ir, se, ec, lc, wc, ol, al], M a = none := by
    intro b9 hb9
    simp only [List.mem_cons, List.not_mem_nil, or_false] at hb9
    rcases hb9 with hb9 | hb9 | hb9 | hb9 | hb9 | hb9 | hb9 | hb9 | hb9 | hb9 | hb9 | hb9 | hb9 | hb9 | hb9
    · rw [hb9]; exact hn_cn
    · rw [hb9]; exact hn_ia
    · rw [hb9]; exact hn_dr
    · rw [hb9]; exact hn_en
    · rw [hb9]; exact hn_la
    · rw [hb9]; exact hn_wo
    · rw [hb9]; exact hn_op
    · rw [hb9]; exact hn_mk
    · rw [hb9]; exact hn_ir
    · rw [hb9]; exact hn_se
    · rw [hb9]; exact hn_ec
    · rw [hb9]; exact hn_lc
    · rw [hb9]; exact hn_wc
    · rw [hb9]; exact hn_ol
    · rw [hb9]; exact hn_al
  refine W.widen (k := 15) (n := 400000) (by omega) (by omega) ?_
  refine W.vret hx hb hr (fun t ht hW => ⟨⟨none, _, rfl, ?_, by rw [ht]; exact hm⟩, hS.F ht⟩) hS.2.2 dX6_init_158
  exact ⟨rfl, hkp, cn, ia, dr, en, la, wo, op, mk, ir, se, ec, lc, wc, ol, al, ⟨_, _, _, _, _, _, _, (upd (fun _ => 0) (0 : Int32).toNatClampNeg 1), (upd (fun _ => 0) (0 : Int32).toNatClampNeg 1), (upd (fun _ => 0) (0 : Int32).toNatClampNeg (vp_nar .boolean 1)), (fun _ => 0), (fun _ => 0), (fun _ => 0), (fun _ => 0), (fun _ => 0), (fun _ => 0), (fun _ => 0), (fun _ => 0), (fun _ => 0), (fun _ => 0), (fun _ => 0), (fun _ => 0), hap, hR_mo_35, fun q => absurd rfl q, ⟨(rng0 bC).up 0 1 (by decide), rng0 _, rng0 _⟩, hR_cn_35, hR_ia_35, hR_dr_35, hR_en_35, hR_la_35, hR_wo_35, hR_op_35, hR_mk_35, hR_ir_35, hR_se_35, hR_ec_35, hR_lc_35, hR_wc_35, hR_ol_35, hR_al_35⟩, hnn⟩

set_option maxHeartbeats 4000000 in
set_option maxRecDepth 100000 in
theorem p_X6_power (l : Launch) (D : va_G) (k : Nat → ClassId) (z : Nat) (M : mM) (mo cn ia dr en la wo op mk ir se ec lc wc ol al : Nat) (dn md : Int32)  (n9 : Int32) (hI : mI k M mo cn ia dr en la wo op mk ir se ec lc wc ol al dn md) : mK l yX6_power wsX6_power ({ frames := 1, cells := 0, slots := 0, locals := 21 }) D k z [.ref mo, .int n9] M (fun v M' => (v = none ∧ ((¬ n9 < -1 ∧ ¬ 1000 < n9 ∧ ∃ fs, M' mo = some (.inr (6, .int 0 :: fs))) ∨ ((n9 < -1 ∨ 1000 < n9) ∧ ∃ fs, M' mo = some (.inr (6, .int 1 :: fs))))) ∧ mI k M' mo cn ia dr en la wo op mk ir se ec lc wc ol al dn md ∧ kpx (fun a => a ∈ [mo, cn, ia, dr, en, la, wo, op, mk, ir, se, ec, lc, wc, ol, al]) M M') := by
  refine Met.ofW (cc := cX6_power) (maxL := 2) (ret := none) (by decide) rfl ?_
  intro p e s m args below meth c s₁ B hml hv
  obtain ⟨rfl, hz, hcx, hm⟩ := hv
  have hx := B.exec
  have hb := B.bytes
  have hr := B.returns
  have hts := atoms_spec (ws := wsX6_power) B.pre
  have hown : s.vm.findClass RX6 = some m.cls := findClass_of_methodNamed B.named
  have hlocks := B.notSynchronized
  have hK := hcx.1
  have hS : va_S (AZ z) s.heap s.heap [] := va_S.rf
  have hA : ∀ q, s.heap.size ≤ q → AZ z q := fun q h => Nat.le_trans hz h
  have hl := lv_entry ([.ref mo, .int n9]) (n := 2) (Nat.le_of_ble_eq_true rfl)
  rw [lg_entry_eq]
  generalize (lg_sl ([.ref mo, .int n9]) ++ List.replicate (2 - (lg_sl ([.ref mo, .int n9])).length) Slot.unset).toArray = ls at hl ⊢
  have hl : lv_has ls 2 [(0, .ref mo), (1, .int n9)] := hl
  have f45 := hts (.fieldLink RX6 45 "CommitTreeModel" "power" "I") (by decide +kernel)
  have wX6 : ∀ w ∈ wsX60, w ∈ wsX6_power := by decide +kernel
  obtain ⟨cd, ni, pw, cm, wr, cs, hm9, fcn, fia, fdr, fen, fla, fwo, fop, fmk, fir, fse, fec, flc, fol, fal, fwc, hap, hM, hmd, ⟨hrC, hrL, hrM⟩, hcn, hia, hdr, hen, hla, hwo, hop, hmk, hir, hse, hec, hlc, hwc, hol, hal⟩ := id hI
  have ne_mo_cn : nq mo cn := pw_ne hap 0 1 (by decide) (Nat.le_of_ble_eq_true rfl)
  have ne_cn_mo : nq cn mo := Ne.symm ne_mo_cn
  have ne_mo_ia : nq mo ia := pw_ne hap 0 2 (by decide) (Nat.le_of_ble_eq_true rfl)
  have ne_ia_mo : nq ia mo := Ne.symm ne_mo_ia
  have ne_mo_dr : nq mo dr := pw_ne hap 0 3 (by decide) (Nat.le_of_ble_eq_true rfl)
  have ne_dr_mo : nq dr mo := Ne.symm ne_mo_dr
  have ne_mo_en : nq mo en := pw_ne hap 0 4 (by decide) (Nat.le_of_ble_eq_true rfl)
  have ne_en_mo : nq en mo := Ne.symm ne_mo_en
  have ne_mo_la : nq mo la := pw_ne hap 0 5 (by decide) (Nat.le_of_ble_eq_true rfl)
  have ne_la_mo : nq la mo := Ne.symm ne_mo_la
  have ne_mo_wo : nq mo wo := pw_ne hap 0 6 (by decide) (Nat.le_of_ble_eq_true rfl)
  have ne_wo_mo : nq wo mo := Ne.symm ne_mo_wo
  have ne_mo_op : nq mo op := pw_ne hap 0 7 (by decide) (Nat.le_of_ble_eq_true rfl)
  have ne_op_mo : nq op mo := Ne.symm ne_mo_op
  have ne_mo_mk : nq mo mk := pw_ne hap 0 8 (by decide) (Nat.le_of_ble_eq_true rfl)
  have ne_mk_mo : nq mk mo := Ne.symm ne_mo_mk
  have ne_mo_ir : nq mo ir := pw_ne hap 0 9 (by decide) (Nat.le_of_ble_eq_true rfl)
  have ne_ir_mo : nq ir mo := Ne.symm ne_mo_ir
  have ne_mo_se : nq mo se := pw_ne hap 0 10 (by decide) (Nat.le_of_ble_eq_true rfl)
  have ne_se_mo : nq se mo := Ne.symm ne_mo_se
  have ne_mo_ec : nq mo ec := pw_ne hap 0 11 (by decide) (Nat.le_of_ble_eq_true rfl)
  have ne_ec_mo : nq ec mo := Ne.symm ne_mo_ec
  have ne_mo_lc : nq mo lc := pw_ne hap 0 12 (by decide) (Nat.le_of_ble_eq_true rfl)
  have ne_lc_mo : nq lc mo := Ne.symm ne_mo_lc
  have ne_mo_wc : nq mo wc := pw_ne hap 0 13 (by decide) (Nat.le_of_ble_eq_true rfl)
  have ne_wc_mo : nq wc mo := Ne.symm ne_mo_wc
  have ne_mo_ol : nq mo ol := pw_ne hap 0 14 (by decide) (Nat.le_of_ble_eq_true rfl)
  have ne_ol_mo : nq ol mo := Ne.symm ne_mo_ol
  have ne_mo_al : nq mo al := pw_ne hap 0 15 (by decide) (Nat.le_of_ble_eq_true rfl)
  have ne_al_mo : nq al mo := Ne.symm ne_mo_al
  have ne_cn_ia : nq cn ia := pw_ne hap 1 2 (by decide) (Nat.le_of_ble_eq_true rfl)
  have ne_ia_cn : nq ia cn := Ne.symm ne_cn_ia
  have ne_cn_dr : nq cn dr := pw_ne hap 1 3 (by decide) (Nat.le_of_ble_eq_true rfl)
  have ne_dr_cn : nq dr cn := Ne.symm ne_cn_dr
  have ne_cn_en : nq cn en := pw_ne hap 1 4 (by decide) (Nat.le_of_ble_eq_true rfl)
  have ne_en_cn : nq en cn := Ne.symm ne_cn_en
  have ne_cn_la : nq cn la := pw_ne hap 1 5 (by decide) (Nat.le_of_ble_eq_true rfl)
  have ne_la_cn : nq la cn := Ne.symm ne_cn_la
  have ne_cn_wo : nq cn wo := pw_ne hap 1 6 (by decide) (Nat.le_of_ble_eq_true rfl)
  have ne_wo_cn : nq wo cn := Ne.symm ne_cn_wo
  have ne_cn_op : nq cn op := pw_ne hap 1 7 (by decide) (Nat.le_of_ble_eq_true rfl)
  have ne_op_cn : nq op cn := Ne.symm ne_cn_op
  have ne_cn_mk : nq cn mk := pw_ne hap 1 8 (by decide) (Nat.le_of_ble_eq_true rfl)
  have ne_mk_cn : nq mk cn := Ne.symm ne_cn_mk
  have ne_cn_ir : nq cn ir := pw_ne hap 1 9 (by decide) (Nat.le_of_ble_eq_true rfl)
  have ne_ir_cn : nq ir cn := Ne.symm ne_cn_ir
  have ne_cn_se : nq cn se := pw_ne hap 1 10 (by decide) (Nat.le_of_ble_eq_true rfl)
  have ne_se_cn : nq se cn := Ne.symm ne_cn_se
  have ne_cn_ec : nq cn ec := pw_ne hap 1 11 (by decide) (Nat.le_of_ble_eq_true rfl)
  have ne_ec_cn : nq ec cn := Ne.symm ne_cn_ec
  have ne_cn_lc : nq cn lc := pw_ne hap 1 12 (by decide) (Nat.le_of_ble_eq_true rfl)
  have ne_lc_cn : nq lc cn := Ne.symm ne_cn_lc
  have ne_cn_wc : nq cn wc := pw_ne hap 1 13 (by decide) (Nat.le_of_ble_eq_true rfl)
  have ne_wc_cn : nq wc cn := Ne.symm ne_cn_wc
  have ne_cn_ol : nq cn ol := pw_ne hap 1 14 (by decide) (Nat.le_of_ble_eq_true rfl)
  have ne_ol_cn : nq ol cn := Ne.symm ne_cn_ol
  have ne_cn_al : nq cn al := pw_ne hap 1 15 (by decide) (Nat.le_of_ble_eq_true rfl)
  have ne_al_cn : nq al cn := Ne.symm ne_cn_al
  have ne_ia_dr : nq ia dr := pw_ne hap 2 3 (by decide) (Nat.le_of_ble_eq_true rfl)
  have ne_dr_ia : nq dr ia := Ne.symm ne_ia_dr
  have ne_ia_en : nq ia en := pw_ne hap 2 4 (by decide) (Nat.le_of_ble_eq_true rfl)
  have ne_en_ia : nq en ia := Ne.symm ne_ia_en
  have ne_ia_la : nq ia la := pw_ne hap 2 5 (by decide) (Nat.le_of_ble_eq_true rfl)
  have ne_la_ia : nq la ia := Ne.symm ne_ia_la
  have ne_ia_wo : nq ia wo := pw_ne hap 2 6 (by decide) (Nat.le_of_ble_eq_true rfl)
  have ne_wo_ia : nq wo ia := Ne.symm ne_ia_wo
  have ne_ia_op : nq ia op := pw_ne hap 2 7 (by decide) (Nat.le_of_ble_eq_true rfl)
  have ne_op_ia : nq op ia := Ne.symm ne_ia_op
  have ne_ia_mk : nq ia mk := pw_ne hap 2 8 (by decide) (Nat.le_of_ble_eq_true rfl)
  have ne_mk_ia : nq mk ia := Ne.symm ne_ia_mk
  have ne_ia_ir : nq ia ir := pw_ne hap 2 9 (by decide) (Nat.le_of_ble_eq_true rfl)
  have ne_ir_ia : nq ir ia := Ne.symm ne_ia_ir
  have ne_ia_se : nq ia se := pw_ne hap 2 10 (by decide) (Nat.le_of_ble_eq_true rfl)
  have ne_se_ia : nq se ia := Ne.symm ne_ia_se
  have ne_ia_ec : nq ia ec := pw_ne hap 2 11 (by decide) (Nat.le_of_ble_eq_true rfl)
  have ne_ec_ia : nq ec ia := Ne.symm ne_ia_ec
  have ne_ia_lc : nq ia lc := pw_ne hap 2 12 (by decide) (Nat.le_of_ble_eq_true rfl)
  have ne_lc_ia : nq lc ia := Ne.symm ne_ia_lc
  have ne_ia_wc : nq ia wc := pw_ne hap 2 13 (by decide) (Nat.le_of_ble_eq_true rfl)
  have ne_wc_ia : nq wc ia := Ne.symm ne_ia_wc
  have ne_ia_ol : nq ia ol := pw_ne hap 2 14 (by decide) (Nat.le_of_ble_eq_true rfl)
  have ne_ol_ia : nq ol ia := Ne.symm ne_ia_ol
  have ne_ia_al : nq ia al := pw_ne hap 2 15 (by decide) (Nat.le_of_ble_eq_true rfl)
  have ne_al_ia : nq al ia := Ne.symm ne_ia_al
  have ne_dr_en : nq dr en := pw_ne hap 3 4 (by decide) (Nat.le_of_ble_eq_true rfl)
  have ne_en_dr : nq en dr := Ne.symm ne_dr_en
  have ne_dr_la : nq dr la := pw_ne hap 3 5 (by decide) (Nat.le_of_ble_eq_true rfl)
  have ne_la_dr : nq la dr := Ne.symm ne_dr_la
  have ne_dr_wo : nq dr wo := pw_ne hap 3 6 (by decide) (Nat.le_of_ble_eq_true rfl)
  have ne_wo_dr : nq wo dr := Ne.symm ne_dr_wo
  have ne_dr_op : nq dr op := pw_ne hap 3 7 (by decide) (Nat.le_of_ble_eq_true rfl)
  have ne_op_dr : nq op dr := Ne.symm ne_dr_op
  have ne_dr_mk : nq dr mk := pw_ne hap 3 8 (by decide) (Nat.le_of_ble_eq_true rfl)
  have ne_mk_dr : nq mk dr := Ne.symm ne_dr_mk
  have ne_dr_ir : nq dr ir := pw_ne hap 3 9 (by decide) (Nat.le_of_ble_eq_true rfl)
  have ne_ir_dr : nq ir dr := Ne.symm ne_dr_ir
  have ne_dr_se : nq dr se := pw_ne hap 3 10 (by decide) (Nat.le_of_ble_eq_true rfl)
  have ne_se_dr : nq se dr := Ne.symm ne_dr_se
  have ne_dr_ec : nq dr ec := pw_ne hap 3 11 (by decide) (Nat.le_of_ble_eq_true rfl)
  have ne_ec_dr : nq ec dr := Ne.symm ne_dr_ec
  have ne_dr_lc : nq dr lc := pw_ne hap 3 12 (by decide) (Nat.le_of_ble_eq_true rfl)
  have ne_lc_dr : nq lc dr := Ne.symm ne_dr_lc
  have ne_dr_wc : nq dr wc := pw_ne hap 3 13 (by decide) (Nat.le_of_ble_eq_true rfl)
  have ne_wc_dr : nq wc dr := Ne.symm ne_dr_wc
  have ne_dr_ol : nq dr ol := pw_ne hap 3 14 (by decide) (Nat.le_of_ble_eq_true rfl)
  have ne_ol_dr : nq ol dr := Ne.symm ne_dr_ol
  have ne_dr_al : nq dr al := pw_ne hap 3 15 (by decide) (Nat.le_of_ble_eq_true rfl)
  have ne_al_dr : nq al dr := Ne.symm ne_dr_al
  have ne_en_la : nq en la := pw_ne hap 4 5 (by decide) (Nat.le_of_ble_eq_true rfl)
  have ne_la_en : nq la en := Ne.symm ne_en_la
  have ne_en_wo : nq en wo := pw_ne hap 4 6 (by decide) (Nat.le_of_ble_eq_true rfl)
  have ne_wo_en : nq wo en := Ne.symm ne_en_wo
  have ne_en_op : nq en op := pw_ne hap 4 7 (by decide) (Nat.le_of_ble_eq_true rfl)
  have ne_op_en : nq op en := Ne.symm ne_en_op
  have ne_en_mk : nq en mk := pw_ne hap 4 8 (by decide) (Nat.le_of_ble_eq_true rfl)
  have ne_mk_en : nq mk en := Ne.symm ne_en_mk
  have ne_en_ir : nq en ir := pw_ne hap 4 9 (by decide) (Nat.le_of_ble_eq_true rfl)
  have ne_ir_en : nq ir en := Ne.symm ne_en_ir
  have ne_en_se : nq en se := pw_ne hap 4 10 (by decide) (Nat.le_of_ble_eq_true rfl)
  have ne_se_en : nq se en := Ne.symm ne_en_se
  have ne_en_ec : nq en ec := pw_ne hap 4 11 (by decide) (Nat.le_of_ble_eq_true rfl)
  have ne_ec_en : nq ec en := Ne.symm ne_en_ec
  have ne_en_lc : nq en lc := pw_ne hap 4 12 (by decide) (Nat.le_of_ble_eq_true rfl)
  have ne_lc_en : nq lc en := Ne.symm ne_en_lc
  have ne_en_wc : nq en wc := pw_ne hap 4 13 (by decide) (Nat.le_of_ble_eq_true rfl)
  have ne_wc_en : nq wc en := Ne.symm ne_en_wc
  have ne_en_ol : nq en ol := pw_ne hap 4 14 (by decide) (Nat.le_of_ble_eq_true rfl)
  have ne_ol_en : nq ol en := Ne.symm ne_en_ol
  have ne_en_al : nq en al := pw_ne hap 4 15 (by decide) (Nat.le_of_ble_eq_true rfl)
  have ne_al_en : nq al en := Ne.symm ne_en_al
  have ne_la_wo : nq la wo := pw_ne hap 5 6 (by decide) (Nat.le_of_ble_eq_true rfl)
  have ne_wo_la : nq wo la := Ne.symm ne_la_wo
  have ne_la_op : nq la op := pw_ne hap 5 7 (by decide) (Nat.le_of_ble_eq_true rfl)
  have ne_op_la : nq op la := Ne.symm ne_la_op
  have ne_la_mk : nq la mk := pw_ne hap 5 8 (by decide) (Nat.le_of_ble_eq_true rfl)
  have ne_mk_la : nq mk la := Ne.symm ne_la_mk
  have ne_la_ir : nq la ir := pw_ne hap 5 9 (by decide) (Nat.le_of_ble_eq_true rfl)
  have ne_ir_la : nq ir la := Ne.symm ne_la_ir
  have ne_la_se : nq la se := pw_ne hap 5 10 (by decide) (Nat.le_of_ble_eq_true rfl)
  have ne_se_la : nq se la := Ne.symm ne_la_se
  have ne_la_ec : nq la ec := pw_ne hap 5 11 (by decide) (Nat.le_of_ble_eq_true rfl)
  have ne_ec_la : nq ec la := Ne.symm ne_la_ec
  have ne_la_lc : nq la lc := pw_ne hap 5 12 (by decide) (Nat.le_of_ble_eq_true rfl)
  have ne_lc_la : nq lc la := Ne.symm ne_la_lc
  have ne_la_wc : nq la wc := pw_ne hap 5 13 (by decide) (Nat.le_of_ble_eq_true rfl)
  have ne_wc_la : nq wc la := Ne.symm ne_la_wc
  have ne_la_ol : nq la ol := pw_ne hap 5 14 (by decide) (Nat.le_of_ble_eq_true rfl)
  have ne_ol_la : nq ol la := Ne.symm ne_la_ol
  have ne_la_al : nq la al := pw_ne hap 5 15 (by decide) (Nat.le_of_ble_eq_true rfl)
  have ne_al_la : nq al la := Ne.symm ne_la_al
  have ne_wo_op : nq wo op := pw_ne hap 6 7 (by decide) (Nat.le_of_ble_eq_true rfl)
  have ne_op_wo : nq op wo := Ne.symm ne_wo_op
  have ne_wo_mk : nq wo mk := pw_ne hap 6 8 (by decide) (Nat.le_of_ble_eq_true rfl)
  have ne_mk_wo : nq mk wo := Ne.symm ne_wo_mk
  have ne_wo_ir : nq wo ir := pw_ne hap 6 9 (by decide) (Nat.le_of_ble_eq_true rfl)
  have ne_ir_wo : nq ir wo := Ne.symm ne_wo_ir
  have ne_wo_se : nq wo se := pw_ne hap 6 10 (by decide) (Nat.le_of_ble_eq_true rfl)
  have ne_se_wo : nq se wo := Ne.symm ne_wo_se
  have ne_wo_ec : nq wo ec := pw_ne hap 6 11 (by decide) (Nat.le_of_ble_eq_true rfl)
  have ne_ec_wo : nq ec wo := Ne.symm ne_wo_ec
  have ne_wo_lc : nq wo lc := pw_ne hap 6 12 (by decide) (Nat.le_of_ble_eq_true rfl)
  have ne_lc_wo : nq lc wo := Ne.symm ne_wo_lc
  have ne_wo_wc : nq wo wc := pw_ne hap 6 13 (by decide) (Nat.le_of_ble_eq_true rfl)
  have ne_wc_wo : nq wc wo := Ne.symm ne_wo_wc
  have ne_wo_ol : nq wo ol := pw_ne hap 6 14 (by decide) (Nat.le_of_ble_eq_true rfl)
  have ne_ol_wo : nq ol wo := Ne.symm ne_wo_ol
  have ne_wo_al : nq wo al := pw_ne hap 6 15 (by decide) (Nat.le_of_ble_eq_true rfl)
  have ne_al_wo : nq al wo := Ne.symm ne_wo_al
  have ne_op_mk : nq op mk := pw_ne hap 7 8 (by decide) (Nat.le_of_ble_eq_true rfl)
  have ne_mk_op : nq mk op := Ne.symm ne_op_mk
  have ne_op_ir : nq op ir := pw_ne hap 7 9 (by decide) (Nat.le_of_ble_eq_true rfl)
  have ne_ir_op : nq ir op := Ne.symm ne_op_ir
  have ne_op_se : nq op se := pw_ne hap 7 10 (by decide) (Nat.le_of_ble_eq_true rfl)
  have ne_se_op : nq se op := Ne.symm ne_op_se
  have ne_op_ec : nq op ec := pw_ne hap 7 11 (by decide) (Nat.le_of_ble_eq_true rfl)
  have ne_ec_op : nq ec op := Ne.symm ne_op_ec
  have ne_op_lc : nq op lc := pw_ne hap 7 12 (by decide) (Nat.le_of_ble_eq_true rfl)
  have ne_lc_op : nq lc op := Ne.symm ne_op_lc
  have ne_op_wc : nq op wc := pw_ne hap 7 13 (by decide) (Nat.le_of_ble_eq_true rfl)
  have ne_wc_op : nq wc op := Ne.symm ne_op_wc
  have ne_op_ol : nq op ol := pw_ne hap 7 14 (by decide) (Nat.le_of_ble_eq_true rfl)
  have ne_ol_op : nq ol op := Ne.symm ne_op_ol
  have ne_op_al : nq op al := pw_ne hap 7 15 (by decide) (Nat.le_of_ble_eq_true rfl)
  have ne_al_op : nq al op := Ne.symm ne_op_al
  have ne_mk_ir : nq mk ir := pw_ne hap 8 9 (by decide) (Nat.le_of_ble_eq_true rfl)
  have ne_ir_mk : nq ir mk := Ne.symm ne_mk_ir
  have ne_mk_se : nq mk se := pw_ne hap 8 10 (by decide) (Nat.le_of_ble_eq_true rfl)
  have ne_se_mk : nq se mk := Ne.symm ne_mk_se
  have ne_mk_ec : nq mk ec := pw_ne hap 8 11 (by decide) (Nat.le_of_ble_eq_true rfl)
  have ne_ec_mk : nq ec mk := Ne.symm ne_mk_ec
  have ne_mk_lc : nq mk lc := pw_ne hap 8 12 (by decide) (Nat.le_of_ble_eq_true rfl)
  have ne_lc_mk : nq lc mk := Ne.symm ne_mk_lc
  have ne_mk_wc : nq mk wc := pw_ne hap 8 13 (by decide) (Nat.le_of_ble_eq_true rfl)
  have ne_wc_mk : nq wc mk := Ne.symm ne_mk_wc
  have ne_mk_ol : nq mk ol := pw_ne hap 8 14 (by decide) (Nat.le_of_ble_eq_true rfl)
  have ne_ol_mk : nq ol mk := Ne.symm ne_mk_ol
  have ne_mk_al : nq mk al := pw_ne hap 8 15 (by decide) (Nat.le_of_ble_eq_true rfl)
  have ne_al_mk : nq al mk := Ne.symm ne_mk_al
  have ne_ir_se : nq ir se := pw_ne hap 9 10 (by decide) (Nat.le_of_ble_eq_true rfl)
  have ne_se_ir : nq se ir := Ne.symm ne_ir_se
  have ne_ir_ec : nq ir ec := pw_ne hap 9 11 (by decide) (Nat.le_of_ble_eq_true rfl)
  have ne_ec_ir : nq ec ir := Ne.symm ne_ir_ec
  have ne_ir_lc : nq ir lc := pw_ne hap 9 12 (by decide) (Nat.le_of_ble_eq_true rfl)
  have ne_lc_ir : nq lc ir := Ne.symm ne_ir_lc
  have ne_ir_wc : nq ir wc := pw_ne hap 9 13 (by decide) (Nat.le_of_ble_eq_true rfl)
  have ne_wc_ir : nq wc ir := Ne.symm ne_ir_wc
  have ne_ir_ol : nq ir ol := pw_ne hap 9 14 (by decide) (Nat.le_of_ble_eq_true rfl)
  have ne_ol_ir : nq ol ir := Ne.symm ne_ir_ol
  have ne_ir_al : nq ir al := pw_ne hap 9 15 (by decide) (Nat.le_of_ble_eq_true rfl)
  have ne_al_ir : nq al ir := Ne.symm ne_ir_al
  have ne_se_ec : nq se ec := pw_ne hap 10 11 (by decide) (Nat.le_of_ble_eq_true rfl)
  have ne_ec_se : nq ec se := Ne.symm ne_se_ec
  have ne_se_lc : nq se lc := pw_ne hap 10 12 (by decide) (Nat.le_of_ble_eq_true rfl)
  have ne_lc_se : nq lc se := Ne.symm ne_se_lc
  have ne_se_wc : nq se wc := pw_ne hap 10 13 (by decide) (Nat.le_of_ble_eq_true rfl)
  have ne_wc_se : nq wc se := Ne.symm ne_se_wc
  have ne_se_ol : nq se ol := pw_ne hap 10 14 (by decide) (Nat.le_of_ble_eq_true rfl)
  have ne_ol_se : nq ol se := Ne.symm ne_se_ol
  have ne_se_al : nq se al := pw_ne hap 10 15 (by decide) (Nat.le_of_ble_eq_true rfl)
  have ne_al_se : nq al se := Ne.symm ne_se_al
  have ne_ec_lc : nq ec lc := pw_ne hap 11 12 (by decide) (Nat.le_of_ble_eq_true rfl)
  have ne_lc_ec : nq lc ec := Ne.symm ne_ec_lc
  have ne_ec_wc : nq ec wc := pw_ne hap 11 13 (by decide) (Nat.le_of_ble_eq_true rfl)
  have ne_wc_ec : nq wc ec := Ne.symm ne_ec_wc
  have ne_ec_ol : nq ec ol := pw_ne hap 11 14 (by decide) (Nat.le_of_ble_eq_true rfl)
  have ne_ol_ec : nq ol ec := Ne.symm ne_ec_ol
  have ne_ec_al : nq ec al := pw_ne hap 11 15 (by decide) (Nat.le_of_ble_eq_true rfl)
  have ne_al_ec : nq al ec := Ne.symm ne_ec_al
  have ne_lc_wc : nq lc wc := pw_ne hap 12 13 (by decide) (Nat.le_of_ble_eq_true rfl)
  have ne_wc_lc : nq wc lc := Ne.symm ne_lc_wc
  have ne_lc_ol : nq lc ol := pw_ne hap 12 14 (by decide) (Nat.le_of_ble_eq_true rfl)
  have ne_ol_lc : nq ol lc := Ne.symm ne_lc_ol
  have ne_lc_al : nq lc al := pw_ne hap 12 15 (by decide) (Nat.le_of_ble_eq_true rfl)
  have ne_al_lc : nq al lc := Ne.symm ne_lc_al
  have ne_wc_ol : nq wc ol := pw_ne hap 13 14 (by decide) (Nat.le_of_ble_eq_true rfl)
  have ne_ol_wc : nq ol wc := Ne.symm ne_wc_ol
  have ne_wc_al : nq wc al := pw_ne hap 13 15 (by decide) (Nat.le_of_ble_eq_true rfl)
  have ne_al_wc : nq al wc := Ne.symm ne_wc_al
  have ne_ol_al : nq ol al := pw_ne hap 14 15 (by decide) (Nat.le_of_ble_eq_true rfl)
  have ne_al_ol : nq al ol := Ne.symm ne_ol_al
  have hkp : kpx (fun a => a ∈ [mo, cn, ia, dr, en, la, wo, op, mk, ir, se, ec, lc, wc, ol, al]) M M := kpx.refl _ _
  refine lv_aload_n hx hb dX6_power_0 rfl (lv_at hl 0 rfl) ?_
  refine lv_iload_n hx hb dX6_power_1 rfl (lv_at hl 1 rfl) ?_
  refine lv_iconst (v := (-1)) hx hb dX6_power_2 (by decide) ?_
  refine lv_icmp_lt (tgt := 13) hx hb dX6_power_3 (by decide) (fun c1 => ?_) (fun c1 => ?_)
  · refine lv_iconst (v := 1) hx hb dX6_power_13 (by decide) ?_
    refine lv_goto (tgt := 18) hx hb dX6_power_14 (by decide) ?_
    refine m_kV (As := [.int 1]) (rest := []) (rm := { frames := 0, cells := 0, slots := 0, locals := 0 }) ⟨hx, hb, hml, hown, hts⟩ (s_X6_failsE l D k z _ mo cn ia dr en la wo op mk ir se ec lc wc ol al cd ni dn md pw cm wr cs hm9 1 hM) (cwV 1 hts gX6_power_X6_fails rfl rfl rfl (by decide +kernel) ⟨Nat.le_of_ble_eq_true rfl, Nat.le_of_ble_eq_true rfl⟩) (m_recv hK hm (q := (RX6, TX6, 24)) rfl hM) hz hcx hm hS rfl hl.1 rfl (Nat.le_of_ble_eq_true rfl) dX6_power_18 ⟨Nat.le_of_ble_eq_true rfl, Nat.le_of_ble_eq_true rfl⟩ (fun v M1 H locs hv hm hS => ?_)
    obtain ⟨hv1, hM1⟩ := hv
    have hv1 : v = some (.int 1) := hv1.trans (by decide)
    subst hv1
    rw [hM1] at hm
    refine W.eq (g2 := F0 m 21 ls [.int 1]) rfl ?_
    refine W.widen (k := 0) (n := 0) (Nat.le_of_ble_eq_true rfl) (Nat.le_of_ble_eq_true rfl) ?_
    have hm : mm D (AZ z) (mu M mo (.inr (6, [.int 1, .ref cn, .ref ia, .ref dr, .ref en, .ref la, .ref wo, .int ni, .ref op, .ref mk, .ref ir, .int dn, .int md, .int pw, .int cm, .int wr, .ref se, .ref ec, .ref lc, .ref wc, .ref ol, .ref al, .int cs, .int hm9]))) H := hm
    have hkp : kpx (fun a => a ∈ [mo, cn, ia, dr, en, la, wo, op, mk, ir, se, ec, lc, wc, ol, al]) M (mu M mo (.inr (6, [.int 1, .ref cn, .ref ia, .ref dr, .ref en, .ref la, .ref wo, .int ni, .ref op, .ref mk, .ref ir, .int dn, .int md, .int pw, .int cm, .int wr, .ref se, .ref ec, .ref lc, .ref wc, .ref ol, .ref al, .int cs, .int hm9]))) := (hkp).self (by simp)
    refine lv_if_ne (tgt := 29) hx hb dX6_power_21 (by decide) (fun c2 => ?_) (fun c2 => ?_)
    · refine W.vret hx hb hr (fun t ht hW => ⟨⟨none, _, rfl, ?_, by rw [ht]; exact hm⟩, hS.F ht⟩) hS.2.2 dX6_power_29
      exact ⟨⟨rfl, Or.inr ⟨by first | exact Or.inl c1 | exact Or.inr rfl | exact Or.inr (Int32.not_le.mp rfl), _, (mu_self _ _ _)⟩⟩, ⟨_, _, _, _, _, _, _, fcn, fia, fdr, fen, fla, fwo, fop, fmk, fir, fse, fec, flc, fol, fal, fwc, hap, (mu_self _ _ _), hmd, ⟨hrC, hrL, hrM⟩, ((mu_ne ne_cn_mo).trans hcn), ((mu_ne ne_ia_mo).trans hia), ((mu_ne ne_dr_mo).trans hdr), ((mu_ne ne_en_mo).trans hen), ((mu_ne ne_la_mo).trans hla), ((mu_ne ne_wo_mo).trans hwo), ((mu_ne ne_op_mo).trans hop), ((mu_ne ne_mk_mo).trans hmk), ((mu_ne ne_ir_mo).trans hir), ((mu_ne ne_se_mo).trans hse), ((mu_ne ne_ec_mo).trans hec), ((mu_ne ne_lc_mo).trans hlc), ((mu_ne ne_wc_mo).trans hwc), ((mu_ne ne_ol_mo).trans hol), ((mu_ne ne_al_mo).trans hal)⟩, hkp⟩
    · first | exact absurd c2 (by decide) | exact absurd (by decide) c2
  · refine lv_iload_n hx hb dX6_power_6 rfl (lv_at hl 1 rfl) ?_
    refine lv_sipush (v := 1000) hx hb dX6_power_7 (by decide) ?_
    refine lv_icmp_le (tgt := 17) hx hb dX6_power_10 (by decide) (fun c3 => ?_) (fun c3 => ?_)
    · refine lv_iconst (v := 0) hx hb dX6_power_17 (by decide) ?_
      refine m_kV (As := [.int 0]) (rest := []) (rm := { frames := 0, cells := 0, slots := 0, locals := 0 }) ⟨hx, hb, hml, hown, hts⟩ (s_X6_failsE l D k z _ mo cn ia dr en la wo op mk ir se ec lc wc ol al cd ni dn md pw cm wr cs hm9 0 hM) (cwV 1 hts gX6_power_X6_fails rfl rfl rfl (by decide +kernel) ⟨Nat.le_of_ble_eq_true rfl, Nat.le_of_ble_eq_true rfl⟩) (m_recv hK hm (q := (RX6, TX6, 24)) rfl hM) hz hcx hm hS rfl hl.1 rfl (Nat.le_of_ble_eq_true rfl) dX6_power_18 ⟨Nat.le_of_ble_eq_true rfl, Nat.le_of_ble_eq_true rfl⟩ (fun v M1 H locs hv hm hS => ?_)
      obtain ⟨hv1, hM1⟩ := hv
      have hv1 : v = some (.int 0) := hv1.trans (by decide)
      subst hv1
      rw [hM1] at hm
      refine W.eq (g2 := F0 m 21 ls [.int 0]) rfl ?_
      refine W.widen (k := 0) (n := 0) (Nat.le_of_ble_eq_true rfl) (Nat.le_of_ble_eq_true rfl) ?_
      have hm : mm D (AZ z) (mu M mo (.inr (6, [.int 0, .ref cn, .ref ia, .ref dr, .ref en, .ref la, .ref wo, .int ni, .ref op, .ref mk, .ref ir, .int dn, .int md, .int pw, .int cm, .int wr, .ref se, .ref ec, .ref lc, .ref wc, .ref ol, .ref al, .int cs, .int hm9]))) H := hm
      have hkp : kpx (fun a => a ∈ [mo, cn, ia, dr, en, la, wo, op, mk, ir, se, ec, lc, wc, ol, al]) M (mu M mo (.inr (6, [.int 0, .ref cn, .ref ia, .ref dr, .ref en, .ref la, .ref wo, .int ni, .ref op, .ref mk, .ref ir, .int dn, .int md, .int pw, .int cm, .int wr, .ref se, .ref ec, .ref lc, .ref wc, .ref ol, .ref al, .int cs, .int hm9]))) := (hkp).self (by simp)
      refine lv_if_ne (tgt := 29) hx hb dX6_power_21 (by decide) (fun c4 => ?_) (fun c4 => ?_)
      · first | exact absurd c4 (by decide) | exact absurd (by decide) c4
      · refine lv_aload_n hx hb dX6_power_24 rfl (lv_at hl 0 rfl) ?_
        refine lv_iload_n hx hb dX6_power_25 rfl (lv_at hl 1 rfl) ?_
        refine m_put (T := TX6) (N := 24) (ci := 6) (v := .int n9) (ty := .int) hx hb hts wX6 tyX6 tyX6_ok nmX6 hown hK hm hS (mu_self _ _ _) rfl 13 (by decide) f45 (fun _ h9 => h9) rfl (by decide +kernel) rfl rfl (Nat.le_of_ble_eq_true rfl) dX6_power_26 (fun H locs hm hS => ?_)
        have hm : mm D (AZ z) (mu (mu M mo (.inr (6, [.int 0, .ref cn, .ref ia, .ref dr, .ref en, .ref la, .ref wo, .int ni, .ref op, .ref mk, .ref ir, .int dn, .int md, .int pw, .int cm, .int wr, .ref se, .ref ec, .ref lc, .ref wc, .ref ol, .ref al, .int cs, .int hm9]))) mo (.inr (6, [.int 0, .ref cn, .ref ia, .ref dr, .ref en, .ref la, .ref wo, .int ni, .ref op, .ref mk, .ref ir, .int dn, .int md, .int n9, .int cm, .int wr, .ref se, .ref ec, .ref lc, .ref wc, .ref ol, .ref al, .int cs, .int hm9]))) H := hm
        have hkp : kpx (fun a => a ∈ [mo, cn, ia, dr, en, la, wo, op, mk, ir, se, ec, lc, wc, ol, al]) M (mu (mu M mo (.inr (6, [.int 0, .ref cn, .ref ia, .ref dr, .ref en, .ref la, .ref wo, .int ni, .ref op, .ref mk, .ref ir, .int dn, .int md, .int pw, .int cm, .int wr, .ref se, .ref ec, .ref lc, .ref wc, .ref ol, .ref al, .int cs, .int hm9]))) mo (.inr (6, [.int 0, .ref cn, .ref ia, .ref dr, .ref en, .ref la, .ref wo, .int ni, .ref op, .ref mk, .ref ir, .int dn, .int md, .int n9, .int cm, .int wr, .ref se, .ref ec, .ref lc, .ref wc, .ref ol, .ref al, .int cs, .int hm9]))) := (hkp).self (by simp)
        refine W.vret hx hb hr (fun t ht hW => ⟨⟨none, _, rfl, ?_, by rw [ht]; exact hm⟩, hS.F ht⟩) hS.2.2 dX6_power_29
        exact ⟨⟨rfl, Or.inl ⟨c1, by first | exact c3 | exact Int32.not_lt.mpr c3, _, (mu_self _ _ _)⟩⟩, ⟨_, _, _, _, _, _, _, fcn, fia, fdr, fen, fla, fwo, fop, fmk, fir, fse, fec, flc, fol, fal, fwc, hap, (mu_self _ _ _), hmd, ⟨hrC, hrL, hrM⟩, ((mu_ne ne_cn_mo).trans ((mu_ne ne_cn_mo).trans hcn)), ((mu_ne ne_ia_mo).trans ((mu_ne ne_ia_mo).trans hia)), ((mu_ne ne_dr_mo).trans ((mu_ne ne_dr_mo).trans hdr)), ((mu_ne ne_en_mo).trans ((mu_ne ne_en_mo).trans hen)), ((mu_ne ne_la_mo).trans ((mu_ne ne_la_mo).trans hla)), ((mu_ne ne_wo_mo).trans ((mu_ne ne_wo_mo).trans hwo)), ((mu_ne ne_op_mo).trans ((mu_ne ne_op_mo).trans hop)), ((mu_ne ne_mk_mo).trans ((mu_ne ne_mk_mo).trans hmk)), ((mu_ne ne_ir_mo).trans ((mu_ne ne_ir_mo).trans hir)), ((mu_ne ne_se_mo).trans ((mu_ne ne_se_mo).trans hse)), ((mu_ne ne_ec_mo).trans ((mu_ne ne_ec_mo).trans hec)), ((mu_ne ne_lc_mo).trans ((mu_ne ne_lc_mo).trans hlc)), ((mu_ne ne_wc_mo).trans ((mu_ne ne_wc_mo).trans hwc)), ((mu_ne ne_ol_mo).trans ((mu_ne ne_ol_mo).trans hol)), ((mu_ne ne_al_mo).trans ((mu_ne ne_al_mo).trans hal))⟩, hkp⟩
    · refine lv_iconst (v := 1) hx hb dX6_power_13 (by decide) ?_
      refine lv_goto (tgt := 18) hx hb dX6_power_14 (by decide) ?_
      refine m_kV (As := [.int 1]) (rest := []) (rm := { frames := 0, cells := 0, slots := 0, locals := 0 }) ⟨hx, hb, hml, hown, hts⟩ (s_X6_failsE l D k z _ mo cn ia dr en la wo op mk ir se ec lc wc ol al cd ni dn md pw cm wr cs hm9 1 hM) (cwV 1 hts gX6_power_X6_fails rfl rfl rfl (by decide +kernel) ⟨Nat.le_of_ble_eq_true rfl, Nat.le_of_ble_eq_true rfl⟩) (m_recv hK hm (q := (RX6, TX6, 24)) rfl hM) hz hcx hm hS rfl hl.1 rfl (Nat.le_of_ble_eq_true rfl) dX6_power_18 ⟨Nat.le_of_ble_eq_true rfl, Nat.le_of_ble_eq_true rfl⟩ (fun v M1 H locs hv hm hS => ?_)
      obtain ⟨hv1, hM1⟩ := hv
      have hv1 : v = some (.int 1) := hv1.trans (by decide)
      subst hv1
      rw [hM1] at hm
      refine W.eq (g2 := F0 m 21 ls [.int 1]) rfl ?_
      refine W.widen (k := 0) (n := 0) (Nat.le_of_ble_eq_true rfl) (Nat.le_of_ble_eq_true rfl) ?_
      have hm : mm D (AZ z) (mu M mo (.inr (6, [.int 1, .ref cn, .ref ia, .ref dr, .ref en, .ref la, .ref wo, .int ni, .ref op, .ref mk, .ref ir, .int dn, .int md, .int pw, .int cm, .int wr, .ref se, .ref ec, .ref lc, .ref wc, .ref ol, .ref al, .int cs, .int hm9]))) H := hm
      have hkp : kpx (fun a => a ∈ [mo, cn, ia, dr, en, la, wo, op, mk, ir, se, ec, lc, wc, ol, al]) M (mu M mo (.inr (6, [.int 1, .ref cn, .ref ia, .ref dr, .ref en, .ref la, .ref wo, .int ni, .ref op, .ref mk, .ref ir, .int dn, .int md, .int pw, .int cm, .int wr, .ref se, .ref ec, .ref lc, .ref wc, .ref ol, .ref al, .int cs, .int hm9]))) := (hkp).self (by simp)
      refine lv_if_ne (tgt := 29) hx hb dX6_power_21 (by decide) (fun c5 => ?_) (fun c5 => ?_)
      · refine W.vret hx hb hr (fun t ht hW => ⟨⟨none, _, rfl, ?_, by rw [ht]; exact hm⟩, hS.F ht⟩) hS.2.2 dX6_power_29
        exact ⟨⟨rfl, Or.inr ⟨by first | exact Or.inl c1 | exact Or.inr c3 | exact Or.inr (Int32.not_le.mp c3), _, (mu_self _ _ _)⟩⟩, ⟨_, _, _, _, _, _, _, fcn, fia, fdr, fen, fla, fwo, fop, fmk, fir, fse, fec, flc, fol, fal, fwc, hap, (mu_self _ _ _), hmd, ⟨hrC, hrL, hrM⟩, ((mu_ne ne_cn_mo).trans hcn), ((mu_ne ne_ia_mo).trans hia), ((mu_ne ne_dr_mo).trans hdr), ((mu_ne ne_en_mo).trans hen), ((mu_ne ne_la_mo).trans hla), ((mu_ne ne_wo_mo).trans hwo), ((mu_ne ne_op_mo).trans hop), ((mu_ne ne_mk_mo).trans hmk), ((mu_ne ne_ir_mo).trans hir), ((mu_ne ne_se_mo).trans hse), ((mu_ne ne_ec_mo).trans hec), ((mu_ne ne_lc_mo).trans hlc), ((mu_ne ne_wc_mo).trans hwc), ((mu_ne ne_ol_mo).trans hol), ((mu_ne ne_al_mo).trans hal)⟩, hkp⟩
      · first | exact absurd c5 (by decide) | exact absurd (by decide) c5
