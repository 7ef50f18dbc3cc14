/-! Paths, digit by digit. -/
theorem sl32 : ∀ n, n < 32 → ((nI n &&& 31).toBitVec.smod 32).toNat = n := by decide +kernel
theorem dg_nat {p i : Nat} (hp : p < 2 ^ 28) (hi : i < 8) : dgt (nI p) i = nI (p / 2 ^ (4 * i)) := pk_shrN (by omega) _ (4 * i) (sl32 (4 * i) (by omega))
theorem dd_nat {p i : Nat} (hp : p < 2 ^ 28) (hi : i < 8) : dgt (nI p) i &&& 15 = nI (p / 2 ^ (4 * i) % 16) := by
  rw [dg_nat hp hi]
  have h1 : p / 2 ^ (4 * i) ≤ p := Nat.div_le_self _ _
  exact pk_andN (by omega) 4 (by decide)
theorem nI0 {a : Nat} (h : a < 2 ^ 31) : nI a = 0 ↔ a = 0 := ⟨fun e => by rcases Nat.eq_zero_or_pos a with h0 | h0; exact h0; exact absurd e (nI_ne0 h0 h), fun e => by rw [e]; rfl⟩
theorem dg_up {p i : Nat} (hp : p < 2 ^ 28) (hi : i < 7) : dgt (nI p) i = 0 ↔ dgt (nI p) (i + 1) = 0 ∧ dgt (nI p) i &&& 15 = 0 := by
  have h1 : p / 2 ^ (4 * i) ≤ p := Nat.div_le_self _ _
  have h2 : p / 2 ^ (4 * (i + 1)) = p / 2 ^ (4 * i) / 16 := by rw [Nat.div_div_eq_div_mul]; congr 1; show 2 ^ (4 * i + 4) = _; rw [Nat.pow_add]
  rw [dd_nat hp (by omega), dg_nat hp (by omega), dg_nat hp (by omega), h2, nI0 (by omega), nI0 (by omega), nI0 (by omega)]
  omega
theorem dg_7 {p : Nat} (hp : p < 2 ^ 28) : dgt (nI p) 7 = 0 := by
  rw [dg_nat hp (by decide), nI0 (by have := Nat.div_le_self p (2 ^ (4 * 7)); omega)]
  exact Nat.div_eq_of_lt hp
theorem d15_pos {x : Int32} : (x &&& 15 = 0 ∧ x &&& 15 ≤ 0 ∧ ¬ 0 < x &&& 15) ∨ (x &&& 15 ≠ 0 ∧ ¬ x &&& 15 ≤ 0 ∧ 0 < x &&& 15) := by
  obtain ⟨j, hj, he⟩ := pk_andE x (m := 15) 4 (by decide)
  rw [he]
  rcases Nat.eq_zero_or_pos j with h0 | h0
  · subst h0; exact Or.inl ⟨rfl, by decide, by decide⟩
  · exact Or.inr ⟨nI_ne0 h0 (by omega), fun h => absurd ((nI_leI (b := 0) (by omega) (by decide)).mp h) (by omega), (nI_ltI (a := 0) (by decide) (by omega)).mpr h0⟩
/-- the state of the reference's isPath before digit j - 1 -/
def ipI (path : Int32) (j : Nat) (g b : Int32) : Prop := (g = 1 ∧ (∃ p, p < 2 ^ 28 ∧ path = nI p) ∧ (∀ i, j ≤ i → i < 7 → dOk path i) ∧ ((b = 0 ∧ dgt path j = 0) ∨ (b = 1 ∧ dgt path j ≠ 0))) ∨ (g = 0 ∧ ¬ isP path)
theorem ip_d {path : Int32} {i : Nat} {b : Int32} (hi : i < 7) (h : ipI path (i + 1) 1 b) (hd : dgt path i &&& 15 ≠ 0) : ipI path i 1 1 := by
  rcases h with ⟨-, hp, hall, -⟩ | ⟨h, -⟩
  · refine Or.inl ⟨rfl, hp, fun n h1 h2 => ?_, Or.inr ⟨rfl, fun h => hd (by rw [h]; decide)⟩⟩
    rcases Nat.eq_or_lt_of_le h1 with h3 | h3
    · subst h3; exact Or.inr hd
    · exact hall n h3 h2
  · exact absurd h (by decide)
theorem ip_0 {path : Int32} {i : Nat} {b : Int32} (hi : i < 7) (h : ipI path (i + 1) 1 b) (hd : dgt path i &&& 15 = 0) (hb : b = 0) : ipI path i 1 0 := by
  rcases h with ⟨-, hp, hall, hbb⟩ | ⟨h, -⟩
  · have h1 : dgt path (i + 1) = 0 := by
      rcases hbb with ⟨-, h⟩ | ⟨h, -⟩
      · exact h
      · rw [hb] at h; exact absurd h (by decide)
    obtain ⟨p, hp1, rfl⟩ := hp
    have h2 := (dg_up hp1 hi).mpr ⟨h1, hd⟩
    refine Or.inl ⟨rfl, ⟨p, hp1, rfl⟩, fun n h3 h4 => ?_, Or.inl ⟨rfl, h2⟩⟩
    rcases Nat.eq_or_lt_of_le h3 with h5 | h5
    · subst h5; exact Or.inl h2
    · exact hall n h5 h4
  · exact absurd h (by decide)
theorem ip_x {path : Int32} {i : Nat} {b b' : Int32} (hi : i < 7) (h : ipI path (i + 1) 1 b) (hd : dgt path i &&& 15 = 0) (hb : b ≠ 0) : ipI path i 0 b' := by
  rcases h with ⟨-, hp, hall, hbb⟩ | ⟨h, -⟩
  · refine Or.inr ⟨rfl, fun hP => ?_⟩
    have h1 : dgt path (i + 1) ≠ 0 := by
      rcases hbb with ⟨h, -⟩ | ⟨-, h⟩
      · exact absurd h hb
      · exact h
    obtain ⟨p, hp1, rfl⟩ := hp
    rcases hP.2.2 i hi with h2 | h2
    · exact h1 ((dg_up hp1 hi).mp h2).1
    · exact h2 hd
  · exact absurd h (by decide)
theorem ip_end {path g b : Int32} (h : ipI path 0 g b) : (isP path ∧ g = 1) ∨ (¬ isP path ∧ g = 0) := by
  rcases h with ⟨h1, ⟨p, hp, rfl⟩, hall, -⟩ | ⟨h1, h2⟩
  · exact Or.inl ⟨⟨nI_pos (by omega), nI_le (b := 268435455) (by omega) (by decide), fun n hn => hall n (Nat.zero_le _) hn⟩, h1⟩
  · exact Or.inr ⟨h2, h1⟩
theorem ip_01 {path g b : Int32} {j : Nat} (h : ipI path j g b) : g = 0 ∨ g = 1 := by
  rcases h with ⟨h, -⟩ | ⟨h, -⟩
  · exact Or.inr h
  · exact Or.inl h
theorem ip_st {path : Int32} (h1 : ¬ path < 0) (h2 : ¬ 268435456 ≤ path) : ipI path 7 1 0 := by
  rcases pk_ix path (n := 268435456) (by decide) with h | h | ⟨p, hp, rfl⟩
  · exact absurd h h1
  · exact absurd h h2
  · exact Or.inl ⟨rfl, ⟨p, hp, rfl⟩, fun i h3 h4 => by omega, Or.inl ⟨rfl, dg_7 hp⟩⟩
theorem ip_no {path : Int32} (h : path < 0 ∨ 268435456 ≤ path) : ipI path 7 0 0 := by
  refine Or.inr ⟨rfl, fun hP => ?_⟩
  rcases h with h | h
  · exact hP.1 h
  · exact absurd (show (268435456 : Int32) ≤ 268435455 from Int32.le_trans h hP.2.1) (by decide)

set_option maxHeartbeats 4000000 in
set_option maxRecDepth 100000 in
theorem c_X6_isPath (l : Launch) (D : va_G) (k : Nat → ClassId) (z : Nat) (M : mM) (path : Int32) : mK l yX6_isPath wsX6_isPath ({ frames := 0, cells := 0, slots := 0, locals := 0 }) D k z [.int path] M (fun v M' => ((isP path ∧ v = some (.int 1)) ∨ (¬ isP path ∧ v = some (.int 0))) ∧ M' = M) := by
  refine Met.ofW (cc := cX6_isPath) (maxL := 5) (ret := (some .boolean)) (by decide) rfl ?_
  intro p e s m args below meth c s₁ B hml hv
  obtain ⟨rfl, hz, hcx, hm⟩ := hv
  have hx := B.exec
  have hb := B.bytes
  have hr := B.returns
  have hts := atoms_spec (ws := wsX6_isPath) B.pre
  have hown : s.vm.findClass RX6 = some m.cls := findClass_of_methodNamed B.named
  have hlocks := B.notSynchronized
  have hK := hcx.1
  have hS : va_S (AZ z) s.heap s.heap [] := va_S.rf
  have hA : ∀ q, s.heap.size ≤ q → AZ z q := fun q h => Nat.le_trans hz h
  have hl := lv_entry ([.int path]) (n := 5) (Nat.le_of_ble_eq_true rfl)
  rw [lg_entry_eq]
  generalize (lg_sl ([.int path]) ++ List.replicate (5 - (lg_sl ([.int path])).length) Slot.unset).toArray = ls at hl ⊢
  have hl : lv_has ls 5 [(0, .int path)] := hl
  refine lv_iload_n hx hb dX6_isPath_0 rfl (lv_at hl 0 rfl) ?_
  refine lv_if_lt (tgt := 14) hx hb dX6_isPath_1 (by decide) (fun c1 => ?_) (fun c1 => ?_)
  · refine lv_iconst (v := 0) hx hb dX6_isPath_14 (by decide) ?_
    refine lv_istore_n (lv' := [(1, .int 0), (0, .int path)]) hx hb dX6_isPath_15 rfl hl (by decide) rfl (fun ls hl => ?_)
    refine lv_iconst (v := 0) hx hb dX6_isPath_16 (by decide) ?_
    refine lv_istore_n (lv' := [(2, .int 0), (1, .int 0), (0, .int path)]) hx hb dX6_isPath_17 rfl hl (by decide) rfl (fun ls hl => ?_)
    refine lv_bipush (v := 24) hx hb dX6_isPath_18 (by decide) ?_
    refine lv_istore_n (lv' := [(3, .int 24), (2, .int 0), (1, .int 0), (0, .int path)]) hx hb dX6_isPath_20 rfl hl (by decide) rfl (fun ls hl => ?_)
    refine W_loop (σ := Nat × Int32 × Int32) (fun ⟨j, g, b⟩ H locs ls => (j ≤ 7) ∧ (ipI path j g b) ∧ mm D (AZ z) M H ∧ va_S (AZ z) s.heap H locs ∧ lv_has ls 5 [(3, .int (nI (4 * j) - 4)), (2, .int b), (1, .int g), (0, .int path)]) (fun ⟨j, g, b⟩ => j) (fun ⟨j, g, b⟩ => 0) (fun ⟨j, g, b⟩ => 0) ?_ (7, 0, 0) _ _ _ ⟨Nat.le_refl _, ip_no (Or.inl c1), hm, hS, lv_sub hl [0, 1, 2, 3] rfl⟩
    intro ⟨j, g, b⟩ H locs ls hI ih21
    obtain ⟨hj, hI9, hm, hS, hl⟩ := hI
    try dsimp only at hm hl ih21 ⊢
    refine lv_iload_n hx hb dX6_isPath_21 rfl (lv_at hl 0 rfl) ?_
    refine lv_if_lt (tgt := 73) hx hb dX6_isPath_22 (by decide) (fun c2 => ?_) (fun c2 => ?_)
    · refine lv_iload_n hx hb dX6_isPath_73 rfl (lv_at hl 2 rfl) ?_
      refine W.zret hx hb hr (bo_n (ip_01 hI9)) (fun t ht hW => ⟨⟨some (.int g), _, rfl, ?_, by rw [ht]; exact hm⟩, hS.F ht⟩) hS.2.2 dX6_isPath_74
      rcases ip_01 hI9 with hg9 | hg9
      · subst hg9
        rcases hI9 with ⟨h9, -⟩ | ⟨-, h9⟩
        · exact absurd h9 (by decide)
        · exact ⟨Or.inr ⟨h9, rfl⟩, rfl⟩
      · subst hg9
        first
          | exact absurd c2 (by decide)
          | (have hj0 : j = 0 := by
              cases j with
              | zero => rfl
              | succ i => exact absurd c2 (by rw [show (4 : Int32) = nI 4 from rfl, pk_sub (by omega)]; exact nI_pos (by omega))
             subst hj0
             rcases ip_end hI9 with ⟨h9, -⟩ | ⟨-, h9⟩
             · exact ⟨Or.inl ⟨h9, rfl⟩, rfl⟩
             · exact absurd h9 (by decide))
    · refine lv_iload_n hx hb dX6_isPath_25 rfl (lv_at hl 2 rfl) ?_
      refine lv_if_eq (tgt := 73) hx hb dX6_isPath_26 (by decide) (fun c3 => ?_) (fun c3 => ?_)
      · refine lv_iload_n hx hb dX6_isPath_73 rfl (lv_at hl 2 rfl) ?_
        refine W.zret hx hb hr (bo_n (ip_01 hI9)) (fun t ht hW => ⟨⟨some (.int g), _, rfl, ?_, by rw [ht]; exact hm⟩, hS.F ht⟩) hS.2.2 dX6_isPath_74
        rcases ip_01 hI9 with hg9 | hg9
        · subst hg9
          rcases hI9 with ⟨h9, -⟩ | ⟨-, h9⟩
          · exact absurd h9 (by decide)
          · exact ⟨Or.inr ⟨h9, rfl⟩, rfl⟩
        · subst hg9
          first
            | exact absurd c3 (by decide)
            | (have hj0 : j = 0 := by
                cases j with
                | zero => rfl
                | succ i => exact absurd c3 (by rw [show (4 : Int32) = nI 4 from rfl, pk_sub (by omega)]; exact nI_pos (by omega))
               subst hj0
               rcases ip_end hI9 with ⟨h9, -⟩ | ⟨-, h9⟩
               · exact ⟨Or.inl ⟨h9, rfl⟩, rfl⟩
               · exact absurd h9 (by decide))
      · obtain ⟨i, rfl⟩ : ∃ i, j = i + 1 := by
          cases j with
          | zero => exact absurd (by decide) c2
          | succ i => exact ⟨i, rfl⟩
        have hi9 : i < 7 := by omega
        have hk9 : nI (4 * (i + 1)) - 4 = nI (4 * i) := by rw [show (4 : Int32) = nI 4 from rfl, pk_sub (by omega)]; congr 1
        rw [hk9] at hl
        have hg9 : g = 1 := (ip_01 hI9).resolve_left c3
        subst hg9
        refine lv_iload_n hx hb dX6_isPath_29 rfl (lv_at hl 3 rfl) ?_
        refine lv_iload_n hx hb dX6_isPath_30 rfl (lv_at hl 0 rfl) ?_
        refine lv_ishr hx hb dX6_isPath_31 ?_
        refine lv_bipush (v := 15) hx hb dX6_isPath_32 (by decide) ?_
        refine lv_iand hx hb dX6_isPath_34 ?_
        refine lv_istore (lv' := [(4, .int ((path >>> ((nI (4 * i)) &&& 31)) &&& 15)), (3, .int (nI (4 * i))), (2, .int b), (1, .int 1), (0, .int path)]) hx hb dX6_isPath_35 hl (by decide) rfl (fun ls hl => ?_)
        rcases d15_pos (x := path >>> (nI (4 * i) &&& 31)) with ⟨hd9, hle, hngt⟩ | ⟨hd9, hnle, hgt⟩
        · by_cases hb9 : b = 0
          · refine lv_iload hx hb dX6_isPath_37 (lv_at hl 0 rfl) ?_
            refine lv_if_gt (tgt := 46) hx hb dX6_isPath_39 (by decide) (fun c4 => ?_) (fun c4 => ?_)
            · first | exact absurd hgt c4 | exact absurd c4 hngt | exact absurd hle c4 | exact absurd c4 hnle | exact absurd hb9 c4 | exact absurd c4 hb9
            · refine lv_iload_n hx hb dX6_isPath_42 rfl (lv_at hl 2 rfl) ?_
              refine lv_if_ne (tgt := 50) hx hb dX6_isPath_43 (by decide) (fun c5 => ?_) (fun c5 => ?_)
              · first | exact absurd hgt c5 | exact absurd c5 hngt | exact absurd hle c5 | exact absurd c5 hnle | exact absurd hb9 c5 | exact absurd c5 hb9
              · refine lv_iconst (v := 1) hx hb dX6_isPath_46 (by decide) ?_
                refine lv_goto (tgt := 51) hx hb dX6_isPath_47 (by decide) ?_
                refine lv_istore_n (lv' := [(1, .int 1), (4, .int ((path >>> ((nI (4 * i)) &&& 31)) &&& 15)), (3, .int (nI (4 * i))), (2, .int b), (0, .int path)]) hx hb dX6_isPath_51 rfl hl (by decide) rfl (fun ls hl => ?_)
                refine lv_iload_n hx hb dX6_isPath_52 rfl (lv_at hl 3 rfl) ?_
                refine lv_if_ne (tgt := 61) hx hb dX6_isPath_53 (by decide) (fun c6 => ?_) (fun c6 => ?_)
                · first | exact absurd hgt c6 | exact absurd c6 hngt | exact absurd hle c6 | exact absurd c6 hnle | exact absurd hb9 c6 | exact absurd c6 hb9
                · refine lv_iload hx hb dX6_isPath_56 (lv_at hl 1 rfl) ?_
                  refine lv_if_le (tgt := 65) hx hb dX6_isPath_58 (by decide) (fun c7 => ?_) (fun c7 => ?_)
                  · refine lv_iconst (v := 0) hx hb dX6_isPath_65 (by decide) ?_
                    refine lv_istore_n (lv' := [(2, .int 0), (1, .int 1), (4, .int ((path >>> ((nI (4 * i)) &&& 31)) &&& 15)), (3, .int (nI (4 * i))), (0, .int path)]) hx hb dX6_isPath_66 rfl hl (by decide) rfl (fun ls hl => ?_)
                    refine lv_iinc (v := ((nI (4 * i)) + (-4))) (lv' := [(3, .int ((nI (4 * i)) + (-4))), (2, .int 0), (1, .int 1), (4, .int ((path >>> ((nI (4 * i)) &&& 31)) &&& 15)), (0, .int path)]) hx hb dX6_isPath_67 hl (k := 3) rfl rfl (by decide) rfl (fun ls hl => ?_)
                    refine lv_goto (tgt := 21) hx hb dX6_isPath_70 (by decide) ?_
                    rw [show nI (4 * i) + (-4) = nI (4 * i) - 4 from (Int32.sub_eq_add_neg _ _).symm] at hl
                    exact ih21 (i, 1, 0) _ _ _ ⟨by omega, ip_0 hi9 hI9 hd9 hb9, hm, hS, lv_sub hl [0, 1, 2, 4] rfl⟩ (by simp)
                  · first | exact absurd hgt c7 | exact absurd c7 hngt | exact absurd hle c7 | exact absurd c7 hnle | exact absurd hb9 c7 | exact absurd c7 hb9
          · refine lv_iload hx hb dX6_isPath_37 (lv_at hl 0 rfl) ?_
            refine lv_if_gt (tgt := 46) hx hb dX6_isPath_39 (by decide) (fun c8 => ?_) (fun c8 => ?_)
            · first | exact absurd hgt c8 | exact absurd c8 hngt | exact absurd hle c8 | exact absurd c8 hnle | exact absurd hb9 c8 | exact absurd c8 hb9
            · refine lv_iload_n hx hb dX6_isPath_42 rfl (lv_at hl 2 rfl) ?_
              refine lv_if_ne (tgt := 50) hx hb dX6_isPath_43 (by decide) (fun c9 => ?_) (fun c9 => ?_)
              · refine lv_iconst (v := 0) hx hb dX6_isPath_50 (by decide) ?_
                refine lv_istore_n (lv' := [(1, .int 0), (4, .int ((path >>> ((nI (4 * i)) &&& 31)) &&& 15)), (3, .int (nI (4 * i))), (2, .int b), (0, .int path)]) hx hb dX6_isPath_51 rfl hl (by decide) rfl (fun ls hl => ?_)
                refine lv_iload_n hx hb dX6_isPath_52 rfl (lv_at hl 3 rfl) ?_
                refine lv_if_ne (tgt := 61) hx hb dX6_isPath_53 (by decide) (fun c10 => ?_) (fun c10 => ?_)
                · refine lv_iconst (v := 1) hx hb dX6_isPath_61 (by decide) ?_
                  refine lv_goto (tgt := 66) hx hb dX6_isPath_62 (by decide) ?_
                  refine lv_istore_n (lv' := [(2, .int 1), (1, .int 0), (4, .int ((path >>> ((nI (4 * i)) &&& 31)) &&& 15)), (3, .int (nI (4 * i))), (0, .int path)]) hx hb dX6_isPath_66 rfl hl (by decide) rfl (fun ls hl => ?_)
                  refine lv_iinc (v := ((nI (4 * i)) + (-4))) (lv' := [(3, .int ((nI (4 * i)) + (-4))), (2, .int 1), (1, .int 0), (4, .int ((path >>> ((nI (4 * i)) &&& 31)) &&& 15)), (0, .int path)]) hx hb dX6_isPath_67 hl (k := 3) rfl rfl (by decide) rfl (fun ls hl => ?_)
                  refine lv_goto (tgt := 21) hx hb dX6_isPath_70 (by decide) ?_
                  rw [show nI (4 * i) + (-4) = nI (4 * i) - 4 from (Int32.sub_eq_add_neg _ _).symm] at hl
                  exact ih21 (i, 0, 1) _ _ _ ⟨by omega, ip_x hi9 hI9 hd9 hb9, hm, hS, lv_sub hl [0, 1, 2, 4] rfl⟩ (by simp)
                · first | exact absurd hgt c10 | exact absurd c10 hngt | exact absurd hle c10 | exact absurd c10 hnle | exact absurd hb9 c10 | exact absurd c10 hb9
              · first | exact absurd hgt c9 | exact absurd c9 hngt | exact absurd hle c9 | exact absurd c9 hnle | exact absurd hb9 c9 | exact absurd c9 hb9
        · refine lv_iload hx hb dX6_isPath_37 (lv_at hl 0 rfl) ?_
          refine lv_if_gt (tgt := 46) hx hb dX6_isPath_39 (by decide) (fun c11 => ?_) (fun c11 => ?_)
          · refine lv_iconst (v := 1) hx hb dX6_isPath_46 (by decide) ?_
            refine lv_goto (tgt := 51) hx hb dX6_isPath_47 (by decide) ?_
            refine lv_istore_n (lv' := [(1, .int 1), (4, .int ((path >>> ((nI (4 * i)) &&& 31)) &&& 15)), (3, .int (nI (4 * i))), (2, .int b), (0, .int path)]) hx hb dX6_isPath_51 rfl hl (by decide) rfl (fun ls hl => ?_)
            refine lv_iload_n hx hb dX6_isPath_52 rfl (lv_at hl 3 rfl) ?_
            refine lv_if_ne (tgt := 61) hx hb dX6_isPath_53 (by decide) (fun c12 => ?_) (fun c12 => ?_)
            · refine lv_iconst (v := 1) hx hb dX6_isPath_61 (by decide) ?_
              refine lv_goto (tgt := 66) hx hb dX6_isPath_62 (by decide) ?_
              refine lv_istore_n (lv' := [(2, .int 1), (1, .int 1), (4, .int ((path >>> ((nI (4 * i)) &&& 31)) &&& 15)), (3, .int (nI (4 * i))), (0, .int path)]) hx hb dX6_isPath_66 rfl hl (by decide) rfl (fun ls hl => ?_)
              refine lv_iinc (v := ((nI (4 * i)) + (-4))) (lv' := [(3, .int ((nI (4 * i)) + (-4))), (2, .int 1), (1, .int 1), (4, .int ((path >>> ((nI (4 * i)) &&& 31)) &&& 15)), (0, .int path)]) hx hb dX6_isPath_67 hl (k := 3) rfl rfl (by decide) rfl (fun ls hl => ?_)
              refine lv_goto (tgt := 21) hx hb dX6_isPath_70 (by decide) ?_
              rw [show nI (4 * i) + (-4) = nI (4 * i) - 4 from (Int32.sub_eq_add_neg _ _).symm] at hl
              exact ih21 (i, 1, 1) _ _ _ ⟨by omega, ip_d hi9 hI9 hd9, hm, hS, lv_sub hl [0, 1, 2, 4] rfl⟩ (by simp)
            · refine lv_iload hx hb dX6_isPath_56 (lv_at hl 1 rfl) ?_
              refine lv_if_le (tgt := 65) hx hb dX6_isPath_58 (by decide) (fun c13 => ?_) (fun c13 => ?_)
              · first | exact absurd hgt c13 | exact absurd c13 hngt | exact absurd hle c13 | exact absurd c13 hnle | exact absurd hb9 c13 | exact absurd c13 hb9
              · refine lv_iconst (v := 1) hx hb dX6_isPath_61 (by decide) ?_
                refine lv_goto (tgt := 66) hx hb dX6_isPath_62 (by decide) ?_
                refine lv_istore_n (lv' := [(2, .int 1), (1, .int 1), (4, .int ((path >>> ((nI (4 * i)) &&& 31)) &&& 15)), (3, .int (nI (4 * i))), (0, .int path)]) hx hb dX6_isPath_66 rfl hl (by decide) rfl (fun ls hl => ?_)
                refine lv_iinc (v := ((nI (4 * i)) + (-4))) (lv' := [(3, .int ((nI (4 * i)) + (-4))), (2, .int 1), (1, .int 1), (4, .int ((path >>> ((nI (4 * i)) &&& 31)) &&& 15)), (0, .int path)]) hx hb dX6_isPath_67 hl (k := 3) rfl rfl (by decide) rfl (fun ls hl => ?_)
                refine lv_goto (tgt := 21) hx hb dX6_isPath_70 (by decide) ?_
                rw [show nI (4 * i) + (-4) = nI (4 * i) - 4 from (Int32.sub_eq_add_neg _ _).symm] at hl
                exact ih21 (i, 1, 1) _ _ _ ⟨by omega, ip_d hi9 hI9 hd9, hm, hS, lv_sub hl [0, 1, 2, 4] rfl⟩ (by simp)
          · first | exact absurd hgt c11 | exact absurd c11 hngt | exact absurd hle c11 | exact absurd c11 hnle | exact absurd hb9 c11 | exact absurd c11 hb9
  · refine lv_iload_n hx hb dX6_isPath_4 rfl (lv_at hl 0 rfl) ?_
    refine lv_ldc hx hb hown (hts (.constant RX6 85 (268435456)) (by decide +kernel)) dX6_isPath_5 ?_
    refine lv_icmp_ge (tgt := 14) hx hb dX6_isPath_7 (by decide) (fun c14 => ?_) (fun c14 => ?_)
    · refine lv_iconst (v := 0) hx hb dX6_isPath_14 (by decide) ?_
      refine lv_istore_n (lv' := [(1, .int 0), (0, .int path)]) hx hb dX6_isPath_15 rfl hl (by decide) rfl (fun ls hl => ?_)
      refine lv_iconst (v := 0) hx hb dX6_isPath_16 (by decide) ?_
      refine lv_istore_n (lv' := [(2, .int 0), (1, .int 0), (0, .int path)]) hx hb dX6_isPath_17 rfl hl (by decide) rfl (fun ls hl => ?_)
      refine lv_bipush (v := 24) hx hb dX6_isPath_18 (by decide) ?_
      refine lv_istore_n (lv' := [(3, .int 24), (2, .int 0), (1, .int 0), (0, .int path)]) hx hb dX6_isPath_20 rfl hl (by decide) rfl (fun ls hl => ?_)
      refine W_loop (σ := Nat × Int32 × Int32) (fun ⟨j, g, b⟩ H locs ls => (j ≤ 7) ∧ (ipI path j g b) ∧ mm D (AZ z) M H ∧ va_S (AZ z) s.heap H locs ∧ lv_has ls 5 [(3, .int (nI (4 * j) - 4)), (2, .int b), (1, .int g), (0, .int path)]) (fun ⟨j, g, b⟩ => j) (fun ⟨j, g, b⟩ => 0) (fun ⟨j, g, b⟩ => 0) ?_ (7, 0, 0) _ _ _ ⟨Nat.le_refl _, ip_no (Or.inr c14), hm, hS, lv_sub hl [0, 1, 2, 3] rfl⟩
      intro ⟨j, g, b⟩ H locs ls hI ih21
      obtain ⟨hj, hI9, hm, hS, hl⟩ := hI
      try dsimp only at hm hl ih21 ⊢
      refine lv_iload_n hx hb dX6_isPath_21 rfl (lv_at hl 0 rfl) ?_
      refine lv_if_lt (tgt := 73) hx hb dX6_isPath_22 (by decide) (fun c15 => ?_) (fun c15 => ?_)
      · refine lv_iload_n hx hb dX6_isPath_73 rfl (lv_at hl 2 rfl) ?_
        refine W.zret hx hb hr (bo_n (ip_01 hI9)) (fun t ht hW => ⟨⟨some (.int g), _, rfl, ?_, by rw [ht]; exact hm⟩, hS.F ht⟩) hS.2.2 dX6_isPath_74
        rcases ip_01 hI9 with hg9 | hg9
        · subst hg9
          rcases hI9 with ⟨h9, -⟩ | ⟨-, h9⟩
          · exact absurd h9 (by decide)
          · exact ⟨Or.inr ⟨h9, rfl⟩, rfl⟩
        · subst hg9
          first
            | exact absurd c15 (by decide)
            | (have hj0 : j = 0 := by
                cases j with
                | zero => rfl
                | succ i => exact absurd c15 (by rw [show (4 : Int32) = nI 4 from rfl, pk_sub (by omega)]; exact nI_pos (by omega))
               subst hj0
               rcases ip_end hI9 with ⟨h9, -⟩ | ⟨-, h9⟩
               · exact ⟨Or.inl ⟨h9, rfl⟩, rfl⟩
               · exact absurd h9 (by decide))
      · refine lv_iload_n hx hb dX6_isPath_25 rfl (lv_at hl 2 rfl) ?_
        refine lv_if_eq (tgt := 73) hx hb dX6_isPath_26 (by decide) (fun c16 => ?_) (fun c16 => ?_)
        · refine lv_iload_n hx hb dX6_isPath_73 rfl (lv_at hl 2 rfl) ?_
          refine W.zret hx hb hr (bo_n (ip_01 hI9)) (fun t ht hW => ⟨⟨some (.int g), _, rfl, ?_, by rw [ht]; exact hm⟩, hS.F ht⟩) hS.2.2 dX6_isPath_74
          rcases ip_01 hI9 with hg9 | hg9
          · subst hg9
            rcases hI9 with ⟨h9, -⟩ | ⟨-, h9⟩
            · exact absurd h9 (by decide)
            · exact ⟨Or.inr ⟨h9, rfl⟩, rfl⟩
          · subst hg9
            first
              | exact absurd c16 (by decide)
              | (have hj0 : j = 0 := by
                  cases j with
                  | zero => rfl
                  | succ i => exact absurd c16 (by rw [show (4 : Int32) = nI 4 from rfl, pk_sub (by omega)]; exact nI_pos (by omega))
                 subst hj0
                 rcases ip_end hI9 with ⟨h9, -⟩ | ⟨-, h9⟩
                 · exact ⟨Or.inl ⟨h9, rfl⟩, rfl⟩
                 · exact absurd h9 (by decide))
        · obtain ⟨i, rfl⟩ : ∃ i, j = i + 1 := by
            cases j with
            | zero => exact absurd (by decide) c15
            | succ i => exact ⟨i, rfl⟩
          have hi9 : i < 7 := by omega
          have hk9 : nI (4 * (i + 1)) - 4 = nI (4 * i) := by rw [show (4 : Int32) = nI 4 from rfl, pk_sub (by omega)]; congr 1
          rw [hk9] at hl
          have hg9 : g = 1 := (ip_01 hI9).resolve_left c16
          subst hg9
          refine lv_iload_n hx hb dX6_isPath_29 rfl (lv_at hl 3 rfl) ?_
          refine lv_iload_n hx hb dX6_isPath_30 rfl (lv_at hl 0 rfl) ?_
          refine lv_ishr hx hb dX6_isPath_31 ?_
          refine lv_bipush (v := 15) hx hb dX6_isPath_32 (by decide) ?_
          refine lv_iand hx hb dX6_isPath_34 ?_
          refine lv_istore (lv' := [(4, .int ((path >>> ((nI (4 * i)) &&& 31)) &&& 15)), (3, .int (nI (4 * i))), (2, .int b), (1, .int 1), (0, .int path)]) hx hb dX6_isPath_35 hl (by decide) rfl (fun ls hl => ?_)
          rcases d15_pos (x := path >>> (nI (4 * i) &&& 31)) with ⟨hd9, hle, hngt⟩ | ⟨hd9, hnle, hgt⟩
          · by_cases hb9 : b = 0
            · refine lv_iload hx hb dX6_isPath_37 (lv_at hl 0 rfl) ?_
              refine lv_if_gt (tgt := 46) hx hb dX6_isPath_39 (by decide) (fun c17 => ?_) (fun c17 => ?_)
              · first | exact absurd hgt c17 | exact absurd c17 hngt | exact absurd hle c17 | exact absurd c17 hnle | exact absurd hb9 c17 | exact absurd c17 hb9
              · refine lv_iload_n hx hb dX6_isPath_42 rfl (lv_at hl 2 rfl) ?_
                refine lv_if_ne (tgt := 50) hx hb dX6_isPath_43 (by decide) (fun c18 => ?_) (fun c18 => ?_)
                · first | exact absurd hgt c18 | exact absurd c18 hngt | exact absurd hle c18 | exact absurd c18 hnle | exact absurd hb9 c18 | exact absurd c18 hb9
                · refine lv_iconst (v := 1) hx hb dX6_isPath_46 (by decide) ?_
                  refine lv_goto (tgt := 51) hx hb dX6_isPath_47 (by decide) ?_
                  refine lv_istore_n (lv' := [(1, .int 1), (4, .int ((path >>> ((nI (4 * i)) &&& 31)) &&& 15)), (3, .int (nI (4 * i))), (2, .int b), (0, .int path)]) hx hb dX6_isPath_51 rfl hl (by decide) rfl (fun ls hl => ?_)
                  refine lv_iload_n hx hb dX6_isPath_52 rfl (lv_at hl 3 rfl) ?_
                  refine lv_if_ne (tgt := 61) hx hb dX6_isPath_53 (by decide) (fun c19 => ?_) (fun c19 => ?_)
                  · first | exact absurd hgt c19 | exact absurd c19 hngt | exact absurd hle c19 | exact absurd c19 hnle | exact absurd hb9 c19 | exact absurd c19 hb9
                  · refine lv_iload hx hb dX6_isPath_56 (lv_at hl 1 rfl) ?_
                    refine lv_if_le (tgt := 65) hx hb dX6_isPath_58 (by decide) (fun c20 => ?_) (fun c20 => ?_)
                    · refine lv_iconst (v := 0) hx hb dX6_isPath_65 (by decide) ?_
                      refine lv_istore_n (lv' := [(2, .int 0), (1, .int 1), (4, .int ((path >>> ((nI (4 * i)) &&& 31)) &&& 15)), (3, .int (nI (4 * i))), (0, .int path)]) hx hb dX6_isPath_66 rfl hl (by decide) rfl (fun ls hl => ?_)
                      refine lv_iinc (v := ((nI (4 * i)) + (-4))) (lv' := [(3, .int ((nI (4 * i)) + (-4))), (2, .int 0), (1, .int 1), (4, .int ((path >>> ((nI (4 * i)) &&& 31)) &&& 15)), (0, .int path)]) hx hb dX6_isPath_67 hl (k := 3) rfl rfl (by decide) rfl (fun ls hl => ?_)
                      refine lv_goto (tgt := 21) hx hb dX6_isPath_70 (by decide) ?_
                      rw [show nI (4 * i) + (-4) = nI (4 * i) - 4 from (Int32.sub_eq_add_neg _ _).symm] at hl
                      exact ih21 (i, 1, 0) _ _ _ ⟨by omega, ip_0 hi9 hI9 hd9 hb9, hm, hS, lv_sub hl [0, 1, 2, 4] rfl⟩ (by simp)
                    · first | exact absurd hgt c20 | exact absurd c20 hngt | exact absurd hle c20 | exact absurd c20 hnle | exact absurd hb9 c20 | exact absurd c20 hb9
            · refine lv_iload hx hb dX6_isPath_37 (lv_at hl 0 rfl) ?_
              refine lv_if_gt (tgt := 46) hx hb dX6_isPath_39 (by decide) (fun c21 => ?_) (fun c21 => ?_)
              · first | exact absurd hgt c21 | exact absurd c21 hngt | exact absurd hle c21 | exact absurd c21 hnle | exact absurd hb9 c21 | exact absurd c21 hb9
              · refine lv_iload_n hx hb dX6_isPath_42 rfl (lv_at hl 2 rfl) ?_
                refine lv_if_ne (tgt := 50) hx hb dX6_isPath_43 (by decide) (fun c22 => ?_) (fun c22 => ?_)
                · refine lv_iconst (v := 0) hx hb dX6_isPath_50 (by decide) ?_
                  refine lv_istore_n (lv' := [(1, .int 0), (4, .int ((path >>> ((nI (4 * i)) &&& 31)) &&& 15)), (3, .int (nI (4 * i))), (2, .int b), (0, .int path)]) hx hb dX6_isPath_51 rfl hl (by decide) rfl (fun ls hl => ?_)
                  refine lv_iload_n hx hb dX6_isPath_52 rfl (lv_at hl 3 rfl) ?_
                  refine lv_if_ne (tgt := 61) hx hb dX6_isPath_53 (by decide) (fun c23 => ?_) (fun c23 => ?_)
                  · refine lv_iconst (v := 1) hx hb dX6_isPath_61 (by decide) ?_
                    refine lv_goto (tgt := 66) hx hb dX6_isPath_62 (by decide) ?_
                    refine lv_istore_n (lv' := [(2, .int 1), (1, .int 0), (4, .int ((path >>> ((nI (4 * i)) &&& 31)) &&& 15)), (3, .int (nI (4 * i))), (0, .int path)]) hx hb dX6_isPath_66 rfl hl (by decide) rfl (fun ls hl => ?_)
                    refine lv_iinc (v := ((nI (4 * i)) + (-4))) (lv' := [(3, .int ((nI (4 * i)) + (-4))), (2, .int 1), (1, .int 0), (4, .int ((path >>> ((nI (4 * i)) &&& 31)) &&& 15)), (0, .int path)]) hx hb dX6_isPath_67 hl (k := 3) rfl rfl (by decide) rfl (fun ls hl => ?_)
                    refine lv_goto (tgt := 21) hx hb dX6_isPath_70 (by decide) ?_
                    rw [show nI (4 * i) + (-4) = nI (4 * i) - 4 from (Int32.sub_eq_add_neg _ _).symm] at hl
                    exact ih21 (i, 0, 1) _ _ _ ⟨by omega, ip_x hi9 hI9 hd9 hb9, hm, hS, lv_sub hl [0, 1, 2, 4] rfl⟩ (by simp)
                  · first | exact absurd hgt c23 | exact absurd c23 hngt | exact absurd hle c23 | exact absurd c23 hnle | exact absurd hb9 c23 | exact absurd c23 hb9
                · first | exact absurd hgt c22 | exact absurd c22 hngt | exact absurd hle c22 | exact absurd c22 hnle | exact absurd hb9 c22 | exact absurd c22 hb9
          · refine lv_iload hx hb dX6_isPath_37 (lv_at hl 0 rfl) ?_
            refine lv_if_gt (tgt := 46) hx hb dX6_isPath_39 (by decide) (fun c24 => ?_) (fun c24 => ?_)
            · refine lv_iconst (v := 1) hx hb dX6_isPath_46 (by decide) ?_
              refine lv_goto (tgt := 51) hx hb dX6_isPath_47 (by decide) ?_
              refine lv_istore_n (lv' := [(1, .int 1), (4, .int ((path >>> ((nI (4 * i)) &&& 31)) &&& 15)), (3, .int (nI (4 * i))), (2, .int b), (0, .int path)]) hx hb dX6_isPath_51 rfl hl (by decide) rfl (fun ls hl => ?_)
              refine lv_iload_n hx hb dX6_isPath_52 rfl (lv_at hl 3 rfl) ?_
              refine lv_if_ne (tgt := 61) hx hb dX6_isPath_53 (by decide) (fun c25 => ?_) (fun c25 => ?_)
              · refine lv_iconst (v := 1) hx hb dX6_isPath_61 (by decide) ?_
                refine lv_goto (tgt := 66) hx hb dX6_isPath_62 (by decide) ?_
                refine lv_istore_n (lv' := [(2, .int 1), (1, .int 1), (4, .int ((path >>> ((nI (4 * i)) &&& 31)) &&& 15)), (3, .int (nI (4 * i))), (0, .int path)]) hx hb dX6_isPath_66 rfl hl (by decide) rfl (fun ls hl => ?_)
                refine lv_iinc (v := ((nI (4 * i)) + (-4))) (lv' := [(3, .int ((nI (4 * i)) + (-4))), (2, .int 1), (1, .int 1), (4, .int ((path >>> ((nI (4 * i)) &&& 31)) &&& 15)), (0, .int path)]) hx hb dX6_isPath_67 hl (k := 3) rfl rfl (by decide) rfl (fun ls hl => ?_)
                refine lv_goto (tgt := 21) hx hb dX6_isPath_70 (by decide) ?_
                rw [show nI (4 * i) + (-4) = nI (4 * i) - 4 from (Int32.sub_eq_add_neg _ _).symm] at hl
                exact ih21 (i, 1, 1) _ _ _ ⟨by omega, ip_d hi9 hI9 hd9, hm, hS, lv_sub hl [0, 1, 2, 4] rfl⟩ (by simp)
              · refine lv_iload hx hb dX6_isPath_56 (lv_at hl 1 rfl) ?_
                refine lv_if_le (tgt := 65) hx hb dX6_isPath_58 (by decide) (fun c26 => ?_) (fun c26 => ?_)
                · first | exact absurd hgt c26 | exact absurd c26 hngt | exact absurd hle c26 | exact absurd c26 hnle | exact absurd hb9 c26 | exact absurd c26 hb9
                · refine lv_iconst (v := 1) hx hb dX6_isPath_61 (by decide) ?_
                  refine lv_goto (tgt := 66) hx hb dX6_isPath_62 (by decide) ?_
                  refine lv_istore_n (lv' := [(2, .int 1), (1, .int 1), (4, .int ((path >>> ((nI (4 * i)) &&& 31)) &&& 15)), (3, .int (nI (4 * i))), (0, .int path)]) hx hb dX6_isPath_66 rfl hl (by decide) rfl (fun ls hl => ?_)
                  refine lv_iinc (v := ((nI (4 * i)) + (-4))) (lv' := [(3, .int ((nI (4 * i)) + (-4))), (2, .int 1), (1, .int 1), (4, .int ((path >>> ((nI (4 * i)) &&& 31)) &&& 15)), (0, .int path)]) hx hb dX6_isPath_67 hl (k := 3) rfl rfl (by decide) rfl (fun ls hl => ?_)
                  refine lv_goto (tgt := 21) hx hb dX6_isPath_70 (by decide) ?_
                  rw [show nI (4 * i) + (-4) = nI (4 * i) - 4 from (Int32.sub_eq_add_neg _ _).symm] at hl
                  exact ih21 (i, 1, 1) _ _ _ ⟨by omega, ip_d hi9 hI9 hd9, hm, hS, lv_sub hl [0, 1, 2, 4] rfl⟩ (by simp)
            · first | exact absurd hgt c24 | exact absurd c24 hngt | exact absurd hle c24 | exact absurd c24 hnle | exact absurd hb9 c24 | exact absurd c24 hb9
    · refine lv_iconst (v := 1) hx hb dX6_isPath_10 (by decide) ?_
      refine lv_goto (tgt := 15) hx hb dX6_isPath_11 (by decide) ?_
      refine lv_istore_n (lv' := [(1, .int 1), (0, .int path)]) hx hb dX6_isPath_15 rfl hl (by decide) rfl (fun ls hl => ?_)
      refine lv_iconst (v := 0) hx hb dX6_isPath_16 (by decide) ?_
      refine lv_istore_n (lv' := [(2, .int 0), (1, .int 1), (0, .int path)]) hx hb dX6_isPath_17 rfl hl (by decide) rfl (fun ls hl => ?_)
      refine lv_bipush (v := 24) hx hb dX6_isPath_18 (by decide) ?_
      refine lv_istore_n (lv' := [(3, .int 24), (2, .int 0), (1, .int 1), (0, .int path)]) hx hb dX6_isPath_20 rfl hl (by decide) rfl (fun ls hl => ?_)
      refine W_loop (σ := Nat × Int32 × Int32) (fun ⟨j, g, b⟩ H locs ls => (j ≤ 7) ∧ (ipI path j g b) ∧ mm D (AZ z) M H ∧ va_S (AZ z) s.heap H locs ∧ lv_has ls 5 [(3, .int (nI (4 * j) - 4)), (2, .int b), (1, .int g), (0, .int path)]) (fun ⟨j, g, b⟩ => j) (fun ⟨j, g, b⟩ => 0) (fun ⟨j, g, b⟩ => 0) ?_ (7, 1, 0) _ _ _ ⟨Nat.le_refl _, ip_st c1 c14, hm, hS, lv_sub hl [0, 1, 2, 3] rfl⟩
      intro ⟨j, g, b⟩ H locs ls hI ih21
      obtain ⟨hj, hI9, hm, hS, hl⟩ := hI
      try dsimp only at hm hl ih21 ⊢
      refine lv_iload_n hx hb dX6_isPath_21 rfl (lv_at hl 0 rfl) ?_
      refine lv_if_lt (tgt := 73) hx hb dX6_isPath_22 (by decide) (fun c27 => ?_) (fun c27 => ?_)
      · refine lv_iload_n hx hb dX6_isPath_73 rfl (lv_at hl 2 rfl) ?_
        refine W.zret hx hb hr (bo_n (ip_01 hI9)) (fun t ht hW => ⟨⟨some (.int g), _, rfl, ?_, by rw [ht]; exact hm⟩, hS.F ht⟩) hS.2.2 dX6_isPath_74
        rcases ip_01 hI9 with hg9 | hg9
        · subst hg9
          rcases hI9 with ⟨h9, -⟩ | ⟨-, h9⟩
          · exact absurd h9 (by decide)
          · exact ⟨Or.inr ⟨h9, rfl⟩, rfl⟩
        · subst hg9
          first
            | exact absurd c27 (by decide)
            | (have hj0 : j = 0 := by
                cases j with
                | zero => rfl
                | succ i => exact absurd c27 (by rw [show (4 : Int32) = nI 4 from rfl, pk_sub (by omega)]; exact nI_pos (by omega))
               subst hj0
               rcases ip_end hI9 with ⟨h9, -⟩ | ⟨-, h9⟩
               · exact ⟨Or.inl ⟨h9, rfl⟩, rfl⟩
               · exact absurd h9 (by decide))
      · refine lv_iload_n hx hb dX6_isPath_25 rfl (lv_at hl 2 rfl) ?_
        refine lv_if_eq (tgt := 73) hx hb dX6_isPath_26 (by decide) (fun c28 => ?_) (fun c28 => ?_)
        · refine lv_iload_n hx hb dX6_isPath_73 rfl (lv_at hl 2 rfl) ?_
          refine W.zret hx hb hr (bo_n (ip_01 hI9)) (fun t ht hW => ⟨⟨some (.int g), _, rfl, ?_, by rw [ht]; exact hm⟩, hS.F ht⟩) hS.2.2 dX6_isPath_74
          rcases ip_01 hI9 with hg9 | hg9
          · subst hg9
            rcases hI9 with ⟨h9, -⟩ | ⟨-, h9⟩
            · exact absurd h9 (by decide)
            · exact ⟨Or.inr ⟨h9, rfl⟩, rfl⟩
          · subst hg9
            first
              | exact absurd c28 (by decide)
              | (have hj0 : j = 0 := by
                  cases j with
                  | zero => rfl
                  | succ i => exact absurd c28 (by rw [show (4 : Int32) = nI 4 from rfl, pk_sub (by omega)]; exact nI_pos (by omega))
                 subst hj0
                 rcases ip_end hI9 with ⟨h9, -⟩ | ⟨-, h9⟩
                 · exact ⟨Or.inl ⟨h9, rfl⟩, rfl⟩
                 · exact absurd h9 (by decide))
        · obtain ⟨i, rfl⟩ : ∃ i, j = i + 1 := by
            cases j with
            | zero => exact absurd (by decide) c27
            | succ i => exact ⟨i, rfl⟩
          have hi9 : i < 7 := by omega
          have hk9 : nI (4 * (i + 1)) - 4 = nI (4 * i) := by rw [show (4 : Int32) = nI 4 from rfl, pk_sub (by omega)]; congr 1
          rw [hk9] at hl
          have hg9 : g = 1 := (ip_01 hI9).resolve_left c28
          subst hg9
          refine lv_iload_n hx hb dX6_isPath_29 rfl (lv_at hl 3 rfl) ?_
          refine lv_iload_n hx hb dX6_isPath_30 rfl (lv_at hl 0 rfl) ?_
          refine lv_ishr hx hb dX6_isPath_31 ?_
          refine lv_bipush (v := 15) hx hb dX6_isPath_32 (by decide) ?_
          refine lv_iand hx hb dX6_isPath_34 ?_
          refine lv_istore (lv' := [(4, .int ((path >>> ((nI (4 * i)) &&& 31)) &&& 15)), (3, .int (nI (4 * i))), (2, .int b), (1, .int 1), (0, .int path)]) hx hb dX6_isPath_35 hl (by decide) rfl (fun ls hl => ?_)
          rcases d15_pos (x := path >>> (nI (4 * i) &&& 31)) with ⟨hd9, hle, hngt⟩ | ⟨hd9, hnle, hgt⟩
          · by_cases hb9 : b = 0
            · refine lv_iload hx hb dX6_isPath_37 (lv_at hl 0 rfl) ?_
              refine lv_if_gt (tgt := 46) hx hb dX6_isPath_39 (by decide) (fun c29 => ?_) (fun c29 => ?_)
              · first | exact absurd hgt c29 | exact absurd c29 hngt | exact absurd hle c29 | exact absurd c29 hnle | exact absurd hb9 c29 | exact absurd c29 hb9
              · refine lv_iload_n hx hb dX6_isPath_42 rfl (lv_at hl 2 rfl) ?_
                refine lv_if_ne (tgt := 50) hx hb dX6_isPath_43 (by decide) (fun c30 => ?_) (fun c30 => ?_)
                · first | exact absurd hgt c30 | exact absurd c30 hngt | exact absurd hle c30 | exact absurd c30 hnle | exact absurd hb9 c30 | exact absurd c30 hb9
                · refine lv_iconst (v := 1) hx hb dX6_isPath_46 (by decide) ?_
                  refine lv_goto (tgt := 51) hx hb dX6_isPath_47 (by decide) ?_
                  refine lv_istore_n (lv' := [(1, .int 1), (4, .int ((path >>> ((nI (4 * i)) &&& 31)) &&& 15)), (3, .int (nI (4 * i))), (2, .int b), (0, .int path)]) hx hb dX6_isPath_51 rfl hl (by decide) rfl (fun ls hl => ?_)
                  refine lv_iload_n hx hb dX6_isPath_52 rfl (lv_at hl 3 rfl) ?_
                  refine lv_if_ne (tgt := 61) hx hb dX6_isPath_53 (by decide) (fun c31 => ?_) (fun c31 => ?_)
                  · first | exact absurd hgt c31 | exact absurd c31 hngt | exact absurd hle c31 | exact absurd c31 hnle | exact absurd hb9 c31 | exact absurd c31 hb9
                  · refine lv_iload hx hb dX6_isPath_56 (lv_at hl 1 rfl) ?_
                    refine lv_if_le (tgt := 65) hx hb dX6_isPath_58 (by decide) (fun c32 => ?_) (fun c32 => ?_)
                    · refine lv_iconst (v := 0) hx hb dX6_isPath_65 (by decide) ?_
                      refine lv_istore_n (lv' := [(2, .int 0), (1, .int 1), (4, .int ((path >>> ((nI (4 * i)) &&& 31)) &&& 15)), (3, .int (nI (4 * i))), (0, .int path)]) hx hb dX6_isPath_66 rfl hl (by decide) rfl (fun ls hl => ?_)
                      refine lv_iinc (v := ((nI (4 * i)) + (-4))) (lv' := [(3, .int ((nI (4 * i)) + (-4))), (2, .int 0), (1, .int 1), (4, .int ((path >>> ((nI (4 * i)) &&& 31)) &&& 15)), (0, .int path)]) hx hb dX6_isPath_67 hl (k := 3) rfl rfl (by decide) rfl (fun ls hl => ?_)
                      refine lv_goto (tgt := 21) hx hb dX6_isPath_70 (by decide) ?_
                      rw [show nI (4 * i) + (-4) = nI (4 * i) - 4 from (Int32.sub_eq_add_neg _ _).symm] at hl
                      exact ih21 (i, 1, 0) _ _ _ ⟨by omega, ip_0 hi9 hI9 hd9 hb9, hm, hS, lv_sub hl [0, 1, 2, 4] rfl⟩ (by simp)
                    · first | exact absurd hgt c32 | exact absurd c32 hngt | exact absurd hle c32 | exact absurd c32 hnle | exact absurd hb9 c32 | exact absurd c32 hb9
            · refine lv_iload hx hb dX6_isPath_37 (lv_at hl 0 rfl) ?_
              refine lv_if_gt (tgt := 46) hx hb dX6_isPath_39 (by decide) (fun c33 => ?_) (fun c33 => ?_)
              · first | exact absurd hgt c33 | exact absurd c33 hngt | exact absurd hle c33 | exact absurd c33 hnle | exact absurd hb9 c33 | exact absurd c33 hb9
              · refine lv_iload_n hx hb dX6_isPath_42 rfl (lv_at hl 2 rfl) ?_
                refine lv_if_ne (tgt := 50) hx hb dX6_isPath_43 (by decide) (fun c34 => ?_) (fun c34 => ?_)
                · refine lv_iconst (v := 0) hx hb dX6_isPath_50 (by decide) ?_
                  refine lv_istore_n (lv' := [(1, .int 0), (4, .int ((path >>> ((nI (4 * i)) &&& 31)) &&& 15)), (3, .int (nI (4 * i))), (2, .int b), (0, .int path)]) hx hb dX6_isPath_51 rfl hl (by decide) rfl (fun ls hl => ?_)
                  refine lv_iload_n hx hb dX6_isPath_52 rfl (lv_at hl 3 rfl) ?_
                  refine lv_if_ne (tgt := 61) hx hb dX6_isPath_53 (by decide) (fun c35 => ?_) (fun c35 => ?_)
                  · refine lv_iconst (v := 1) hx hb dX6_isPath_61 (by decide) ?_
                    refine lv_goto (tgt := 66) hx hb dX6_isPath_62 (by decide) ?_
                    refine lv_istore_n (lv' := [(2, .int 1), (1, .int 0), (4, .int ((path >>> ((nI (4 * i)) &&& 31)) &&& 15)), (3, .int (nI (4 * i))), (0, .int path)]) hx hb dX6_isPath_66 rfl hl (by decide) rfl (fun ls hl => ?_)
                    refine lv_iinc (v := ((nI (4 * i)) + (-4))) (lv' := [(3, .int ((nI (4 * i)) + (-4))), (2, .int 1), (1, .int 0), (4, .int ((path >>> ((nI (4 * i)) &&& 31)) &&& 15)), (0, .int path)]) hx hb dX6_isPath_67 hl (k := 3) rfl rfl (by decide) rfl (fun ls hl => ?_)
                    refine lv_goto (tgt := 21) hx hb dX6_isPath_70 (by decide) ?_
                    rw [show nI (4 * i) + (-4) = nI (4 * i) - 4 from (Int32.sub_eq_add_neg _ _).symm] at hl
                    exact ih21 (i, 0, 1) _ _ _ ⟨by omega, ip_x hi9 hI9 hd9 hb9, hm, hS, lv_sub hl [0, 1, 2, 4] rfl⟩ (by simp)
                  · first | exact absurd hgt c35 | exact absurd c35 hngt | exact absurd hle c35 | exact absurd c35 hnle | exact absurd hb9 c35 | exact absurd c35 hb9
                · first | exact absurd hgt c34 | exact absurd c34 hngt | exact absurd hle c34 | exact absurd c34 hnle | exact absurd hb9 c34 | exact absurd c34 hb9
          · refine lv_iload hx hb dX6_isPath_37 (lv_at hl 0 rfl) ?_
            refine lv_if_gt (tgt := 46) hx hb dX6_isPath_39 (by decide) (fun c36 => ?_) (fun c36 => ?_)
            · refine lv_iconst (v := 1) hx hb dX6_isPath_46 (by decide) ?_
              refine lv_goto (tgt := 51) hx hb dX6_isPath_47 (by decide) ?_
              refine lv_istore_n (lv' := [(1, .int 1), (4, .int ((path >>> ((nI (4 * i)) &&& 31)) &&& 15)), (3, .int (nI (4 * i))), (2, .int b), (0, .int path)]) hx hb dX6_isPath_51 rfl hl (by decide) rfl (fun ls hl => ?_)
              refine lv_iload_n hx hb dX6_isPath_52 rfl (lv_at hl 3 rfl) ?_
              refine lv_if_ne (tgt := 61) hx hb dX6_isPath_53 (by decide) (fun c37 => ?_) (fun c37 => ?_)
              · refine lv_iconst (v := 1) hx hb dX6_isPath_61 (by decide) ?_
                refine lv_goto (tgt := 66) hx hb dX6_isPath_62 (by decide) ?_
                refine lv_istore_n (lv' := [(2, .int 1), (1, .int 1), (4, .int ((path >>> ((nI (4 * i)) &&& 31)) &&& 15)), (3, .int (nI (4 * i))), (0, .int path)]) hx hb dX6_isPath_66 rfl hl (by decide) rfl (fun ls hl => ?_)
                refine lv_iinc (v := ((nI (4 * i)) + (-4))) (lv' := [(3, .int ((nI (4 * i)) + (-4))), (2, .int 1), (1, .int 1), (4, .int ((path >>> ((nI (4 * i)) &&& 31)) &&& 15)), (0, .int path)]) hx hb dX6_isPath_67 hl (k := 3) rfl rfl (by decide) rfl (fun ls hl => ?_)
                refine lv_goto (tgt := 21) hx hb dX6_isPath_70 (by decide) ?_
                rw [show nI (4 * i) + (-4) = nI (4 * i) - 4 from (Int32.sub_eq_add_neg _ _).symm] at hl
                exact ih21 (i, 1, 1) _ _ _ ⟨by omega, ip_d hi9 hI9 hd9, hm, hS, lv_sub hl [0, 1, 2, 4] rfl⟩ (by simp)
              · refine lv_iload hx hb dX6_isPath_56 (lv_at hl 1 rfl) ?_
                refine lv_if_le (tgt := 65) hx hb dX6_isPath_58 (by decide) (fun c38 => ?_) (fun c38 => ?_)
                · first | exact absurd hgt c38 | exact absurd c38 hngt | exact absurd hle c38 | exact absurd c38 hnle | exact absurd hb9 c38 | exact absurd c38 hb9
                · refine lv_iconst (v := 1) hx hb dX6_isPath_61 (by decide) ?_
                  refine lv_goto (tgt := 66) hx hb dX6_isPath_62 (by decide) ?_
                  refine lv_istore_n (lv' := [(2, .int 1), (1, .int 1), (4, .int ((path >>> ((nI (4 * i)) &&& 31)) &&& 15)), (3, .int (nI (4 * i))), (0, .int path)]) hx hb dX6_isPath_66 rfl hl (by decide) rfl (fun ls hl => ?_)
                  refine lv_iinc (v := ((nI (4 * i)) + (-4))) (lv' := [(3, .int ((nI (4 * i)) + (-4))), (2, .int 1), (1, .int 1), (4, .int ((path >>> ((nI (4 * i)) &&& 31)) &&& 15)), (0, .int path)]) hx hb dX6_isPath_67 hl (k := 3) rfl rfl (by decide) rfl (fun ls hl => ?_)
                  refine lv_goto (tgt := 21) hx hb dX6_isPath_70 (by decide) ?_
                  rw [show nI (4 * i) + (-4) = nI (4 * i) - 4 from (Int32.sub_eq_add_neg _ _).symm] at hl
                  exact ih21 (i, 1, 1) _ _ _ ⟨by omega, ip_d hi9 hI9 hd9, hm, hS, lv_sub hl [0, 1, 2, 4] rfl⟩ (by simp)
            · first | exact absurd hgt c36 | exact absurd c36 hngt | exact absurd hle c36 | exact absurd c36 hnle | exact absurd hb9 c36 | exact absurd c36 hb9
