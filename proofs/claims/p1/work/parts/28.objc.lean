theorem obj_copy {k : Nat → ClassId} {M : mM} {t na x n : Nat} {g go : Nat → Option Nat} {L : List NV} {fs : List Value} {i : Nat} (hi : i ≠ 4) (h : treeAt k M t na g L) (hx : M x = some (.inr (i, fs))) : copyM k M t na g go n x = some (.inr (i, fs)) :=
  (mu_ne (m_df h.1 hx (by intro h; cases h; exact hi rfl))).trans ((mu_ne (m_df h.2.1 hx (by intro h; cases h))).trans hx)
