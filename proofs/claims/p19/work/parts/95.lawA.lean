/-! THE LAW: what stands at the head of its loop. -/
theorem TM.kp {k : Nat → ClassId} {κ : Nat → Option KD} {M M1 : mM} {h : Nat → Prop} (hT : TM k κ M) (hk : kpx h M M1) (hn : ∀ a, h a → κ a = none) : TM k κ M1 := fun a d ha => by
  obtain ⟨e, h1, h2⟩ := hT a d ha
  exact ⟨e, hk a e (fun q => by rw [hn a q] at ha; cases ha) h1, h2⟩
theorem mI.on {k : Nat → ClassId} {M : mM} {mo cn ia dr en la wo op mk ir se ec lc wc ol al : Nat} {dn md : Int32} (hI : mI k M mo cn ia dr en la wo op mk ir se ec lc wc ol al dn md) : ∀ a ∈ [mo, cn, ia, dr, en, la, wo, op, mk, ir, se, ec, lc, wc, ol, al], ∃ e, M a = some e := by
  obtain ⟨cd, ni, pw, cm, wr, cs, hm9, fcn, fia, fdr, fen, fla, fwo, fop, fmk, fir, fse, fec, flc, fol, fal, fwc, hap, hM, hmd, hr, hcn, hia, hdr, hen, hla, hwo, hop, hmk, hir, hse, hec, hlc, hwc, hol, hal⟩ := hI
  intro a ha
  simp only [List.mem_cons, List.not_mem_nil, or_false] at ha
  rcases ha with rfl | rfl | rfl | rfl | rfl | rfl | rfl | rfl | rfl | rfl | rfl | rfl | rfl | rfl | rfl | rfl
  · exact ⟨_, hM⟩
  · exact ⟨_, hcn⟩
  · exact ⟨_, hia⟩
  · exact ⟨_, hdr⟩
  · exact ⟨_, hen⟩
  · exact ⟨_, hla⟩
  · exact ⟨_, hwo⟩
  · exact ⟨_, hop⟩
  · exact ⟨_, hmk⟩
  · exact ⟨_, hir⟩
  · exact ⟨_, hse⟩
  · exact ⟨_, hec⟩
  · exact ⟨_, hlc⟩
  · exact ⟨_, hwc⟩
  · exact ⟨_, hol⟩
  · exact ⟨_, hal⟩
theorem mI.mv {k : Nat → ClassId} {κ κ1 : Nat → Option KD} {M M1 : mM} {mo cn ia dr en la wo op mk ir se ec lc wc ol al : Nat} {dn md : Int32} (hI : mI k M mo cn ia dr en la wo op mk ir se ec lc wc ol al dn md) (hx : kx κ M κ1 M1) (hn : ∀ a ∈ [mo, cn, ia, dr, en, la, wo, op, mk, ir, se, ec, lc, wc, ol, al], κ a = none) : mI k M1 mo cn ia dr en la wo op mk ir se ec lc wc ol al dn md := by
  obtain ⟨cd, ni, pw, cm, wr, cs, hm9, fcn, fia, fdr, fen, fla, fwo, fop, fmk, fir, fse, fec, flc, fol, fal, fwc, hap, hM, hmd, hr, hcn, hia, hdr, hen, hla, hwo, hop, hmk, hir, hse, hec, hlc, hwc, hol, hal⟩ := hI
  exact ⟨cd, ni, pw, cm, wr, cs, hm9, fcn, fia, fdr, fen, fla, fwo, fop, fmk, fir, fse, fec, flc, fol, fal, fwc, hap, hx.2 _ _ hM (hn _ (by simp)), hmd, hr, hx.2 _ _ hcn (hn _ (by simp)), hx.2 _ _ hia (hn _ (by simp)), hx.2 _ _ hdr (hn _ (by simp)), hx.2 _ _ hen (hn _ (by simp)), hx.2 _ _ hla (hn _ (by simp)), hx.2 _ _ hwo (hn _ (by simp)), hx.2 _ _ hop (hn _ (by simp)), hx.2 _ _ hmk (hn _ (by simp)), hx.2 _ _ hir (hn _ (by simp)), hx.2 _ _ hse (hn _ (by simp)), hx.2 _ _ hec (hn _ (by simp)), hx.2 _ _ hlc (hn _ (by simp)), hx.2 _ _ hwc (hn _ (by simp)), hx.2 _ _ hol (hn _ (by simp)), hx.2 _ _ hal (hn _ (by simp))⟩
theorem mI.off {k : Nat → ClassId} {κ κ1 : Nat → Option KD} {M M1 : mM} {mo cn ia dr en la wo op mk ir se ec lc wc ol al : Nat} {dn md : Int32} (hI : mI k M mo cn ia dr en la wo op mk ir se ec lc wc ol al dn md) (hx : kx κ M κ1 M1) (hn : ∀ a ∈ [mo, cn, ia, dr, en, la, wo, op, mk, ir, se, ec, lc, wc, ol, al], κ a = none) : ∀ a ∈ [mo, cn, ia, dr, en, la, wo, op, mk, ir, se, ec, lc, wc, ol, al], κ1 a = none := fun a ha => by
  obtain ⟨e, he⟩ := hI.on a ha
  rw [hx.1 a e he]; exact hn a ha
/-- the class's object, the reference's, the array out: each may hold what it may -/
def LI (k : Nat → ClassId) (M : mM) (o mo oa : Nat) : Prop := ∃ (κ : Nat → Option KD) (cn ia dr en la wo op mk ir se ec lc wc ol al : Nat) (dn md : Int32), TM k κ M ∧ κ o = some .top ∧ κ oa = some .outs ∧ mI k M mo cn ia dr en la wo op mk ir se ec lc wc ol al dn md ∧ (md ≠ 0 → dn ≠ 0) ∧ ∀ a ∈ [mo, cn, ia, dr, en, la, wo, op, mk, ir, se, ec, lc, wc, ol, al], κ a = none
