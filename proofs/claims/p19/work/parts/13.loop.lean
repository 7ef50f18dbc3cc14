/-- a loop: variables x of a type, an invariant over heap and locals, a measure that falls; the room used so far may grow with x -/
theorem W_loop {σ : Type} {p : Program} {l : Launch} {e : Env} {R : Room} {s : State} {m : MethodId} {args : Array Value} {below : List Frame} {meth : Method} {c : Code} {Q : State → Prop} {pc : Nat} {st : List Value}
    (I : σ → Heap → List Loc → Array Slot → Prop) (μ : σ → Nat) (kc ks : σ → Nat)
    (step : ∀ (x : σ) (H : Heap) (locs : List Loc) (ls : Array Slot), I x H locs ls → (∀ (y : σ) (H' : Heap) (locs' : List Loc) (ls' : Array Slot), I y H' locs' ls' → μ y < μ x → W p l e R s m args below meth c H' locs' (kc y) (ks y) Q (F0 m pc ls' st)) → W p l e R s m args below meth c H locs (kc x) (ks x) Q (F0 m pc ls st)) :
    ∀ (x : σ) (H : Heap) (locs : List Loc) (ls : Array Slot), I x H locs ls → W p l e R s m args below meth c H locs (kc x) (ks x) Q (F0 m pc ls st) := by
  have key : ∀ (n : Nat) (x : σ) (H : Heap) (locs : List Loc) (ls : Array Slot), μ x < n → I x H locs ls → W p l e R s m args below meth c H locs (kc x) (ks x) Q (F0 m pc ls st) := by
    intro n
    induction n with
    | zero => intro x H locs ls h _; exact absurd h (Nat.not_lt_zero _)
    | succ n ih => intro x H locs ls h hI; exact step x H locs ls hI (fun y H' locs' ls' hI' hy => ih y H' locs' ls' (by omega) hI')
  exact fun x H locs ls hI => key (μ x + 1) x H locs ls (Nat.lt_succ_self _) hI
/-! What a node and a tree ARE: a node's value; a tree's list of them. -/
/-- a node: id, whether a directory (1 or 0), size, cells -/
abbrev NV : Type := Int32 × Int32 × Int32 × (Nat → Int32)
def nlen (v : NV) : Nat := if v.2.1 = 0 then 64 else 16
def nodeAt (k : Nat → ClassId) (M : mM) (a : Nat) (v : NV) : Prop := (v.2.1 = 0 ∨ v.2.1 = 1) ∧ ∃ ca, M a = some (.inr (2, [.int v.1, .int v.2.1, .int v.2.2.1, .ref ca])) ∧ M ca = some (.inl (k 0, nlen v, .inl v.2.2.2))
/-- the rows of a tree's array: its first places hold nodes -/
def rowsAt (k : Nat → ClassId) (M : mM) (g : Nat → Option Nat) (L : List NV) : Prop := ∀ (j : Nat) (v : NV), L[j]? = some v → ∃ a, g j = some a ∧ nodeAt k M a v
def treeAt (k : Nat → ClassId) (M : mM) (t na : Nat) (g : Nat → Option Nat) (L : List NV) : Prop := M t = some (.inr (4, [.ref na, .int (nI L.length)])) ∧ M na = some (.inl (k 3, 60, .inr (.inr (.inr (.inr g))))) ∧ L.length ≤ 60 ∧ rowsAt k M g L
/-- where the node of an id is, from a place on -/
def placeFrom (id : Int32) : List NV → Nat → Int32
  | [], _ => -1
  | v :: L, i => if v.1 = id then nI i else placeFrom id L (i + 1)
theorem placeFrom_drop (id : Int32) (L : List NV) (i : Nat) (v : NV) (h : L[i]? = some v) : placeFrom id (L.drop i) i = if v.1 = id then nI i else placeFrom id (L.drop (i + 1)) (i + 1) := by
  have hlt := (List.getElem?_eq_some_iff.mp h).1
  have : L.drop i = v :: L.drop (i + 1) := by
    rw [List.drop_eq_getElem_cons hlt]
    rw [(List.getElem?_eq_some_iff.mp h).2]
  rw [this]
  rfl
theorem placeFrom_end (id : Int32) (L : List NV) (i : Nat) (h : L.length ≤ i) : placeFrom id (L.drop i) i = -1 := by
  rw [List.drop_eq_nil_of_le h]
  rfl
