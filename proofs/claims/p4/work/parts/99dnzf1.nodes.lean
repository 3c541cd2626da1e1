section N_zf
/-! ===== the nodes of both sides ===== -/
/-- the reference's kind for the class's sort -/
def kM (s : Int32) : Int32 := if s = 0 then 0 else if s = 1 then 1 else if s = 6 then 2 else if s = 7 then 3 else s + 2
/-- the reference's node n is the class's x over the nodes that wait in st -/
def ndS (F : Nat → Int32) (bs : Nat) (x : Int32 × Int32) (st : List Nat) (n : Nat) (st' : List Nat) : Prop := F (bs + 1 + 4 * n) = kM x.1 ∧ ((x.1 = 0 ∧ F (bs + 1 + 4 * n + 1) = x.2 ∧ st' = n :: st) ∨ ((1 ≤ x.1 ∧ x.1 ≤ 5) ∧ ∃ a r, st = a :: r ∧ F (bs + 1 + 4 * n + 1) = Int32.ofNat a ∧ F (bs + 1 + 4 * n + 2) = x.2 ∧ st' = n :: r) ∨ ((x.1 = 6 ∨ x.1 = 7) ∧ ∃ b a r, st = b :: a :: r ∧ F (bs + 1 + 4 * n + 1) = Int32.ofNat a ∧ F (bs + 1 + 4 * n + 2) = Int32.ofNat b ∧ st' = n :: r))
def ndR (F : Nat → Int32) (bs : Nat) : hW → List Nat → Nat → List Nat → Prop
  | [], st, _, st' => st' = st
  | x :: fo, st, n, st' => ∃ s1, ndS F bs x st n s1 ∧ ndR F bs fo s1 (n + 1) st'
theorem ndR_app {F : Nat → Int32} {bs : Nat} : ∀ (a b : hW) (st : List Nat) (n : Nat) (st' : List Nat), ndR F bs (a ++ b) st n st' ↔ ∃ s1, ndR F bs a st n s1 ∧ ndR F bs b s1 (n + a.length) st'
  | [], b, st, n, st' => ⟨fun h => ⟨st, rfl, h⟩, fun ⟨s1, h1, h2⟩ => by
    obtain rfl : s1 = st := h1
    exact h2⟩
  | x :: a, b, st, n, st' => by
    refine ⟨fun ⟨s1, h1, h2⟩ => ?_, fun ⟨s2, ⟨s1, h1, h2⟩, h3⟩ => ⟨s1, h1, (ndR_app a b s1 (n + 1) st').mpr ⟨s2, h2, ?_⟩⟩⟩
    · obtain ⟨s2, h3, h4⟩ := (ndR_app a b s1 (n + 1) st').mp h2
      refine ⟨s2, ⟨s1, h1, h3⟩, ?_⟩
      rw [List.length_cons, show n + (a.length + 1) = n + 1 + a.length by omega]
      exact h4
    · rw [List.length_cons, show n + (a.length + 1) = n + 1 + a.length by omega] at h3
      exact h3
theorem ndS_cg {F F' : Nat → Int32} {bs : Nat} {x : Int32 × Int32} {st : List Nat} {n : Nat} {st' : List Nat} (h : ndS F bs x st n st') (e : ∀ j, bs + 1 + 4 * n ≤ j → j < bs + 1 + 4 * n + 4 → F' j = F j) : ndS F' bs x st n st' := by
  unfold ndS at h ⊢
  rw [e (bs + 1 + 4 * n) (by omega) (by omega), e (bs + 1 + 4 * n + 1) (by omega) (by omega), e (bs + 1 + 4 * n + 2) (by omega) (by omega)]
  exact h
theorem ndR_cg {F F' : Nat → Int32} {bs : Nat} : ∀ (fo : hW) (st : List Nat) (n : Nat) (st' : List Nat), ndR F bs fo st n st' → (∀ j, bs + 1 + 4 * n ≤ j → j < bs + 1 + 4 * (n + fo.length) → F' j = F j) → ndR F' bs fo st n st'
  | [], st, n, st', h, e => h
  | x :: fo, st, n, st', ⟨s1, h1, h2⟩, e => by
    rw [List.length_cons] at e
    exact ⟨s1, ndS_cg h1 fun j j1 j2 => e j j1 (by omega), ndR_cg fo s1 (n + 1) st' h2 fun j j1 j2 => e j (by omega) (by omega)⟩
/-- one node more -/
theorem ndR_one {F F' : Nat → Int32} {bs : Nat} {fo : hW} {st st' : List Nat} {x : Int32 × Int32} (h : ndR F bs fo [] 0 st) (e : ∀ j, bs + 1 ≤ j → j < bs + 1 + 4 * fo.length → F' j = F j) (h2 : ndS F' bs x st fo.length st') : ndR F' bs (fo ++ [x]) [] 0 st' := by
  refine (ndR_app fo [x] [] 0 st').mpr ⟨st, ndR_cg fo [] 0 st h fun j j1 j2 => e j (by omega) (by omega), st', ?_, rfl⟩
  rw [Nat.zero_add]
  exact h2
end N_zf
