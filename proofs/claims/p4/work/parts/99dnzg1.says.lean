section N_zg
/-! ===== what a law's nodes say, on both sides ===== -/
theorem ask_lo {V : hV} {n f b j : Nat} : ∀ (i k : Nat), j < k → (askF V n f b (k + i)).1 318 j = (askF V n f b k).1 318 j
  | 0, k, _ => rfl
  | i + 1, k, h => by
    show (up (askF V n f b (k + i)) 318 (k + i) _).1 318 j = _
    rw [up_ne _ _ (Or.inr (by omega))]
    exact ask_lo i k h
theorem ask_at {V : hV} {n f b k m : Nat} (h : k < m) : (askF V n f b m).1 318 k = nodeF (askF V n f b k) n (mm_un (V.1 f (b + 1 + 4 * k))) (mm_un (V.1 f (b + 1 + 4 * k + 1))) (mm_un (V.1 f (b + 1 + 4 * k + 2))) := by
  obtain ⟨i, rfl⟩ : ∃ i, m = k + 1 + i := ⟨m - (k + 1), by omega⟩
  rw [ask_lo i (k + 1) (Nat.lt_succ_self k)]
  exact up_eq _ _ _ _
theorem ask_ml {V : hV} {n f b a k m : Nat} (h : a < k) (hm : k ≤ m) : (askF V n f b k).1 318 a = (askF V n f b m).1 318 a := by
  obtain ⟨i, rfl⟩ : ∃ i, m = k + i := ⟨m - k, by omega⟩
  exact (ask_lo i k h).symm
/-- the formula of a law -/
def LWN (fo : hW) : Prop := ∀ x, x ∈ fo → (x.1 = 0 ∧ mm_un x.2 < 5) ∨ x.1 = 1 ∨ x.1 = 6 ∨ x.1 = 7
theorem nd_tv {V : hV} {np f b m : Nat} : ∀ (fo : hW) (st : List Nat) (n : Nat) (st' : List Nat), ndR (V.1 f) b fo st n st' → LWN fo → n + fo.length ≤ m → n + fo.length ≤ 60 → st.length ≤ n → (∀ k, k ∈ st → k < n) → tvF (V.1 313 2) fo (st.map fun k => (askF V np f b m).1 318 k) = some (st'.map fun k => (askF V np f b m).1 318 k)
  | [], st, n, st', h, _, _, _, _, _ => by
    obtain rfl : st' = st := h
    rfl
  | x :: fo, st, n, st', ⟨s1, ⟨hk, hs⟩, h2⟩, hL, hm, h60, hl, hlt => by
    rw [List.length_cons] at hm h60
    have hA := ask_at (V := V) (n := np) (f := f) (b := b) (k := n) (m := m) (by omega)
    have h313 : (askF V np f b n).1 313 2 = V.1 313 2 := askF_ne V np f b (by decide) 2 n
    have go : ∀ z, s1.length ≤ n + 1 → (∀ k, k ∈ s1 → k < n + 1) → tvS (V.1 313 2) x (st.map fun k => (askF V np f b m).1 318 k) = some z → z = (s1.map fun k => (askF V np f b m).1 318 k) → tvF (V.1 313 2) (x :: fo) (st.map fun k => (askF V np f b m).1 318 k) = some (st'.map fun k => (askF V np f b m).1 318 k) := by
      intro z hl1 hlt1 hz hz2
      unfold tvF
      rw [hz, hz2]
      exact nd_tv fo s1 (n + 1) st' h2 (fun y hy => hL y (List.mem_cons_of_mem _ hy)) (by omega) (by omega) hl1 hlt1
    rcases hs with ⟨c0, e1, rfl⟩ | ⟨⟨c1, c2⟩, a, r, rfl, e1, e2, rfl⟩ | ⟨c6, b2, a, r, rfl, e1, e2, rfl⟩
    · have hx2 : mm_un x.2 < 5 := by
        rcases hL x (List.mem_cons_self) with q | q | q | q
        · exact q.2
        · rw [c0] at q
          exact absurd q (by decide)
        · rw [c0] at q
          exact absurd q (by decide)
        · rw [c0] at q
          exact absurd q (by decide)
      have hv : (askF V np f b m).1 318 n = V.1 313 2 &&& wof x.2 := by
        rw [hA, hk, c0, e1]
        show wof (Int32.ofNat (mm_un x.2)) &&& (askF V np f b n).1 313 2 = _
        rw [h313, wx_un, Int32.and_comm]
      refine go ((V.1 313 2 &&& wof x.2) :: _) (by rw [List.length_cons]; omega) (fun k hk2 => ?_) ((if_pos c0).trans (if_pos ⟨by rw [List.length_map]; omega, hx2⟩)) ?_
      · rcases List.mem_cons.mp hk2 with q | q
        · omega
        · have := hlt k q
          omega
      · rw [List.map_cons, hv]
    · have c1' : x.1 = 1 := by
        rcases hL x (List.mem_cons_self) with q | q | q | q
        · rw [q.1] at c1
          exact absurd c1 (by decide)
        · exact q
        · rw [q] at c2
          exact absurd c2 (by decide)
        · rw [q] at c2
          exact absurd c2 (by decide)
      have ha := hlt a (List.mem_cons_self)
      have hv : (askF V np f b m).1 318 n = V.1 313 2 &&& ((askF V np f b m).1 318 a ^^^ -1) := by
        rw [hA, hk, c1', e1, i_un (by omega)]
        show ((askF V np f b n).1 318 a ^^^ -1) &&& (askF V np f b n).1 313 2 = _
        rw [h313, Int32.and_comm, ask_ml (m := m) ha (by omega)]
      refine go _ (by rw [List.length_cons] at hl ⊢; omega) (fun k hk2 => ?_) ((if_neg (by rw [c1']; decide)).trans ((if_neg (by rw [c1']; decide)).trans (if_pos c1'))) ?_
      · rcases List.mem_cons.mp hk2 with q | q
        · omega
        · have := hlt k (List.mem_cons_of_mem _ q)
          omega
      · rw [List.map_cons, hv]
    · have ha := hlt a (List.mem_cons_of_mem _ (List.mem_cons_self))
      have hb := hlt b2 (List.mem_cons_self)
      have hv : (askF V np f b m).1 318 n = if x.1 = 6 then (askF V np f b m).1 318 a &&& (askF V np f b m).1 318 b2 else (askF V np f b m).1 318 a ||| (askF V np f b m).1 318 b2 := by
        rw [hA, hk, e1, e2, i_un (by omega), i_un (by omega)]
        rcases c6 with q | q
        · rw [q, if_pos rfl]
          show (askF V np f b n).1 318 a &&& (askF V np f b n).1 318 b2 = _
          rw [ask_ml (m := m) ha (by omega), ask_ml (m := m) hb (by omega)]
        · rw [q, if_neg (by decide)]
          show (askF V np f b n).1 318 a ||| (askF V np f b n).1 318 b2 = _
          rw [ask_ml (m := m) ha (by omega), ask_ml (m := m) hb (by omega)]
      have n0 : ¬ x.1 = 0 := by
        rcases c6 with q | q
        · rw [q]
          decide
        · rw [q]
          decide
      refine go _ (by rw [List.length_cons, List.length_cons] at hl; rw [List.length_cons]; omega) (fun k hk2 => ?_) ((if_neg n0).trans (if_pos c6)) ?_
      · rcases List.mem_cons.mp hk2 with q | q
        · omega
        · have := hlt k (List.mem_cons_of_mem _ (List.mem_cons_of_mem _ q))
          omega
      · rw [List.map_cons, hv]
end N_zg
