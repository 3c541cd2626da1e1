/-! ===== heaps as tables of shapes and a function of values ===== -/
/-- the code of n whole numbers -/
def he_n (f : Nat → Int32) : Nat → Nat
  | 0 => 0
  | n + 1 => mm_as 32 (he_n f n) n (mm_un (f n))
theorem he_ag (f : Nat → Int32) : ∀ n i, mm_ag 32 (he_n f n) i = if i < n then mm_un (f i) else 0
  | 0, i => by rw [if_neg (Nat.not_lt_zero i)]; exact mm_ag_0 32 i
  | n + 1, i => by
    show mm_ag 32 (mm_as 32 (he_n f n) n (mm_un (f n))) i = _
    rw [mm_ag_as 32 _ _ _ _ (by decide), he_ag f n i]
    by_cases e : i = n
    · subst e
      rw [if_pos rfl, if_pos (Nat.lt_succ_self i)]
      exact Nat.mod_eq_of_lt (mm_un_lt _)
    · rw [if_neg e]
      by_cases h : i < n
      · rw [if_pos h, if_pos (Nat.lt_succ_of_lt h)]
      · rw [if_neg h, if_neg (by omega)]
theorem he_ext {a b : Nat} (h : ∀ i, mm_ag 32 a i = mm_ag 32 b i) : a = b := by
  refine Nat.eq_of_testBit_eq fun k => ?_
  have h1 := mm_tb 32 a (k / 32) (k % 32)
  have h2 := mm_tb 32 b (k / 32) (k % 32)
  rw [h (k / 32)] at h1
  have h3 := h1.symm.trans h2
  have hk : 32 * (k / 32) + k % 32 = k := by omega
  rw [hk] at h3
  have hd : decide (k % 32 < 32) = true := decide_eq_true (Nat.mod_lt _ (by decide))
  rw [hd, Bool.true_and, Bool.true_and] at h3
  exact h3
theorem he_set (f : Nat → Int32) (n i : Nat) (x : Int32) (hi : i < n) : mm_as 32 (he_n f n) i (mm_un x) = he_n (fun k => if k = i then x else f k) n := by
  refine he_ext fun j => ?_
  rw [mm_ag_as 32 _ _ _ _ (by decide), he_ag, he_ag]
  by_cases e : j = i
  · subst e
    rw [if_pos rfl, if_pos hi, if_pos rfl]
    exact Nat.mod_eq_of_lt (mm_un_lt _)
  · rw [if_neg e]
    by_cases h : j < n
    · rw [if_pos h, if_pos h, if_neg e]
    · rw [if_neg h, if_neg h]
theorem he_congr {f g : Nat → Int32} : ∀ {n : Nat}, (∀ i, i < n → f i = g i) → he_n f n = he_n g n
  | 0, _ => rfl
  | n + 1, h => by
    show mm_as 32 (he_n f n) n (mm_un (f n)) = mm_as 32 (he_n g n) n (mm_un (g n))
    rw [he_congr (f := f) (g := g) (n := n) fun i hi => h i (Nat.lt_succ_of_lt hi), h n (Nat.lt_succ_self n)]
theorem he_zero (n : Nat) : he_n (fun _ => 0) n = 0 := by
  refine he_ext fun i => ?_
  rw [he_ag, mm_ag_0]
  split <;> rfl
/-- the fields of an object: the whole numbers out of f -/
def hz (f : Nat → Int32) : Nat → List Value → List Value
  | _, [] => []
  | k, .int _ :: r => .int (f k) :: hz f (k + 1) r
  | k, v :: r => v :: hz f (k + 1) r
theorem hz_cons (f : Nat → Int32) (k : Nat) (v : Value) (r : List Value) : hz f k (v :: r) = (match v with
  | .int _ => .int (f k)
  | v => v) :: hz f (k + 1) r := by cases v <;> rfl
theorem hz_get (f : Nat → Int32) : ∀ (l : List Value) (k i : Nat), (hz f k l)[i]? = (l[i]?).map (fun v => match v with
  | .int _ => .int (f (k + i))
  | v => v)
  | [], _, _ => rfl
  | v :: r, k, 0 => by rw [hz_cons]; rfl
  | v :: r, k, i + 1 => by
    rw [hz_cons, List.getElem?_cons_succ, List.getElem?_cons_succ, hz_get f r (k + 1) i, Nat.add_assoc, Nat.add_comm 1 i]
theorem hz_len (f : Nat → Int32) : ∀ (l : List Value) (k : Nat), (hz f k l).length = l.length
  | [], _ => rfl
  | v :: r, k => by rw [hz_cons, List.length_cons, List.length_cons, hz_len f r (k + 1)]
theorem hz_setI (f : Nat → Int32) (x : Int32) : ∀ (l : List Value) (k i : Nat) (z : Int32), l[i]? = some (.int z) → (hz f k l).set i (.int x) = hz (fun j => if j = k + i then x else f j) k l
  | [], _, _, _, h => by cases h
  | v :: r, k, 0, z, h => by
    cases h
    rw [hz_cons, hz_cons]
    show Value.int x :: hz f (k + 1) r = Value.int (if k = k + 0 then x else f k) :: _
    rw [if_pos (show k = k + 0 from rfl)]
    congr 1
    have : ∀ (l : List Value) (m : Nat), k < m → hz f m l = hz (fun j => if j = k + 0 then x else f j) m l := by
      intro l
      induction l with
      | nil => intro m _; rfl
      | cons v r ih =>
        intro m hm
        rw [hz_cons, hz_cons, ih (m + 1) (by omega)]
        cases v with
        | int _ => dsimp only; rw [if_neg (by omega)]
        | _ => rfl
    exact this r (k + 1) (Nat.lt_succ_self k)
  | v :: r, k, i + 1, z, h => by
    rw [List.getElem?_cons_succ] at h
    rw [hz_cons, hz_cons, List.set_cons_succ, hz_setI f x r (k + 1) i z h, Nat.add_assoc, Nat.add_comm 1 i]
    cases v with
    | int _ => dsimp only; rw [if_neg (by omega)]
    | _ => rfl
theorem hz_setR (f : Nat → Int32) (w : Value) (hw : ∀ z, w ≠ .int z) : ∀ (l : List Value) (k i : Nat), (hz f k l).set i w = hz f k (l.set i w)
  | [], _, _ => rfl
  | v :: r, k, 0 => by
    rw [hz_cons, List.set_cons_zero, List.set_cons_zero, hz_cons]
    cases w with
    | int z => exact (hw z rfl).elim
    | _ => rfl
  | v :: r, k, i + 1 => by rw [hz_cons, List.set_cons_succ, List.set_cons_succ, hz_cons, hz_setR f w hw r (k + 1) i]
/-- a cell out of its shape: whole numbers (fields, elements) out of f, longs as a code -/
def hc (f : Nat → Int32) (N : Nat) (s : mm_C) : mm_C := match s with
  | .inl (1, n, _) => .inl (1, n, N)
  | .inl (t, n, _) => .inl (t, n, he_n f n)
  | .inr (.inl q) => .inr (.inl q)
  | .inr (.inr (ci, fs)) => .inr (.inr (ci, hz f 0 fs))
/-- values: by address and field or index; the codes of arrays of longs -/
abbrev hV : Type := (Nat → Nat → Int32) × (Nat → Nat)
def hp (V : hV) : Nat → List mm_C → mm_H
  | _, [] => []
  | a, s :: r => hc (V.1 a) (V.2 a) s :: hp V (a + 1) r
/-- the heap -/
abbrev hH (sh : List mm_C) (V : hV) : mm_H := hp V 64 sh
theorem hp_get (V : hV) : ∀ (sh : List mm_C) (a i : Nat), (hp V a sh)[i]? = (sh[i]?).map (hc (V.1 (a + i)) (V.2 (a + i)))
  | [], _, _ => rfl
  | s :: r, a, 0 => rfl
  | s :: r, a, i + 1 => by
    show (hp V (a + 1) r)[i]? = _
    rw [hp_get V r (a + 1) i, Nat.add_assoc, Nat.add_comm 1 i]
    rfl
theorem hp_len (V : hV) : ∀ (sh : List mm_C) (a : Nat), (hp V a sh).length = sh.length
  | [], _ => rfl
  | s :: r, a => by
    show (hp V (a + 1) r).length + 1 = _
    rw [hp_len V r (a + 1)]
    rfl
theorem hp_app (V : hV) : ∀ (sh : List mm_C) (a : Nat) (s : mm_C), hp V a (sh ++ [s]) = hp V a sh ++ [hc (V.1 (a + sh.length)) (V.2 (a + sh.length)) s]
  | [], a, s => rfl
  | t :: r, a, s => by
    show hc (V.1 a) (V.2 a) t :: hp V (a + 1) (r ++ [s]) = _
    rw [hp_app V r (a + 1) s, List.length_cons, Nat.add_assoc a 1, Nat.add_comm 1 r.length]
    rfl
theorem hp_congr {V W : hV} : ∀ (sh : List mm_C) (a : Nat), (∀ b, a ≤ b → b < a + sh.length → V.1 b = W.1 b ∧ V.2 b = W.2 b) → hp V a sh = hp W a sh
  | [], _, _ => rfl
  | s :: r, a, h => by
    show hc (V.1 a) (V.2 a) s :: hp V (a + 1) r = hc (W.1 a) (W.2 a) s :: hp W (a + 1) r
    rw [List.length_cons] at h
    obtain ⟨e1, e2⟩ := h a (Nat.le_refl a) (by omega)
    rw [e1, e2, hp_congr r (a + 1) fun b h1 h2 => h b (by omega) (by omega)]
/-- a value changed -/
def up (V : hV) (a k : Nat) (x : Int32) : hV := (fun b j => if b = a then (if j = k then x else V.1 a j) else V.1 b j, V.2)
def upB (V : hV) (a N : Nat) : hV := (V.1, fun b => if b = a then N else V.2 b)
theorem up_eq (V : hV) (a k : Nat) (x : Int32) : (up V a k x).1 a k = x := by unfold up; dsimp only; rw [if_pos rfl, if_pos rfl]
theorem up_ne (V : hV) {a k b j : Nat} (x : Int32) (h : b ≠ a ∨ j ≠ k) : (up V a k x).1 b j = V.1 b j := by
  unfold up
  dsimp only
  by_cases e : b = a
  · subst e
    rw [if_pos rfl, if_neg (h.resolve_left fun q => q rfl)]
  · rw [if_neg e]
theorem hp_set (V W : hV) : ∀ (sh : List mm_C) (a i : Nat) (s : mm_C), (∀ b, a ≤ b → b < a + sh.length → b ≠ a + i → V.1 b = W.1 b ∧ V.2 b = W.2 b) → (hp V a sh).set i (hc (W.1 (a + i)) (W.2 (a + i)) s) = hp W a (sh.set i s)
  | [], _, _, _, _ => rfl
  | t :: r, a, 0, s, h => by
    show hc (W.1 a) (W.2 a) s :: hp V (a + 1) r = hc (W.1 a) (W.2 a) s :: hp W (a + 1) r
    rw [List.length_cons] at h
    rw [hp_congr r (a + 1) fun b h1 h2 => h b (by omega) (by omega) (by omega)]
  | t :: r, a, i + 1, s, h => by
    show hc (V.1 a) (V.2 a) t :: (hp V (a + 1) r).set i (hc (W.1 (a + (i + 1))) (W.2 (a + (i + 1))) s) = hc (W.1 a) (W.2 a) t :: hp W (a + 1) (r.set i s)
    rw [List.length_cons] at h
    obtain ⟨e1, e2⟩ := h a (Nat.le_refl a) (by omega) (by omega)
    rw [e1, e2, show a + (i + 1) = a + 1 + i by omega, hp_set V W r (a + 1) i s fun b h1 h2 h3 => h b (by omega) (by omega) (by omega)]
theorem hl_set {α : Type} : ∀ (l : List α) (i : Nat) (x : α), l[i]? = some x → l.set i x = l
  | [], _, _, h => by cases h
  | y :: r, 0, x, h => by cases h; rfl
  | y :: r, i + 1, x, h => by rw [List.set_cons_succ, hl_set r i x h]
