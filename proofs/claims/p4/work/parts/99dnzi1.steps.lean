section N_zi
/-! ===== a formula on both sides: what stands between two steps ===== -/
theorem relF_top {s : Int32} {ws fo : hW} (h : ∀ x, ws[ws.length - 1]? = some x → ¬ x.1 ≤ s) : relF s ws.length ws fo = (ws, fo) := by
  obtain ⟨n, hn⟩ : ∃ n, ws.length = n := ⟨_, rfl⟩
  rw [hn] at h ⊢
  cases n with
  | zero => rfl
  | succ n =>
    rw [Nat.add_sub_cancel] at h
    unfold relF
    cases hx : ws[n]? with
    | none => rfl
    | some x => exact if_neg (h x hx)
theorem relF_pre {s : Int32} {ws : hW} (h : ∀ x, ws[ws.length - 1]? = some x → ¬ x.1 ≤ s) : ∀ (r fo : hW), (∀ x, x ∈ r → x.1 ≤ s) → relF s (ws ++ r.reverse).length (ws ++ r.reverse) fo = (ws, fo ++ r)
  | [], fo, _ => by
    rw [List.reverse_nil, List.append_nil, List.append_nil]
    exact relF_top h
  | x :: r, fo, hr => by
    have e : ws ++ (x :: r).reverse = (ws ++ r.reverse) ++ [x] := by rw [List.reverse_cons, List.append_assoc]
    rw [e, List.length_append, List.length_singleton]
    unfold relF
    rw [List.getElem?_append_right (Nat.le_refl _), Nat.sub_self]
    show (if x.1 ≤ s then _ else _) = _
    rw [if_pos (hr x (List.mem_cons_self)), List.take_left' rfl, relF_pre h r (fo ++ [x]) fun y hy => hr y (List.mem_cons_of_mem _ hy), List.append_assoc]
    rfl
theorem np_rev (ws : hW) : ∀ (r : hW), (∀ x, x ∈ r → x.1 ≤ 7) → npF (ws ++ r.reverse) = npF ws + r.length
  | [], _ => by rw [List.reverse_nil, List.append_nil]; rfl
  | x :: r, hr => by
    rw [List.reverse_cons, ← List.append_assoc, np_app, np_rev ws r fun y hy => hr y (List.mem_cons_of_mem _ hy), if_pos (hr x (List.mem_cons_self)), List.length_cons]
    omega
/-- a node made -/
theorem mk_q {bs m : Nat} {q : hQ} {kd a c : Int32} (h0 : er q.2.2.2 = 0) (hm : q.1 bs = Int32.ofNat m) (h60 : m < 60) : ∃ F' : Nat → Int32, mkQ bs q kd a c = (Int32.ofNat m, F', q.2) ∧ F' bs = Int32.ofNat (m + 1) ∧ F' (bs + 1 + 4 * m) = kd ∧ F' (bs + 1 + 4 * m + 1) = a ∧ F' (bs + 1 + 4 * m + 2) = c ∧ ∀ j, bs + 1 ≤ j → j < bs + 1 + 4 * m → F' j = q.1 j := by
  have hu : mm_un (q.1 bs) = m := by rw [hm]; exact i_un (by omega)
  have hR : mdF q.1 bs (er q.2.2.2) kd a c = (q.1 bs, fun j => if j = bs then q.1 bs + 1 else if j = bs + 1 + 4 * mm_un (q.1 bs) + 2 then c else if j = bs + 1 + 4 * mm_un (q.1 bs) + 1 then a else if j = bs + 1 + 4 * mm_un (q.1 bs) then kd else q.1 j) := if_pos ⟨h0, by rw [hu]; exact h60⟩
  rw [hu, hm, i_succ] at hR
  refine ⟨fun j => if j = bs then Int32.ofNat (m + 1) else if j = bs + 1 + 4 * m + 2 then c else if j = bs + 1 + 4 * m + 1 then a else if j = bs + 1 + 4 * m then kd else q.1 j, ?_, ?_, ?_, ?_, ?_, fun j j1 j2 => ?_⟩
  · unfold mkQ
    rw [hR]
  · exact if_pos rfl
  · dsimp only
    rw [if_neg (by omega), if_neg (by omega), if_neg (by omega), if_pos rfl]
  · dsimp only
    rw [if_neg (by omega), if_neg (by omega), if_pos rfl]
  · dsimp only
    rw [if_neg (by omega), if_pos rfl]
  · dsimp only
    rw [if_neg (by omega), if_neg (by omega), if_neg (by omega), if_neg (by omega)]
def OKX (pl : Bool) (x : Int32 × Int32) : Prop := (x.1 = 0 → mm_un x.2 < 5) ∧ (pl = true → x.1 = 0 ∨ x.1 = 1 ∨ x.1 = 6 ∨ x.1 = 7)
/-- both sides between two steps: r is what the reference has made and the class still holds -/
def CQ (f : Nat → Int32) (l bs : Nat) (pl : Bool) (t : hS) (q : hQ) (r : hW) (st : List Nat) : Prop := t.2.1 = false ∧ RE f l t.1 false q.2.2.2 ∧ t.2.2.2.2.1 = q.2.1 ∧ t.2.2.2.1 = q.2.2.1 ∧ INV t ∧ q.1 bs = Int32.ofNat (t.2.2.2.2.2.length + r.length) ∧ ndR q.1 bs (t.2.2.2.2.2 ++ r) [] 0 st ∧ (∀ x, x ∈ t.2.2.2.2.2 ++ r → OKX pl x) ∧ t.1 ≤ l
theorem cq_len {f : Nat → Int32} {l bs : Nat} {pl : Bool} {t : hS} {q : hQ} {r : hW} {st : List Nat} {base : hW} (h : CQ f l bs pl t q r st) (hw : t.2.2.1 = base ++ r.reverse) (hr : ∀ x, x ∈ r → x.1 ≤ 7) : npF base + t.2.2.2.2.2.length + r.length ≤ t.2.2.2.2.1 ∧ t.2.2.2.2.1 ≤ 60 := by
  obtain ⟨_, _, _, _, ⟨i1, i2, i3, i4⟩, _⟩ := h
  rw [hw, np_rev base r hr] at i3
  exact ⟨by omega, i2⟩
/-- the reference makes the node that the class holds lowest -/
theorem cq_mk {f : Nat → Int32} {l bs : Nat} {pl : Bool} {t : hS} {q : hQ} {r : hW} {st st' : List Nat} {x : Int32 × Int32} {a c : Int32} (h : CQ f l bs pl t q r st) (hm : t.2.2.2.2.2.length + r.length < 60) (hx : OKX pl x) (hS : ∀ F' : Nat → Int32, F' (bs + 1 + 4 * (t.2.2.2.2.2 ++ r).length) = kM x.1 → F' (bs + 1 + 4 * (t.2.2.2.2.2 ++ r).length + 1) = a → F' (bs + 1 + 4 * (t.2.2.2.2.2 ++ r).length + 2) = c → ndS F' bs x st (t.2.2.2.2.2 ++ r).length st') : CQ f l bs pl t (mkQ bs q (kM x.1) a c).2 (r ++ [x]) st' ∧ (mkQ bs q (kM x.1) a c).1 = Int32.ofNat (t.2.2.2.2.2 ++ r).length ∧ (mkQ bs q (kM x.1) a c).2.2 = q.2 := by
  obtain ⟨h1, h2, h3, h4, h5, h6, h7, h8, h9⟩ := h
  obtain ⟨F', e, f1, f2, f3, f4, f5⟩ := mk_q (kd := kM x.1) (a := a) (c := c) (h2.1.mpr rfl) h6 hm
  have el : (t.2.2.2.2.2 ++ r).length = t.2.2.2.2.2.length + r.length := List.length_append
  rw [e]
  rw [← el] at f1 f2 f3 f4 f5 ⊢
  refine ⟨⟨h1, h2, h3, h4, h5, ?_, ?_, fun y hy => ?_, h9⟩, rfl, rfl⟩
  · show F' bs = Int32.ofNat (t.2.2.2.2.2.length + (r ++ [x]).length)
    rw [List.length_append, List.length_singleton, ← Nat.add_assoc, ← el]
    exact f1
  · rw [← List.append_assoc]
    exact ndR_one h7 f5 (hS F' f2 f3 f4)
  · rw [← List.append_assoc] at hy
    rcases List.mem_append.mp hy with z | z
    · exact h8 y z
    · rw [List.mem_singleton.mp z]
      exact hx
end N_zi
