/-! ===== what the mini machine's cells and values stand for ===== -/
abbrev mm_G : Type := Nat × (Nat → Option Nat) × va_G × (Nat → ClassId)
def mm_ad (G : mm_G) (k : Nat) : Option Nat := if k < 64 then G.2.1 k else some (G.1 + (k - 64))
def mm_dn (G : mm_G) (v : Value) : Value := match v with
  | .ref k => va_rf (mm_ad G k)
  | v => v
def mm_fn (t N : Nat) : (Nat → Int32) ⊕ (Nat → Int64) ⊕ (Nat → UInt32) ⊕ (Nat → UInt64) ⊕ (Nat → Option Nat) := match t with
  | 1 => .inr (.inl (fun j => Int64.ofNat (mm_ag 64 N j)))
  | _ => .inl (fun j => Int32.ofNat (mm_ag 32 N j))
def mm_dE (G : mm_G) (c : mm_C) : va_E := match c with
  | .inl (t, n, N) => .inl (G.2.2.2 t, (n, mm_fn t N))
  | .inr (.inl (t, rs)) => .inl (G.2.2.2 t, (rs.length, .inr (.inr (.inr (.inr (fun j => (rs.getD j none).bind (mm_ad G)))))))
  | .inr (.inr (ci, fs)) => .inr (ci, fs.map (mm_dn G))
def mm_ws (G : mm_G) (h : mm_H) : va_W := h.mapIdx fun i c => (G.1 + i, mm_dE G c)
def mm_tys (G : mm_G) : List (ClassId × FieldType) := [(G.2.2.2 0, .int), (G.2.2.2 1, .long), (G.2.2.2 2, .byte), (G.2.2.2 3, .object "WhoKnows$State"), (G.2.2.2 4, .object "WhoKnows$Order")]
def mm_W (G : mm_G) (h : mm_H) (H : Heap) : Prop := va_P G.2.2.1 mm_cl (mm_ws G h) H ∧ H.size = G.1 + h.length
def mm_Ar (G : mm_G) : Nat → Prop := fun q => G.1 ≤ q
theorem mm_ws_get (G : mm_G) (h : mm_H) (i : Nat) : (mm_ws G h)[i]? = (h[i]?).map fun c => (G.1 + i, mm_dE G c) := by
  unfold mm_ws
  rw [List.getElem?_mapIdx]
theorem mm_ws_set (G : mm_G) (h : mm_H) (k : Nat) (c : mm_C) : mm_ws G (h.set k c) = (mm_ws G h).set k (G.1 + k, mm_dE G c) := by
  apply List.ext_getElem?
  intro i
  rw [mm_ws_get, List.getElem?_set, List.getElem?_set, mm_ws_get]
  have hl : (mm_ws G h).length = h.length := by simp [mm_ws]
  rw [hl]
  by_cases e : k = i
  · subst e
    by_cases e2 : k < h.length
    · simp [e2]
    · simp [e2]
  · simp [e]
theorem mm_ws_push (G : mm_G) (h : mm_H) (c : mm_C) : mm_ws G (h ++ [c]) = mm_ws G h ++ [(G.1 + h.length, mm_dE G c)] := by
  unfold mm_ws
  simp [List.mapIdx_append]
theorem mm_D (G : mm_G) (h : mm_H) : va_D (mm_Ar G) (mm_ws G h) := by
  refine ⟨fun i j p q hi hj e => ?_, fun k q hk => ?_⟩
  · rw [mm_ws_get] at hi hj
    cases a : h[i]? with
    | none => rw [a] at hi; cases hi
    | some x =>
      cases b : h[j]? with
      | none => rw [b] at hj; cases hj
      | some y =>
        rw [a] at hi; rw [b] at hj
        cases hi; cases hj
        have e : G.1 + i = G.1 + j := e
        omega
  · rw [mm_ws_get] at hk
    cases a : h[k]? with
    | none => rw [a] at hk; cases hk
    | some x =>
      rw [a] at hk; cases hk
      exact Nat.le_add_right _ _
theorem mm_cat (G : mm_G) (v : Value) : (mm_dn G v).category = v.category := by
  cases v with
  | ref k =>
    show (va_rf (mm_ad G k)).category = 1
    cases mm_ad G k <;> rfl
  | _ => rfl
theorem mm_cat2_iff (v : Value) : mm_cat2 v = true ↔ v.category = 2 := by
  cases v <;> simp [mm_cat2, Value.category]
/-! locals -/
def mm_al (G : mm_G) : Nat → mm_L → List (Nat × Value)
  | _, [] => []
  | i, some v :: r => (i, mm_dn G v) :: mm_al G (i + 1) r
  | i, none :: r => mm_al G (i + 1) r
theorem mm_al_mem (G : mm_G) : ∀ (L : mm_L) (k : Nat) (q : Nat × Value), q ∈ mm_al G k L ↔ ∃ j v, q = (k + j, mm_dn G v) ∧ L[j]? = some (some v)
  | [], k, q => by simp [mm_al]
  | some v :: r, k, q => by
    rw [mm_al, List.mem_cons, mm_al_mem G r (k + 1) q]
    constructor
    · rintro (rfl | ⟨j, w, rfl, hw⟩)
      · exact ⟨0, v, rfl, rfl⟩
      · exact ⟨j + 1, w, by rw [Nat.add_assoc, Nat.add_comm 1 j], hw⟩
    · rintro ⟨j, w, rfl, hw⟩
      cases j with
      | zero => cases hw; exact Or.inl rfl
      | succ j => exact Or.inr ⟨j, w, by rw [Nat.add_assoc, Nat.add_comm 1 j], hw⟩
  | none :: r, k, q => by
    rw [mm_al, mm_al_mem G r (k + 1) q]
    constructor
    · rintro ⟨j, w, rfl, hw⟩
      exact ⟨j + 1, w, by rw [Nat.add_assoc, Nat.add_comm 1 j], hw⟩
    · rintro ⟨j, w, rfl, hw⟩
      cases j with
      | zero => cases hw
      | succ j => exact ⟨j, w, by rw [Nat.add_assoc, Nat.add_comm 1 j], hw⟩
def mm_LH (G : mm_G) (ls : Array Slot) (L : mm_L) : Prop := lv_has ls L.length (mm_al G 0 L)
theorem mm_get_at {G : mm_G} {ls : Array Slot} {L : mm_L} (h : mm_LH G ls L) {i : Nat} {v : Value} (hv : mm_get L i = some v) : ls[i]? = some (.val (mm_dn G v)) := by
  refine h.2.2 (i, mm_dn G v) ((mm_al_mem G L 0 _).mpr ⟨i, v, by rw [Nat.zero_add], ?_⟩)
  unfold mm_get at hv
  cases hL : L[i]? with
  | none => rw [hL] at hv; cases hv
  | some o =>
    rw [hL] at hv
    have hv : o = some v := hv
    rw [hv]
theorem mm_kill_len (L : mm_L) (i : Nat) : (mm_kill L i).length = L.length := by
  cases i with
  | zero => rfl
  | succ k =>
    simp only [mm_kill]
    split
    · split <;> simp
    · rfl
/-- what a store of one place keeps -/
theorem mm_set1_keep {L L' : mm_L} {i : Nat} {v : Value} (h : mm_set1 L i v = some L') : i < L.length ∧ L'.length = L.length ∧ ∀ j w, L'[j]? = some (some w) → (j = i ∧ w = v) ∨ (j ≠ i ∧ L[j]? = some (some w) ∧ ¬ (j + 1 = i ∧ mm_cat2 w = true)) := by
  unfold mm_set1 at h
  split at h
  · rename_i hi
    cases h
    refine ⟨hi, by rw [List.length_set, mm_kill_len], fun j w hw => ?_⟩
    rw [List.getElem?_set, mm_kill_len] at hw
    by_cases e : i = j
    · subst e
      rw [if_pos rfl, if_pos hi] at hw
      cases hw
      exact Or.inl ⟨rfl, rfl⟩
    · rw [if_neg e] at hw
      refine Or.inr ⟨fun q => e q.symm, ?_⟩
      cases i with
      | zero => exact ⟨hw, fun q => by omega⟩
      | succ k =>
        simp only [mm_kill] at hw
        cases hg : mm_get L k with
        | none =>
          rw [hg] at hw
          refine ⟨hw, fun q => ?_⟩
          have : j = k := by omega
          subst this
          have hw : L[j]? = some (some w) := hw
          simp [mm_get, hw] at hg
        | some u =>
          rw [hg] at hw
          dsimp only at hw
          by_cases c : mm_cat2 u = true
          · rw [if_pos c, List.getElem?_set] at hw
            by_cases e3 : k = j
            · subst e3
              rw [if_pos rfl] at hw
              split at hw <;> cases hw
            · rw [if_neg e3] at hw
              exact ⟨hw, fun q => by omega⟩
          · rw [if_neg c] at hw
            refine ⟨hw, fun q => ?_⟩
            have : j = k := by omega
            subst this
            simp [mm_get, hw] at hg
            rw [hg] at q
            exact c q.2
  · cases h
theorem mm_set2_keep {L L' : mm_L} {i : Nat} {v : Value} (h : mm_set2 L i v = some L') : i + 1 < L.length ∧ L'.length = L.length ∧ ∀ j w, L'[j]? = some (some w) → (j = i ∧ w = v) ∨ (j ≠ i ∧ j ≠ i + 1 ∧ L[j]? = some (some w) ∧ ¬ (j + 1 = i ∧ mm_cat2 w = true)) := by
  unfold mm_set2 at h
  split at h
  · rename_i hi
    cases h
    have h1 : mm_set1 L i v = some ((mm_kill L i).set i (some v)) := by
      unfold mm_set1
      rw [if_pos (by omega)]
    obtain ⟨a, b, c⟩ := mm_set1_keep h1
    refine ⟨hi, by rw [List.length_set, b], fun j w hw => ?_⟩
    rw [List.getElem?_set] at hw
    by_cases e : i + 1 = j
    · rw [if_pos e] at hw
      split at hw <;> cases hw
    · rw [if_neg e] at hw
      rcases c j w hw with q | ⟨q1, q2, q3⟩
      · exact Or.inl q
      · exact Or.inr ⟨q1, fun q => e q.symm, q2, q3⟩
  · cases h
theorem mm_LH1 {G : mm_G} {ls' : Array Slot} {L L' : mm_L} {i : Nat} {v : Value} (hs : mm_set1 L i v = some L') (h : lv_has ls' L.length ((i, mm_dn G v) :: (mm_al G 0 L).filter (fun q => !(q.1 == i) && !(q.1 + 1 == i && q.2.category == 2)))) : mm_LH G ls' L' := by
  obtain ⟨a, b, c⟩ := mm_set1_keep hs
  refine ⟨by rw [b]; exact h.1, h.2.1, fun q hq => ?_⟩
  obtain ⟨j, w, rfl, hw⟩ := (mm_al_mem G L' 0 q).mp hq
  rw [Nat.zero_add]
  rcases c j w hw with ⟨rfl, rfl⟩ | ⟨e1, e2, e3⟩
  · exact h.2.2 _ List.mem_cons_self
  · refine h.2.2 (j, mm_dn G w) (List.mem_cons_of_mem _ (List.mem_filter.mpr ⟨(mm_al_mem G L 0 _).mpr ⟨j, w, by rw [Nat.zero_add], e2⟩, ?_⟩))
    rw [mm_cat2_iff] at e3
    simp only [mm_cat]
    simp
    exact ⟨e1, Decidable.not_and_iff_not_or_not.mp e3⟩
theorem mm_LH2 {G : mm_G} {ls' : Array Slot} {L L' : mm_L} {i : Nat} {v : Value} (hs : mm_set2 L i v = some L') (h : lv_has ls' L.length ((i, mm_dn G v) :: (mm_al G 0 L).filter (fun q => !(q.1 == i) && (!(q.1 == i + 1) && !(q.1 + 1 == i && q.2.category == 2))))) : mm_LH G ls' L' := by
  obtain ⟨a, b, c⟩ := mm_set2_keep hs
  refine ⟨by rw [b]; exact h.1, h.2.1, fun q hq => ?_⟩
  obtain ⟨j, w, rfl, hw⟩ := (mm_al_mem G L' 0 q).mp hq
  rw [Nat.zero_add]
  rcases c j w hw with ⟨rfl, rfl⟩ | ⟨e1, e0, e2, e3⟩
  · exact h.2.2 _ List.mem_cons_self
  · refine h.2.2 (j, mm_dn G w) (List.mem_cons_of_mem _ (List.mem_filter.mpr ⟨(mm_al_mem G L 0 _).mpr ⟨j, w, by rw [Nat.zero_add], e2⟩, ?_⟩))
    rw [mm_cat2_iff] at e3
    simp only [mm_cat]
    simp
    exact ⟨e1, e0, Decidable.not_and_iff_not_or_not.mp e3⟩
