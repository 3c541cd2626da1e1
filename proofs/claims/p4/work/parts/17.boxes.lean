/-! ===== the mini machine over boxes: an int of the script may be a name for any number of a range ===== -/
/-- doubles are names of longs; ranges of names (by mm_sn); 'and' of a name and a number; the script's ints; its length -/
abbrev my_E : Type := Bool × (List (Nat × Nat × Nat) × (List (Nat × Nat × Value) × (List Value × Option Nat)))
def my_iv (l : List (Nat × Nat × Nat)) (t : Nat) : Option (Nat × Nat) := match l with
  | [] => none
  | q :: r => match Nat.beq q.1 t with
    | true => some q.2
    | false => my_iv r t
def my_ru (l : List (Nat × Nat × Value)) (t c : Nat) : Option Value := match l with
  | [] => none
  | q :: r => match Nat.beq q.1 t && Nat.beq q.2.1 c with
    | true => some q.2.2
    | false => my_ru r t c
def my_pl (v : Value) : Bool := match v with
  | .retAddr _ => false
  | .double _ => false
  | _ => true
def my_nt (c : mm_C) : Bool := match c with
  | .inl (t, _, _) => !(Nat.ble 10 t)
  | _ => true
/-- instructions that make or take doubles -/
def my_db (i : Instr) : Bool := match i with
  | .dload _ => true
  | .dload_n _ => true
  | .dstore _ => true
  | .dconst _ => true
  | .i2d => true
  | .f2d => true
  | .ddiv => true
  | .dcmp _ => true
  | _ => false
def my_nw (i : Instr) : Bool := match i with
  | .newarray _ => true
  | _ => false
section MY
variable {md : Bool} {xs : Nat → Int32}
def my_vr (md : Bool) (xs : Nat → Int32) (v w : Value) : Prop := match v with
  | .retAddr t => match t with
    | 0 => ∃ x, w = .int x
    | k + 1 => w = .int (xs k)
  | .double b => if md = true then w = .long (xs b.toNat).toInt64 else w = .double b
  | v => w = v
def my_fr {α β : Type} (R : α → β → Prop) : List α → List β → Prop
  | [], [] => True
  | a :: r, b :: q => R a b ∧ my_fr R r q
  | _, _ => False
def my_or (md : Bool) (xs : Nat → Int32) (o o' : Option Value) : Prop := match o with
  | none => o' = none
  | some v => ∃ w, o' = some w ∧ my_vr md xs v w
abbrev my_sr (md : Bool) (xs : Nat → Int32) : List Value → List Value → Prop := my_fr (my_vr md xs)
abbrev my_lr (md : Bool) (xs : Nat → Int32) : mm_L → mm_L → Prop := my_fr (my_or md xs)
def my_cr (c c' : mm_C) : Prop := match c with
  | .inl (t, n, N) => if 10 ≤ t then ∃ M, c' = .inl (t - 10, n, M) else c' = .inl (t, n, N)
  | c => c' = c
abbrev my_hr : mm_H → mm_H → Prop := my_fr my_cr
def my_op (op op' : Option ((Nat × mm_C) ⊕ mm_C)) : Prop := match op with
  | none => op' = none
  | some (.inl (k, c)) => ∃ c', op' = some (.inl (k, c')) ∧ my_cr c c'
  | some (.inr c) => ∃ c', op' = some (.inr c') ∧ my_cr c c'
def my_ar (md : Bool) (xs : Nat → Int32) (a a' : mm_A) : Prop := match a with
  | .inl (pc, L, st, op) => ∃ L' st' op', a' = .inl (pc, L', st', op') ∧ my_lr md xs L L' ∧ my_sr md xs st st' ∧ my_op op op'
  | .inr (.inl (j, as, r)) => ∃ as' r', a' = .inr (.inl (j, as', r')) ∧ my_sr md xs as as' ∧ my_sr md xs r r'
  | .inr (.inr q) => a' = .inr (.inr q)
theorem my_fr_len {α β : Type} {R : α → β → Prop} : ∀ {l : List α} {l' : List β}, my_fr R l l' → l'.length = l.length
  | [], [], _ => rfl
  | _ :: r, _ :: q, h => by rw [List.length_cons, List.length_cons, my_fr_len (l := r) (l' := q) h.2]
  | [], _ :: _, h => h.elim
  | _ :: _, [], h => h.elim
theorem my_fr_get {α β : Type} {R : α → β → Prop} : ∀ {l : List α} {l' : List β}, my_fr R l l' → ∀ {i : Nat} {a : α}, l[i]? = some a → ∃ b, l'[i]? = some b ∧ R a b
  | [], [], _, i, a, h => by cases h
  | x :: r, y :: q, h, 0, a, e => by cases e; exact ⟨y, rfl, h.1⟩
  | x :: r, y :: q, h, i + 1, a, e => my_fr_get (l := r) (l' := q) h.2 (i := i) e
  | [], _ :: _, h, _, _, _ => h.elim
  | _ :: _, [], h, _, _, _ => h.elim
theorem my_fr_set {α β : Type} {R : α → β → Prop} {a : α} {b : β} (hab : R a b) : ∀ {l : List α} {l' : List β}, my_fr R l l' → ∀ i, my_fr R (l.set i a) (l'.set i b)
  | [], [], _, _ => trivial
  | x :: r, y :: q, h, 0 => ⟨hab, h.2⟩
  | x :: r, y :: q, h, i + 1 => ⟨h.1, my_fr_set hab h.2 i⟩
  | [], _ :: _, h, _ => h.elim
  | _ :: _, [], h, _ => h.elim
theorem my_fr_app {α β : Type} {R : α → β → Prop} {k : List α} {k' : List β} (hk : my_fr R k k') : ∀ {l : List α} {l' : List β}, my_fr R l l' → my_fr R (l ++ k) (l' ++ k')
  | [], [], _ => hk
  | x :: r, y :: q, h => ⟨h.1, my_fr_app hk (l := r) (l' := q) h.2⟩
  | [], _ :: _, h => h.elim
  | _ :: _, [], h => h.elim
theorem my_fr_take {α β : Type} {R : α → β → Prop} : ∀ {l : List α} {l' : List β}, my_fr R l l' → ∀ i, my_fr R (l.take i) (l'.take i)
  | [], [], _, i => by simp [my_fr]
  | x :: r, y :: q, h, 0 => trivial
  | x :: r, y :: q, h, i + 1 => ⟨h.1, my_fr_take (l := r) (l' := q) h.2 i⟩
  | [], _ :: _, h, _ => h.elim
  | _ :: _, [], h, _ => h.elim
theorem my_fr_drop {α β : Type} {R : α → β → Prop} : ∀ {l : List α} {l' : List β}, my_fr R l l' → ∀ i, my_fr R (l.drop i) (l'.drop i)
  | [], [], _, i => by simp [my_fr]
  | x :: r, y :: q, h, 0 => h
  | x :: r, y :: q, h, i + 1 => my_fr_drop (l := r) (l' := q) h.2 i
  | [], _ :: _, h, _ => h.elim
  | _ :: _, [], h, _ => h.elim
theorem my_fr_rev {α β : Type} {R : α → β → Prop} : ∀ {l : List α} {l' : List β}, my_fr R l l' → my_fr R l.reverse l'.reverse
  | [], [], _ => trivial
  | x :: r, y :: q, h => by
    rw [List.reverse_cons, List.reverse_cons]
    exact my_fr_app (k := [x]) (k' := [y]) ⟨h.1, trivial⟩ (my_fr_rev (l := r) (l' := q) h.2)
  | [], _ :: _, h => h.elim
  | _ :: _, [], h => h.elim
theorem my_fr_rep {α β : Type} {R : α → β → Prop} {a : α} {b : β} (h : R a b) : ∀ n, my_fr R (List.replicate n a) (List.replicate n b)
  | 0 => trivial
  | n + 1 => ⟨h, my_fr_rep h n⟩
theorem my_fr_rfl {α : Type} {R : α → α → Prop} : ∀ (l : List α), (∀ a ∈ l, R a a) → my_fr R l l
  | [], _ => trivial
  | a :: r, h => ⟨h a List.mem_cons_self, my_fr_rfl r fun b hb => h b (List.mem_cons_of_mem _ hb)⟩
theorem my_fr_none {α β : Type} {R : α → β → Prop} {l : List α} {l' : List β} (h : my_fr R l l') {i : Nat} (e : l[i]? = none) : l'[i]? = none := by
  rw [List.getElem?_eq_none_iff] at e ⊢
  rw [my_fr_len h]
  exact e
theorem my_cons {α β : Type} {R : α → β → Prop} {a : α} {l : List α} {l' : List β} (h : my_fr R (a :: l) l') : ∃ b q, l' = b :: q ∧ R a b ∧ my_fr R l q := by
  cases l' with
  | nil => exact h.elim
  | cons b q => exact ⟨b, q, rfl, h.1, h.2⟩
theorem my_cI {x : Int32} {l l' : List Value} (h : my_sr md xs (.int x :: l) l') : ∃ q, l' = .int x :: q ∧ my_sr md xs l q := by
  obtain ⟨b, q, e1, e2, e3⟩ := my_cons h
  have e2 : b = .int x := e2
  exact ⟨q, by rw [e1, e2], e3⟩
theorem my_cL {x : Int64} {l l' : List Value} (h : my_sr md xs (.long x :: l) l') : ∃ q, l' = .long x :: q ∧ my_sr md xs l q := by
  obtain ⟨b, q, e1, e2, e3⟩ := my_cons h
  have e2 : b = .long x := e2
  exact ⟨q, by rw [e1, e2], e3⟩
theorem my_cF {x : UInt32} {l l' : List Value} (h : my_sr md xs (.float x :: l) l') : ∃ q, l' = .float x :: q ∧ my_sr md xs l q := by
  obtain ⟨b, q, e1, e2, e3⟩ := my_cons h
  have e2 : b = .float x := e2
  exact ⟨q, by rw [e1, e2], e3⟩
theorem my_cD (hmd : md = false) {x : UInt64} {l l' : List Value} (h : my_sr md xs (.double x :: l) l') : ∃ q, l' = .double x :: q ∧ my_sr md xs l q := by
  obtain ⟨b, q, e1, e2, e3⟩ := my_cons h
  subst hmd
  have e2 : b = .double x := e2
  exact ⟨q, by rw [e1, e2], e3⟩
theorem my_cA {x : Nat} {l l' : List Value} (h : my_sr md xs (.ref x :: l) l') : ∃ q, l' = .ref x :: q ∧ my_sr md xs l q := by
  obtain ⟨b, q, e1, e2, e3⟩ := my_cons h
  have e2 : b = .ref x := e2
  exact ⟨q, by rw [e1, e2], e3⟩
theorem my_cN {l l' : List Value} (h : my_sr md xs (.null :: l) l') : ∃ q, l' = .null :: q ∧ my_sr md xs l q := by
  obtain ⟨b, q, e1, e2, e3⟩ := my_cons h
  have e2 : b = .null := e2
  exact ⟨q, by rw [e1, e2], e3⟩
theorem my_vD {b : UInt64} (hmd : md = false) : my_vr md xs (.double b) (.double b) := by
  subst hmd
  exact rfl
theorem my_cat {v u : Value} (h : my_vr md xs v u) : mm_cat2 u = mm_cat2 v := by
  cases v with
  | retAddr t =>
    cases t with
    | zero => obtain ⟨x, rfl⟩ := h; rfl
    | succ k => have h : u = .int (xs k) := h; subst h; rfl
  | double b =>
    cases md with
    | true => have h : u = .long (xs b.toNat).toInt64 := h; subst h; rfl
    | false => have h : u = .double b := h; subst h; rfl
  | int x => have h : u = .int x := h; subst h; rfl
  | long x => have h : u = .long x := h; subst h; rfl
  | float x => have h : u = .float x := h; subst h; rfl
  | null => have h : u = .null := h; subst h; rfl
  | ref x => have h : u = .ref x := h; subst h; rfl
theorem my_plE {v u : Value} (hp : my_pl v = true) (h : my_vr md xs v u) : u = v := by
  cases v <;> first | exact h | cases hp
theorem my_plR {v : Value} (hp : my_pl v = true) : my_vr md xs v v := by
  cases v <;> first | exact rfl | cases hp
theorem my_fit {ty : FieldType} {v u : Value} (hf : mm_fit ty v = true) (h : my_vr md xs v u) : u = v := by
  refine my_plE ?_ h
  cases v with
  | retAddr t => cases ty <;> cases hf
  | double t => cases ty <;> cases hf
  | _ => rfl
theorem my_okI (v u : Value) (h : my_vr md xs v u) (hk : mm_isI v = true) : mm_isI u = true := by
  obtain ⟨x, rfl⟩ := mi_isI hk
  have h : u = .int x := h
  subst h
  rfl
theorem my_okL (v u : Value) (h : my_vr md xs v u) (hk : mm_isL v = true) : mm_isL u = true := by
  obtain ⟨x, rfl⟩ := mi_isL hk
  have h : u = .long x := h
  subst h
  rfl
theorem my_okA (v u : Value) (h : my_vr md xs v u) (hk : mm_isA v = true) : mm_isA u = true := by
  cases v with
  | ref k => have h : u = .ref k := h; subst h; rfl
  | null => have h : u = .null := h; subst h; rfl
  | _ => cases hk
theorem my_okD (hmd : md = false) (v u : Value) (h : my_vr md xs v u) (hk : mm_isD v = true) : mm_isD u = true := by
  obtain ⟨x, rfl⟩ := mi_isD hk
  subst hmd
  have h : u = .double x := h
  subst h
  rfl
theorem my_get {L L' : mm_L} (h : my_lr md xs L L') {i : Nat} {v : Value} (e : mm_get L i = some v) : ∃ u, mm_get L' i = some u ∧ my_vr md xs v u := by
  unfold mm_get at e ⊢
  cases hL : L[i]? with
  | none => rw [hL] at e; cases e
  | some q =>
    rw [hL] at e
    have e : q = some v := e
    subst e
    obtain ⟨b, e1, u, e2, e3⟩ := my_fr_get h hL
    rw [e1]
    exact ⟨u, e2, e3⟩
theorem my_get0 {L L' : mm_L} (h : my_lr md xs L L') {i : Nat} (e : mm_get L i = none) : mm_get L' i = none := by
  unfold mm_get at e ⊢
  cases hL : L[i]? with
  | none => rw [my_fr_none h hL]
  | some q =>
    rw [hL] at e
    have e : q = none := e
    subst e
    obtain ⟨b, e1, e2⟩ := my_fr_get h hL
    have e2 : b = none := e2
    subst e2
    rw [e1]
theorem my_kill {L L' : mm_L} (h : my_lr md xs L L') (i : Nat) : my_lr md xs (mm_kill L i) (mm_kill L' i) := by
  cases i with
  | zero => exact h
  | succ k =>
    simp only [mm_kill]
    cases hg : mm_get L k with
    | none => rw [my_get0 h hg]; exact h
    | some v =>
      obtain ⟨u, e1, e2⟩ := my_get h hg
      rw [e1]
      dsimp only
      rw [my_cat e2]
      split
      · exact my_fr_set (R := my_or md xs) (a := none) (b := none) rfl h k
      · exact h
theorem my_set1 {L L' L1 : mm_L} (h : my_lr md xs L L') {i : Nat} {v u : Value} (hs : mm_set1 L i v = some L1) (hv : my_vr md xs v u) : ∃ L2, mm_set1 L' i u = some L2 ∧ my_lr md xs L1 L2 := by
  unfold mm_set1 at hs ⊢
  split at hs
  · rename_i hi
    cases hs
    rw [my_fr_len h, if_pos hi]
    exact ⟨_, rfl, my_fr_set (R := my_or md xs) (a := some v) (b := some u) ⟨u, rfl, hv⟩ (my_kill h i) i⟩
  · cases hs
theorem my_set2 {L L' L1 : mm_L} (h : my_lr md xs L L') {i : Nat} {v u : Value} (hs : mm_set2 L i v = some L1) (hv : my_vr md xs v u) : ∃ L2, mm_set2 L' i u = some L2 ∧ my_lr md xs L1 L2 := by
  unfold mm_set2 at hs ⊢
  split at hs
  · rename_i hi
    cases hs
    rw [my_fr_len h, if_pos hi]
    exact ⟨_, rfl, my_fr_set (R := my_or md xs) (a := none) (b := none) rfl (my_fr_set (R := my_or md xs) (a := some v) (b := some u) ⟨u, rfl, hv⟩ (my_kill h i) i) (i + 1)⟩
  · cases hs
theorem my_nt_eq {c c' : mm_C} (hn : my_nt c = true) (h : my_cr c c') : c' = c := by
  match c, hn, h with
  | .inl (t, n, N), hn, h =>
    unfold my_nt at hn
    rw [Bool.not_eq_true', ← Bool.not_eq_true, Nat.ble_eq] at hn
    unfold my_cr at h
    dsimp only at h
    rw [if_neg hn] at h
    exact h
  | .inr (.inl q), hn, h => exact h
  | .inr (.inr q), hn, h => exact h
theorem my_nt_rfl {c : mm_C} (hn : my_nt c = true) : my_cr c c := by
  match c, hn with
  | .inl (t, n, N), hn =>
    unfold my_nt at hn
    rw [Bool.not_eq_true', ← Bool.not_eq_true, Nat.ble_eq] at hn
    unfold my_cr
    dsimp only
    rw [if_neg hn]
  | .inr (.inl q), hn => exact rfl
  | .inr (.inr q), hn => exact rfl
theorem my_nt_rf {t n N : Nat} (h : Nat.ble t 9 = true) : my_cr (.inl (t, n, N)) (.inl (t, n, N)) := by
  refine my_nt_rfl ?_
  unfold my_nt
  rw [Nat.ble_eq] at h
  rw [Bool.not_eq_true', ← Bool.not_eq_true, Nat.ble_eq]
  omega
theorem my_sl {c c' : mm_C} (h : my_cr c c') : mm_sl c' = mm_sl c := by
  match c, h with
  | .inl (t, n, N), h =>
    unfold my_cr at h
    dsimp only at h
    split at h
    · obtain ⟨M, rfl⟩ := h; rfl
    · subst h; rfl
  | .inr (.inl q), h => have h : c' = .inr (.inl q) := h; subst h; rfl
  | .inr (.inr q), h => have h : c' = .inr (.inr q) := h; subst h; rfl
theorem my_sum : ∀ {h h' : mm_H}, my_hr h h' → mm_sum h' = mm_sum h
  | [], [], _ => rfl
  | c :: r, d :: q, h => by
    show mm_sl d + mm_sum q = mm_sl c + mm_sum r
    rw [my_sl h.1, my_sum (h := r) (h' := q) h.2]
  | [], _ :: _, h => h.elim
  | _ :: _, [], h => h.elim
variable {X X' : mm_X} {h h' : mm_H} {L L' : mm_L} {st st' : List Value} {nx pc : Nat} {ax : List Nat}
theorem my_rd (hX1 : X'.1 = X.1) (hXt : ∀ k c, X.1 k = some c → my_nt c = true) (hh : my_hr h h') {a : Nat} {c : mm_C} (e : mm_rd X.1 h a = some c) : ∃ c', mm_rd X'.1 h' a = some c' ∧ my_cr c c' := by
  rw [hX1]
  by_cases h64 : 64 ≤ a
  · rw [mm_rd_own h64] at e ⊢
    exact my_fr_get hh e
  · rw [mm_rd_ext h64] at e ⊢
    exact ⟨c, e, my_nt_rfl (hXt _ _ e)⟩
theorem my_prim (hX1 : X'.1 = X.1) (hXt : ∀ k c, X.1 k = some c → my_nt c = true) (hh : my_hr h h') {a t n N : Nat} (ht : Nat.ble t 9 = true) (e : mm_prim (mm_rd X.1 h a) t = some (n, N)) : mm_prim (mm_rd X'.1 h' a) t = some (n, N) := by
  have e1 := mm_prim_eq e
  obtain ⟨c, e2, e3⟩ := my_rd hX1 hXt hh e1
  rw [Nat.ble_eq] at ht
  have e4 := my_nt_eq (c := .inl (t, n, N)) (by unfold my_nt; rw [Bool.not_eq_true', ← Bool.not_eq_true, Nat.ble_eq]; omega) e3
  rw [e2, e4]
  unfold mm_prim
  dsimp only
  rw [show Nat.beq t t = true from Nat.beq_eq.mpr rfl]
theorem my_obj (hX1 : X'.1 = X.1) (hXt : ∀ k c, X.1 k = some c → my_nt c = true) (hh : my_hr h h') {a ci : Nat} {fs : List Value} (e : mm_obj (mm_rd X.1 h a) ci = some fs) : mm_obj (mm_rd X'.1 h' a) ci = some fs := by
  have e1 := mm_obj_eq e
  obtain ⟨c, e2, e3⟩ := my_rd hX1 hXt hh e1
  have e3 : c = .inr (.inr (ci, fs)) := e3
  rw [e2, e3]
  unfold mm_obj
  dsimp only
  rw [show Nat.beq ci ci = true from Nat.beq_eq.mpr rfl]
theorem my_recv (hX1 : X'.1 = X.1) (hXt : ∀ k c, X.1 k = some c → my_nt c = true) (hh : my_hr h h') {v : Option Value} {u : Option Value} (hv : ∀ a, v = some (.ref a) → u = some (.ref a)) {ci : Nat} (e : mm_recv X h v ci = true) : mm_recv X' h' u ci = true := by
  unfold mm_recv at e
  split at e
  · rename_i a
    rw [hv a rfl]
    unfold mm_recv
    dsimp only
    split at e
    · rename_i fs hf
      rw [my_obj hX1 hXt hh hf]
    · cases e
  · cases e
theorem my_recA (hX1 : X'.1 = X.1) (hXt : ∀ k c, X.1 k = some c → my_nt c = true) (hh : my_hr h h') {x y z : Bool} {t v : Nat} (e : (x && (y && (z && ((Nat.beq t 3 && mm_recv X h (some (.ref v)) 12) || (Nat.beq t 4 && mm_recv X h (some (.ref v)) 8))))) = true) : (x && (y && (z && ((Nat.beq t 3 && mm_recv X' h' (some (.ref v)) 12) || (Nat.beq t 4 && mm_recv X' h' (some (.ref v)) 8))))) = true := by
  simp only [Bool.and_eq_true, Bool.or_eq_true] at e ⊢
  obtain ⟨g1, g2, g3, g4⟩ := e
  refine ⟨g1, g2, g3, ?_⟩
  rcases g4 with ⟨k1, k2⟩ | ⟨k1, k2⟩
  · exact Or.inl ⟨k1, my_recv hX1 hXt hh (fun a q => q) k2⟩
  · exact Or.inr ⟨k1, my_recv hX1 hXt hh (fun a q => q) k2⟩
theorem my_goR (hl : my_lr md xs L L') (hst : my_sr md xs st st') {a : mm_A} (hs : mm_go nx L st = some a) : ∃ a', mm_go nx L' st' = some a' ∧ my_ar md xs a a' := by
  cases mi_go hs
  exact ⟨_, rfl, _, _, _, rfl, hl, hst, rfl⟩
theorem my_ldR {k : Nat} {ok : Value → Bool} (hok : ∀ v u, my_vr md xs v u → ok v = true → ok u = true) (hl : my_lr md xs L L') (hst : my_sr md xs st st') {a : mm_A} (hs : mm_ld nx L st k ok = some a) : ∃ a', mm_ld nx L' st' k ok = some a' ∧ my_ar md xs a a' := by
  obtain ⟨v, g1, g2, rfl⟩ := mi_ld hs
  obtain ⟨u, e1, e2⟩ := my_get hl g1
  unfold mm_ld
  rw [e1]
  dsimp only
  rw [if_pos (hok v u e2 g2)]
  exact ⟨_, rfl, _, _, _, rfl, hl, ⟨e2, hst⟩, rfl⟩
theorem my_s1R {k : Nat} {ok : Value → Bool} (hok : ∀ v u, my_vr md xs v u → ok v = true → ok u = true) (hl : my_lr md xs L L') (hst : my_sr md xs st st') {a : mm_A} (hs : mm_s1 nx L st k ok = some a) : ∃ a', mm_s1 nx L' st' k ok = some a' ∧ my_ar md xs a a' := by
  obtain ⟨v, r, L1, rfl, g2, g3, rfl⟩ := mi_s1 hs
  obtain ⟨u, q, rfl, e1, e2⟩ := my_cons hst
  obtain ⟨L2, e3, e4⟩ := my_set1 hl g3 e1
  unfold mm_s1
  dsimp only
  rw [if_pos (hok v u e1 g2), e3]
  exact ⟨_, rfl, _, _, _, rfl, e4, e2, rfl⟩
theorem my_s2R {k : Nat} {ok : Value → Bool} (hok : ∀ v u, my_vr md xs v u → ok v = true → ok u = true) (hl : my_lr md xs L L') (hst : my_sr md xs st st') {a : mm_A} (hs : mm_s2 nx L st k ok = some a) : ∃ a', mm_s2 nx L' st' k ok = some a' ∧ my_ar md xs a a' := by
  obtain ⟨v, r, L1, rfl, g2, g3, rfl⟩ := mi_s2 hs
  obtain ⟨u, q, rfl, e1, e2⟩ := my_cons hst
  obtain ⟨L2, e3, e4⟩ := my_set2 hl g3 e1
  unfold mm_s2
  dsimp only
  rw [if_pos (hok v u e1 g2), e3]
  exact ⟨_, rfl, _, _, _, rfl, e4, e2, rfl⟩
theorem my_i2R {f : Int32 → Int32 → Int32} (hl : my_lr md xs L L') (hst : my_sr md xs st st') {a : mm_A} (hs : mm_i2 nx L st f = some a) : ∃ a', mm_i2 nx L' st' f = some a' ∧ my_ar md xs a a' := by
  obtain ⟨x, y, r, rfl, rfl⟩ := mi_i2 hs
  obtain ⟨q0, rfl, hst0⟩ := my_cI hst
  obtain ⟨q1, rfl, hst1⟩ := my_cI hst0
  have e : mm_i2 nx L' (.int y :: .int x :: q1) f = some (.inl (nx, L', .int (f x y) :: q1, none)) := by
    unfold mm_i2
    dsimp only
    rw [mm_fI_eq]
    rfl
  exact ⟨_, e, L', .int (f x y) :: q1, none, rfl, hl, ⟨rfl, hst1⟩, rfl⟩
theorem my_i1R {f : Int32 → Int32} (hl : my_lr md xs L L') (hst : my_sr md xs st st') {a : mm_A} (hs : mm_i1 nx L st f = some a) : ∃ a', mm_i1 nx L' st' f = some a' ∧ my_ar md xs a a' := by
  obtain ⟨x, r, rfl, rfl⟩ := mi_i1 hs
  obtain ⟨q0, rfl, hst0⟩ := my_cI hst
  have e : mm_i1 nx L' (.int x :: q0) f = some (.inl (nx, L', .int (f x) :: q0, none)) := by
    unfold mm_i1
    dsimp only
    rw [mm_fI_eq]
    rfl
  exact ⟨_, e, L', .int (f x) :: q0, none, rfl, hl, ⟨rfl, hst0⟩, rfl⟩
theorem my_brR {b : Bool} (hl : my_lr md xs L L') (hst : my_sr md xs st st') {a : mm_A} (hs : mm_br nx L ax st b = some a) : ∃ a', mm_br nx L' ax st' b = some a' ∧ my_ar md xs a a' := by
  obtain ⟨t, rfl, ⟨rfl, rfl⟩ | ⟨rfl, rfl⟩⟩ := mi_br hs
  · exact ⟨_, rfl, _, _, _, rfl, hl, hst, rfl⟩
  · exact ⟨_, rfl, _, _, _, rfl, hl, hst, rfl⟩
theorem my_wrR {a : Nat} {c : mm_C} (hl : my_lr md xs L L') (hst : my_sr md xs st st') (hn : my_nt c = true) {q : mm_A} (hs : mm_wr nx L st a c = some q) : ∃ q', mm_wr nx L' st' a c = some q' ∧ my_ar md xs q q' := by
  obtain ⟨h64, rfl⟩ := mi_wr hs
  refine ⟨.inl (nx, L', st', some (.inl (a - 64, c))), ?_, L', st', some (.inl (a - 64, c)), rfl, hl, hst, c, rfl, my_nt_rfl hn⟩
  unfold mm_wr
  rw [show Nat.ble 64 a = true from Nat.ble_eq.mpr h64]
theorem my_mathR {mx : Bool} (hl : my_lr md xs L L') (hst : my_sr md xs st st') {a : mm_A} (hs : mm_math nx L st mx = some a) : ∃ a', mm_math nx L' st' mx = some a' ∧ my_ar md xs a a' := by
  have hs0 := hs
  obtain ⟨x, y, r, rfl, g1, g2⟩ := mi_math hs
  obtain ⟨q0, rfl, hst0⟩ := my_cI hst
  obtain ⟨q1, rfl, hst1⟩ := my_cI hst0
  unfold mm_math at hs ⊢
  dsimp only at hs ⊢
  rw [my_fr_len hst1]
  split at hs
  · rename_i hb
    try rw [hb]
    try dsimp only
    split at hs
    · rw [mm_fI_eq] at hs
      try dsimp only
      rw [mm_fI_eq]
      refine my_goR hl ?_ hs
      exact ⟨rfl, hst1⟩
    · rw [mm_fI_eq] at hs
      try dsimp only
      rw [mm_fI_eq]
      refine my_goR hl ?_ hs
      exact ⟨rfl, hst1⟩
  · cases hs
theorem my_copyiR (hX1 : X'.1 = X.1) (hXt : ∀ k c, X.1 k = some c → my_nt c = true) (hh : my_hr h h') (hl : my_lr md xs L L') (hst : my_sr md xs st st') {a : mm_A} (hs : mm_copyi X h nx L st = some a) : ∃ a', mm_copyi X' h' nx L' st' = some a' ∧ my_ar md xs a a' := by
  unfold mm_copyi at hs
  split at hs
  · rename_i n dp a1 sp a0 r
    obtain ⟨q0, rfl, hst0⟩ := my_cI hst
    obtain ⟨q1, rfl, hst1⟩ := my_cI hst0
    obtain ⟨q2, rfl, hst2⟩ := my_cA hst1
    obtain ⟨q3, rfl, hst3⟩ := my_cI hst2
    obtain ⟨q4, rfl, hst4⟩ := my_cA hst3
    unfold mm_copyi
    dsimp only
    split at hs
    · rename_i n0 N0 n1 N1 hp0 hp1
      rw [my_prim hX1 hXt hh (by decide) hp0, my_prim hX1 hXt hh (by decide) hp1]
      dsimp only
      rw [my_fr_len hst4]
      split at hs
      · rename_i hb
        try rw [hb]
        try dsimp only
        rw [mm_fN_eq] at hs ⊢
        exact my_wrR hl hst4 rfl hs
      · cases hs
    · cases hs
  · cases hs
theorem my_copybR (hX1 : X'.1 = X.1) (hXt : ∀ k c, X.1 k = some c → my_nt c = true) (hh : my_hr h h') (hl : my_lr md xs L L') (hst : my_sr md xs st st') {a : mm_A} (hs : mm_copyb X h nx L st = some a) : ∃ a', mm_copyb X' h' nx L' st' = some a' ∧ my_ar md xs a a' := by
  unfold mm_copyb at hs
  split at hs
  · rename_i n dp a1 sp a0 r
    obtain ⟨q0, rfl, hst0⟩ := my_cI hst
    obtain ⟨q1, rfl, hst1⟩ := my_cI hst0
    obtain ⟨q2, rfl, hst2⟩ := my_cA hst1
    obtain ⟨q3, rfl, hst3⟩ := my_cI hst2
    obtain ⟨q4, rfl, hst4⟩ := my_cA hst3
    unfold mm_copyb
    dsimp only
    split at hs
    · rename_i n0 N0 n1 N1 hp0 hp1
      rw [my_prim hX1 hXt hh (by decide) hp0, my_prim hX1 hXt hh (by decide) hp1]
      dsimp only
      rw [my_fr_len hst4]
      split at hs
      · rename_i hb
        try rw [hb]
        try dsimp only
        rw [mm_fN_eq] at hs ⊢
        exact my_wrR hl hst4 rfl hs
      · cases hs
    · cases hs
  · cases hs
theorem my_copyR (hX1 : X'.1 = X.1) (hXt : ∀ k c, X.1 k = some c → my_nt c = true) (hh : my_hr h h') (hl : my_lr md xs L L') (hst : my_sr md xs st st') {a : mm_A} (hs : mm_copy X h nx L st = some a) : ∃ a', mm_copy X' h' nx L' st' = some a' ∧ my_ar md xs a a' := by
  unfold mm_copy at hs
  split at hs
  · rename_i n dp a1 sp a0 r
    split at hs
    · rename_i q hq
      obtain ⟨a', e1, e2⟩ := my_copybR hX1 hXt hh hl hst hs
      obtain ⟨q0, rfl, hst0⟩ := my_cI hst
      obtain ⟨q1, rfl, hst1⟩ := my_cI hst0
      obtain ⟨q2, rfl, hst2⟩ := my_cA hst1
      obtain ⟨q3, rfl, hst3⟩ := my_cI hst2
      obtain ⟨q4, rfl, hst4⟩ := my_cA hst3
      refine ⟨a', ?_, e2⟩
      unfold mm_copy
      dsimp only
      obtain ⟨z1, z2⟩ := q
      rw [my_prim hX1 hXt hh (by decide) hq]
      exact e1
    · obtain ⟨a', e1, e2⟩ := my_copyiR hX1 hXt hh hl hst hs
      unfold mm_copyi at hs
      dsimp only at hs
      split at hs
      · rename_i n0 N0 n1 N1 hp0 hp1
        have hp2 := my_prim hX1 hXt hh (by decide) hp1
        obtain ⟨q0, rfl, hst0⟩ := my_cI hst
        obtain ⟨q1, rfl, hst1⟩ := my_cI hst0
        obtain ⟨q2, rfl, hst2⟩ := my_cA hst1
        obtain ⟨q3, rfl, hst3⟩ := my_cI hst2
        obtain ⟨q4, rfl, hst4⟩ := my_cA hst3
        refine ⟨a', ?_, e2⟩
        unfold mm_copy
        dsimp only
        rw [mm_prim_02 hp2]
        exact e1
      · cases hs
  · cases hs
theorem my_cs : ∀ {l l' : List Value}, my_sr md xs l l' → (l'.map fun v => match mm_cat2 v with
    | true => 2
    | false => 1).sum = (l.map fun v => match mm_cat2 v with
    | true => 2
    | false => 1).sum
  | [], [], _ => rfl
  | v :: r, w :: q, h => by
    rw [List.map_cons, List.map_cons, List.sum_cons, List.sum_cons, my_cat h.1, my_cs (l := r) (l' := q) h.2]
  | [], _ :: _, h => h.elim
  | _ :: _, [], h => h.elim
theorem my_rst {n : Nat} (h : my_sr md xs st st') : mm_rst st' n = mm_rst st n := by
  unfold mm_rst
  rw [my_fr_len h]
  exact congrArg (fun z => Nat.ble st.length (n + 4) || Nat.ble z 8) (my_cs (my_fr_drop h n))
theorem my_callR (hX1 : X'.1 = X.1) (hXt : ∀ k c, X.1 k = some c → my_nt c = true) (hh : my_hr h h') (hl : my_lr md xs L L') (hst : my_sr md xs st st') {a : mm_A} (hs : mm_call X h nx L st ax = some a) : ∃ a', mm_call X' h' nx L' st' ax = some a' ∧ my_ar md xs a a' := by
  unfold mm_call at hs
  split at hs
  · rename_i kd j n r
    have hv : ∀ q, st[n - 1]? = some (.ref q) → st'[n - 1]? = some (.ref q) := by
      intro q hq
      obtain ⟨b, e1, e2⟩ := my_fr_get hst hq
      have e2 : b = .ref q := e2
      rw [e1, e2]
    have hv0 : mm_recv0 (st[n - 1]?) = true → mm_recv0 (st'[n - 1]?) = true := by
      intro e
      unfold mm_recv0 at e
      split at e
      · rename_i q hq
        rw [hv q hq]
        exact e
      · cases e
    have hres : my_ar md xs (.inr (.inl (j, (st.take n).reverse, st.drop n))) (.inr (.inl (j, (st'.take n).reverse, st'.drop n))) := ⟨_, _, rfl, my_fr_rev (my_fr_take hst n), my_fr_drop hst n⟩
    unfold mm_call
    dsimp only
    rw [my_fr_len hst, my_rst hst]
    split at hs
    · cases hs
    · rename_i hb
      try rw [hb]
      try dsimp only
      split at hs
      · cases hs
      · split at hs
        · rename_i e
          cases hs
          try dsimp only
          rw [my_recv hX1 hXt hh hv e]
          exact ⟨_, rfl, hres⟩
        · cases hs
      · split at hs
        · rename_i e
          cases hs
          try dsimp only
          rw [my_recv hX1 hXt hh hv e]
          exact ⟨_, rfl, hres⟩
        · cases hs
      · split at hs
        · rename_i e
          cases hs
          try dsimp only
          rw [my_recv hX1 hXt hh hv e]
          exact ⟨_, rfl, hres⟩
        · cases hs
      · split at hs
        · rename_i e
          cases hs
          try dsimp only
          rw [my_recv hX1 hXt hh hv e]
          exact ⟨_, rfl, hres⟩
        · cases hs
      · split at hs
        · rename_i e
          cases hs
          try dsimp only
          rw [hv0 e]
          exact ⟨_, rfl, hres⟩
        · cases hs
      · split at hs
        · rename_i e
          cases hs
          try dsimp only
          rw [hv0 e]
          exact ⟨_, rfl, hres⟩
        · cases hs
      · cases hs; exact ⟨_, rfl, hres⟩
      · cases hs; exact ⟨_, rfl, hres⟩
      · cases hs; exact ⟨_, rfl, hres⟩
      · cases hs
  · cases hs
theorem my_par (hX1 : X'.1 = X.1) (hX3 : X'.2.2 = X.2.2) (hXt : ∀ k c, X.1 k = some c → my_nt c = true) (hXn : ∀ k, X.2.1.2 k = none) {i : Instr} {a : mm_A} (hD : my_db i = true → md = false) (hAl : ∀ r, i = .arraylength → st = .ref 0 :: r → False) (hPl : (∃ x, i = .getfield x) ∨ (∃ x, i = .getstatic x) → ∀ n L1 v r op, a = .inl (n, L1, v :: r, op) → my_pl v = true) (hNw : ∀ t, my_nw i = true → ax = [t] → Nat.ble t 9 = true) (hh : my_hr h h') (hl : my_lr md xs L L') (hst : my_sr md xs st st') (hs : mm_stp X h L st (pc, i, nx, ax) = some a) : ∃ a', mm_stp X' h' L' st' (pc, i, nx, ax) = some a' ∧ my_ar md xs a a' := by
  cases i with
  | aaload =>
    simp only [mm_stp] at hs ⊢
    split at hs
    · rename_i i a r
      obtain ⟨q0, rfl, hst0⟩ := my_cI hst
      obtain ⟨q1, rfl, hst1⟩ := my_cA hst0
      try dsimp only
      split at hs
      · rename_i h64
        try rw [h64]
        try dsimp only
        split at hs
        · rename_i t rs hp
          obtain ⟨c9, e9, e8⟩ := my_rd hX1 hXt hh hp
          have e8 : c9 = .inr (.inl (t, rs)) := e8
          subst e8
          rw [e9]
          try dsimp only
          split at hs
          · rename_i hin
            try rw [hin]
            try dsimp only
            split at hs
            · rename_i q hq
              try rw [hq]
              refine my_goR hl ?_ hs
              exact ⟨rfl, hst1⟩
            · rename_i hq
              try rw [hq]
              refine my_goR hl ?_ hs
              exact ⟨rfl, hst1⟩
            · cases hs
          · cases hs
        · cases hs
      · cases hs
    · cases hs
  | aastore =>
    simp only [mm_stp] at hs ⊢
    split at hs
    · rename_i v i a r
      obtain ⟨q0, rfl, hst0⟩ := my_cA hst
      obtain ⟨q1, rfl, hst1⟩ := my_cI hst0
      obtain ⟨q2, rfl, hst2⟩ := my_cA hst1
      try dsimp only
      split at hs
      · rename_i t rs hp
        obtain ⟨c9, e9, e8⟩ := my_rd hX1 hXt hh hp
        have e8 : c9 = .inr (.inl (t, rs)) := e8
        subst e8
        rw [e9]
        try dsimp only
        split at hs
        · rename_i hb
          rw [my_recA hX1 hXt hh hb]
          exact my_wrR hl hst2 rfl hs
        · cases hs
      · cases hs
    · cases hs
  | aconst_null =>
    refine my_goR hl ?_ (show mm_go nx L _ = some _ from hs)
    exact ⟨rfl, hst⟩
  | aload x0 => exact my_ldR my_okA hl hst (show mm_ld nx L st (x0) _ = some _ from hs)
  | aload_n x0 => exact my_ldR my_okA hl hst (show mm_ld nx L st (x0.val) _ = some _ from hs)
  | anewarray x0 =>
    simp only [mm_stp] at hs ⊢
    split at hs
    · rename_i n r t zs
      obtain ⟨q0, rfl, hst0⟩ := my_cI hst
      try dsimp only
      split at hs
      · rename_i hb
        cases hs
        try rw [hb]
        exact ⟨_, rfl, _, _, _, rfl, hl, ⟨by rw [my_fr_len hh]; rfl, hst0⟩, _, rfl, rfl⟩
      · cases hs
    · cases hs
  | areturn => cases hs; exact ⟨_, rfl, rfl⟩
  | arraylength =>
    simp only [mm_stp] at hs ⊢
    split at hs
    · rename_i a r
      obtain ⟨q0, rfl, hst0⟩ := my_cA hst
      try dsimp only
      split at hs
      · rename_i h0
        rw [Nat.beq_eq] at h0
        subst h0
        exact (hAl r rfl rfl).elim
      · rename_i h0
        try rw [h0]
        try dsimp only
        split at hs
        · rename_i t n N hp
          obtain ⟨c9, e9, e8⟩ := my_rd hX1 hXt hh hp
          split at hs
          · rename_i ht
            have h4 := Nat.ble_eq.mp ht
            have e8 := my_nt_eq (c := .inl (t, n, N)) (show my_nt (.inl (t, n, N)) = true by unfold my_nt; rw [Bool.not_eq_true', ← Bool.not_eq_true, Nat.ble_eq]; omega) e8
            subst e8
            rw [e9]
            try dsimp only
            try rw [ht]
            refine my_goR hl ?_ hs
            exact ⟨rfl, hst0⟩
          · cases hs
        · rename_i t rs hp
          obtain ⟨c9, e9, e8⟩ := my_rd hX1 hXt hh hp
          have e8 : c9 = .inr (.inl (t, rs)) := e8
          subst e8
          rw [e9]
          try dsimp only
          split at hs
          · rename_i hb
            try rw [hb]
            refine my_goR hl ?_ hs
            exact ⟨rfl, hst0⟩
          · cases hs
        · cases hs
    · cases hs
  | astore x0 => exact my_s1R my_okA hl hst (show mm_s1 nx L st (x0) _ = some _ from hs)
  | astore_n x0 => exact my_s1R my_okA hl hst (show mm_s1 nx L st (x0.val) _ = some _ from hs)
  | athrow => cases hs
  | baload =>
    simp only [mm_stp, mm_fI_eq] at hs ⊢
    split at hs
    · rename_i i a r
      obtain ⟨q0, rfl, hst0⟩ := my_cI hst
      obtain ⟨q1, rfl, hst1⟩ := my_cA hst0
      try dsimp only
      split at hs
      · rename_i n N hp
        rw [my_prim hX1 hXt hh (by decide) hp]
        try dsimp only
        split at hs
        · rename_i hin
          try rw [hin]
          refine my_goR hl ?_ hs
          exact ⟨rfl, hst1⟩
        · cases hs
      · cases hs
    · cases hs
  | bastore =>
    simp only [mm_stp, mm_fN_eq] at hs ⊢
    split at hs
    · rename_i x i a r
      obtain ⟨q0, rfl, hst0⟩ := my_cI hst
      obtain ⟨q1, rfl, hst1⟩ := my_cI hst0
      obtain ⟨q2, rfl, hst2⟩ := my_cA hst1
      try dsimp only
      split at hs
      · rename_i n N hp
        rw [my_prim hX1 hXt hh (by decide) hp]
        try dsimp only
        split at hs
        · rename_i hin
          try rw [hin]
          exact my_wrR hl hst2 rfl hs
        · cases hs
      · cases hs
    · cases hs
  | bipush x0 =>
    simp only [mm_stp, mm_fI_eq] at hs ⊢
    refine my_goR hl ?_ hs
    exact ⟨rfl, hst⟩
  | caload => cases hs
  | castore => cases hs
  | checkcast x0 => cases hs
  | d2f => cases hs
  | d2i => cases hs
  | d2l => cases hs
  | dadd => cases hs
  | daload => cases hs
  | dastore => cases hs
  | dcmp x0 =>
    have hmd := hD rfl
    simp only [mm_stp, mm_fI_eq, mm_fL_eq, mm_fN_eq] at hs ⊢
    split at hs
    · rename_i y x r
      obtain ⟨q0, rfl, hst0⟩ := my_cD hmd hst
      obtain ⟨q1, rfl, hst1⟩ := my_cD hmd hst0
      refine my_goR hl ?_ hs
      exact ⟨rfl, hst1⟩
    · cases hs
  | dconst x0 =>
    have hmd := hD rfl
    match x0, hs with
    | 0, hs => (refine my_goR hl ?_ (show mm_go nx L _ = some _ from hs); exact ⟨my_vD hmd, hst⟩)
    | 1, hs => cases hs
  | ddiv =>
    have hmd := hD rfl
    simp only [mm_stp, mm_fI_eq, mm_fL_eq, mm_fN_eq] at hs ⊢
    split at hs
    · rename_i y x r
      obtain ⟨q0, rfl, hst0⟩ := my_cD hmd hst
      obtain ⟨q1, rfl, hst1⟩ := my_cD hmd hst0
      split at hs
      · rename_i hb
        try dsimp only
        rw [if_pos hb]
        refine my_goR hl ?_ hs
        exact ⟨my_vD hmd, hst1⟩
      · cases hs
    · cases hs
  | dload x0 => exact my_ldR (my_okD (hD rfl)) hl hst (show mm_ld nx L st (x0) _ = some _ from hs)
  | dload_n x0 => exact my_ldR (my_okD (hD rfl)) hl hst (show mm_ld nx L st (x0.val) _ = some _ from hs)
  | dmul => cases hs
  | dneg => cases hs
  | drem => cases hs
  | dreturn => cases hs; exact ⟨_, rfl, rfl⟩
  | dstore x0 => exact my_s2R (my_okD (hD rfl)) hl hst (show mm_s2 nx L st (x0) _ = some _ from hs)
  | dstore_n x0 => cases hs
  | dsub => cases hs
  | dup =>
    simp only [mm_stp] at hs ⊢
    split at hs
    · rename_i v r
      obtain ⟨u, q0, rfl, hu, hst0⟩ := my_cons hst
      split at hs
      · cases hs
      · rename_i hb
        try dsimp only
        rw [my_cat hu, if_neg hb]
        refine my_goR hl ?_ hs
        exact ⟨hu, hu, hst0⟩
    · cases hs
  | dup_x1 =>
    simp only [mm_stp] at hs ⊢
    split at hs
    · rename_i v u r
      obtain ⟨v2, q0, rfl, hu, hst0⟩ := my_cons hst
      obtain ⟨u2, q1, rfl, hw, hst1⟩ := my_cons hst0
      split at hs
      · cases hs
      · rename_i hb
        try dsimp only
        rw [my_cat hu, my_cat hw, if_neg hb]
        refine my_goR hl ?_ hs
        exact ⟨hu, hw, hu, hst1⟩
    · cases hs
  | dup_x2 => cases hs
  | dup2 =>
    simp only [mm_stp] at hs ⊢
    split at hs
    · rename_i v u r
      obtain ⟨v2, q0, rfl, hu, hst0⟩ := my_cons hst
      obtain ⟨u2, q1, rfl, hw, hst1⟩ := my_cons hst0
      split at hs
      · cases hs
      · rename_i hb
        try dsimp only
        rw [my_cat hu, my_cat hw, if_neg hb]
        refine my_goR hl ?_ hs
        exact ⟨hu, hw, hu, hw, hst1⟩
    · cases hs
  | dup2_x1 => cases hs
  | dup2_x2 => cases hs
  | f2d =>
    have hmd := hD rfl
    simp only [mm_stp, mm_fI_eq, mm_fL_eq, mm_fN_eq] at hs ⊢
    split at hs
    · rename_i x r
      obtain ⟨q0, rfl, hst0⟩ := my_cF hst
      split at hs
      · rename_i hb
        try dsimp only
        rw [if_pos hb]
        refine my_goR hl ?_ hs
        exact ⟨my_vD hmd, hst0⟩
      · cases hs
    · cases hs
  | f2i => cases hs
  | f2l => cases hs
  | fadd => cases hs
  | faload => cases hs
  | fastore => cases hs
  | fcmp x0 => cases hs
  | fconst x0 =>
    match x0, hs with
    | 0, hs => (refine my_goR hl ?_ (show mm_go nx L _ = some _ from hs); exact ⟨rfl, hst⟩)
    | 1, hs => cases hs
    | 2, hs => cases hs
  | fdiv =>
    simp only [mm_stp, mm_fI_eq, mm_fL_eq, mm_fN_eq] at hs ⊢
    split at hs
    · rename_i y x r
      obtain ⟨q0, rfl, hst0⟩ := my_cF hst
      obtain ⟨q1, rfl, hst1⟩ := my_cF hst0
      split at hs
      · rename_i hb
        try dsimp only
        rw [if_pos hb]
        refine my_goR hl ?_ hs
        exact ⟨rfl, hst1⟩
      · cases hs
    · cases hs
  | fload x0 => cases hs
  | fload_n x0 => cases hs
  | fmul => cases hs
  | fneg => cases hs
  | frem => cases hs
  | freturn => cases hs; exact ⟨_, rfl, rfl⟩
  | fstore x0 => cases hs
  | fstore_n x0 => cases hs
  | fsub => cases hs
  | getfield x0 =>
    simp only [mm_stp] at hs ⊢
    split at hs
    · rename_i a r z ci k zs
      obtain ⟨q0, rfl, hst0⟩ := my_cA hst
      try dsimp only
      split at hs
      · rename_i fs hp
        rw [my_obj hX1 hXt hh hp]
        try dsimp only
        split at hs
        · rename_i v hv
          try rw [hv]
          refine my_goR hl ?_ hs
          exact ⟨my_plR (hPl (Or.inl ⟨_, rfl⟩) _ _ _ _ _ (mi_go hs)), hst0⟩
        · cases hs
      · cases hs
    · cases hs
  | getstatic x0 =>
    simp only [mm_stp] at hs ⊢
    split at hs
    · rename_i z k zs
      rw [hX3]
      split at hs
      · rename_i v hv
        refine my_goR hl ?_ hs
        exact ⟨my_plR (hPl (Or.inr ⟨_, rfl⟩) _ _ _ _ _ (mi_go hs)), hst⟩
      · cases hs
    · cases hs
  | goto x0 =>
    simp only [mm_stp] at hs ⊢
    split at hs
    · exact my_goR hl hst hs
    · cases hs
  | goto_w x0 => cases hs
  | i2b => exact my_i1R hl hst (show mm_i1 nx L st _ = some _ from hs)
  | i2c => exact my_i1R hl hst (show mm_i1 nx L st _ = some _ from hs)
  | i2d =>
    have hmd := hD rfl
    simp only [mm_stp, mm_fI_eq, mm_fL_eq, mm_fN_eq] at hs ⊢
    split at hs
    · rename_i x r
      obtain ⟨q0, rfl, hst0⟩ := my_cI hst
      refine my_goR hl ?_ hs
      exact ⟨my_vD hmd, hst0⟩
    · cases hs
  | i2f =>
    simp only [mm_stp, mm_fI_eq, mm_fL_eq, mm_fN_eq] at hs ⊢
    split at hs
    · rename_i x r
      obtain ⟨q0, rfl, hst0⟩ := my_cI hst
      refine my_goR hl ?_ hs
      exact ⟨rfl, hst0⟩
    · cases hs
  | i2l =>
    simp only [mm_stp, mm_fI_eq, mm_fL_eq, mm_fN_eq] at hs ⊢
    split at hs
    · rename_i x r
      obtain ⟨q0, rfl, hst0⟩ := my_cI hst
      refine my_goR hl ?_ hs
      exact ⟨rfl, hst0⟩
    · cases hs
  | i2s => cases hs
  | iadd => exact my_i2R hl hst (show mm_i2 nx L st _ = some _ from hs)
  | iaload =>
    simp only [mm_stp, mm_fI_eq] at hs ⊢
    split at hs
    · rename_i i a r
      obtain ⟨q0, rfl, hst0⟩ := my_cI hst
      obtain ⟨q1, rfl, hst1⟩ := my_cA hst0
      try dsimp only
      split at hs
      · split at hs
        · rw [hXn] at hs
          cases hs
        · cases hs
      · rename_i h0
        try rw [h0]
        try dsimp only
        split at hs
        · rename_i n N hp
          rw [my_prim hX1 hXt hh (by decide) hp]
          try dsimp only
          split at hs
          · rename_i hin
            try rw [hin]
            refine my_goR hl ?_ hs
            exact ⟨rfl, hst1⟩
          · cases hs
        · cases hs
    · cases hs
  | iand => exact my_i2R hl hst (show mm_i2 nx L st _ = some _ from hs)
  | iastore =>
    simp only [mm_stp, mm_fN_eq] at hs ⊢
    split at hs
    · rename_i x i a r
      obtain ⟨q0, rfl, hst0⟩ := my_cI hst
      obtain ⟨q1, rfl, hst1⟩ := my_cI hst0
      obtain ⟨q2, rfl, hst2⟩ := my_cA hst1
      try dsimp only
      split at hs
      · rename_i n N hp
        rw [my_prim hX1 hXt hh (by decide) hp]
        try dsimp only
        split at hs
        · rename_i hin
          try rw [hin]
          exact my_wrR hl hst2 rfl hs
        · cases hs
      · cases hs
    · cases hs
  | iconst x0 =>
    simp only [mm_stp, mm_fI_eq] at hs ⊢
    refine my_goR hl ?_ hs
    exact ⟨rfl, hst⟩
  | idiv =>
    simp only [mm_stp] at hs ⊢
    split at hs
    · rename_i y r
      obtain ⟨q0, rfl, hst0⟩ := my_cI hst
      split at hs
      · cases hs
      · rename_i hb
        try dsimp only
        try rw [hb]
        exact my_i2R hl hst hs
    · cases hs
  | if_acmp x0 x1 => cases hs
  | if_icmp x0 x1 =>
    simp only [mm_stp, mm_fI_eq, mm_fL_eq, mm_fN_eq] at hs ⊢
    split at hs
    · rename_i y x r
      obtain ⟨q0, rfl, hst0⟩ := my_cI hst
      obtain ⟨q1, rfl, hst1⟩ := my_cI hst0
      exact my_brR hl hst1 hs
    · cases hs
  | ifCond x0 x1 =>
    simp only [mm_stp, mm_fI_eq, mm_fL_eq, mm_fN_eq] at hs ⊢
    split at hs
    · rename_i x r
      obtain ⟨q0, rfl, hst0⟩ := my_cI hst
      exact my_brR hl hst0 hs
    · cases hs
  | ifnonnull x0 =>
    simp only [mm_stp] at hs ⊢
    split at hs
    · rename_i r
      obtain ⟨q0, rfl, hst0⟩ := my_cN hst
      exact my_brR hl hst0 hs
    · rename_i a r
      obtain ⟨q0, rfl, hst0⟩ := my_cA hst
      split at hs
      · cases hs
      · rename_i hb
        try dsimp only
        try rw [hb]
        exact my_brR hl hst0 hs
    · cases hs
  | ifnull x0 =>
    simp only [mm_stp] at hs ⊢
    split at hs
    · rename_i r
      obtain ⟨q0, rfl, hst0⟩ := my_cN hst
      exact my_brR hl hst0 hs
    · rename_i a r
      obtain ⟨q0, rfl, hst0⟩ := my_cA hst
      split at hs
      · cases hs
      · rename_i hb
        try dsimp only
        try rw [hb]
        exact my_brR hl hst0 hs
    · cases hs
  | iinc x0 x1 =>
    simp only [mm_stp, mm_fI_eq] at hs ⊢
    split at hs
    · rename_i x hg
      obtain ⟨u, e1, e2⟩ := my_get hl hg
      have e2 : u = .int x := e2
      subst e2
      rw [e1]
      try dsimp only
      split at hs
      · rename_i L1 hL1
        obtain ⟨L2, e3, e4⟩ := my_set1 hl hL1 (show my_vr md xs (.int _) (.int _) from rfl)
        rw [e3]
        exact my_goR e4 hst hs
      · cases hs
    · cases hs
  | iload x0 => exact my_ldR my_okI hl hst (show mm_ld nx L st (x0) _ = some _ from hs)
  | iload_n x0 => exact my_ldR my_okI hl hst (show mm_ld nx L st (x0.val) _ = some _ from hs)
  | imul => exact my_i2R hl hst (show mm_i2 nx L st _ = some _ from hs)
  | ineg => exact my_i1R hl hst (show mm_i1 nx L st _ = some _ from hs)
  | instanceof x0 => cases hs
  | invokedynamic x0 => cases hs
  | invokeinterface x0 x1 => cases hs
  | invokespecial x0 =>
    simp only [mm_stp] at hs ⊢
    split at hs
    · split at hs
      · rename_i a r
        obtain ⟨q0, rfl, hst0⟩ := my_cA hst
        try dsimp only
        split at hs
        · rename_i hb
          try rw [my_fr_len hst0]
          try rw [hb]
          exact my_goR hl hst0 hs
        · cases hs
      · cases hs
    · exact my_callR hX1 hXt hh hl hst hs
  | invokestatic x0 =>
    simp only [mm_stp] at hs ⊢
    split at hs
    · exact my_copyR hX1 hXt hh hl hst hs
    · exact my_mathR hl hst hs
    · exact my_mathR hl hst hs
    · exact my_callR hX1 hXt hh hl hst hs
  | invokevirtual x0 =>
    exact my_callR hX1 hXt hh hl hst (show mm_call X h nx L st ax = some _ from hs)
  | ior => exact my_i2R hl hst (show mm_i2 nx L st _ = some _ from hs)
  | irem =>
    simp only [mm_stp] at hs ⊢
    split at hs
    · rename_i y r
      obtain ⟨q0, rfl, hst0⟩ := my_cI hst
      split at hs
      · cases hs
      · rename_i hb
        try dsimp only
        try rw [hb]
        exact my_i2R hl hst hs
    · cases hs
  | ireturn => cases hs; exact ⟨_, rfl, rfl⟩
  | ishl => exact my_i2R hl hst (show mm_i2 nx L st _ = some _ from hs)
  | ishr => exact my_i2R hl hst (show mm_i2 nx L st _ = some _ from hs)
  | istore x0 => exact my_s1R my_okI hl hst (show mm_s1 nx L st (x0) _ = some _ from hs)
  | istore_n x0 => exact my_s1R my_okI hl hst (show mm_s1 nx L st (x0.val) _ = some _ from hs)
  | isub => exact my_i2R hl hst (show mm_i2 nx L st _ = some _ from hs)
  | iushr => exact my_i2R hl hst (show mm_i2 nx L st _ = some _ from hs)
  | ixor => exact my_i2R hl hst (show mm_i2 nx L st _ = some _ from hs)
  | jsr x0 => cases hs
  | jsr_w x0 => cases hs
  | l2d => cases hs
  | l2f => cases hs
  | l2i => cases hs
  | ladd => cases hs
  | laload =>
    simp only [mm_stp, mm_fL_eq] at hs ⊢
    split at hs
    · rename_i i a r
      obtain ⟨q0, rfl, hst0⟩ := my_cI hst
      obtain ⟨q1, rfl, hst1⟩ := my_cA hst0
      try dsimp only
      split at hs
      · rename_i n N hp
        rw [my_prim hX1 hXt hh (by decide) hp]
        try dsimp only
        split at hs
        · rename_i hin
          try rw [hin]
          refine my_goR hl ?_ hs
          exact ⟨rfl, hst1⟩
        · cases hs
      · cases hs
    · cases hs
  | land => cases hs
  | lastore =>
    simp only [mm_stp, mm_fN_eq] at hs ⊢
    split at hs
    · rename_i x i a r
      obtain ⟨q0, rfl, hst0⟩ := my_cL hst
      obtain ⟨q1, rfl, hst1⟩ := my_cI hst0
      obtain ⟨q2, rfl, hst2⟩ := my_cA hst1
      try dsimp only
      split at hs
      · rename_i n N hp
        rw [my_prim hX1 hXt hh (by decide) hp]
        try dsimp only
        split at hs
        · rename_i hin
          try rw [hin]
          exact my_wrR hl hst2 rfl hs
        · cases hs
      · cases hs
    · cases hs
  | lcmp =>
    simp only [mm_stp, mm_fI_eq, mm_fL_eq, mm_fN_eq] at hs ⊢
    split at hs
    · rename_i y x r
      obtain ⟨q0, rfl, hst0⟩ := my_cL hst
      obtain ⟨q1, rfl, hst1⟩ := my_cL hst0
      refine my_goR hl ?_ hs
      exact ⟨rfl, hst1⟩
    · cases hs
  | lconst x0 =>
    refine my_goR hl ?_ (show mm_go nx L _ = some _ from hs)
    exact ⟨rfl, hst⟩
  | ldc x0 =>
    simp only [mm_stp] at hs ⊢
    split at hs
    · refine my_goR hl ?_ hs
      exact ⟨rfl, hst⟩
    · refine my_goR hl ?_ hs
      exact ⟨rfl, hst⟩
    · cases hs
  | ldc_w x0 =>
    simp only [mm_stp] at hs ⊢
    split at hs
    · refine my_goR hl ?_ hs
      exact ⟨rfl, hst⟩
    · refine my_goR hl ?_ hs
      exact ⟨rfl, hst⟩
    · cases hs
  | ldc2_w x0 =>
    simp only [mm_stp] at hs ⊢
    split at hs
    · refine my_goR hl ?_ hs
      exact ⟨rfl, hst⟩
    · cases hs
  | ldiv => cases hs
  | lload x0 => exact my_ldR my_okL hl hst (show mm_ld nx L st (x0) _ = some _ from hs)
  | lload_n x0 => exact my_ldR my_okL hl hst (show mm_ld nx L st (x0.val) _ = some _ from hs)
  | lmul => cases hs
  | lneg => cases hs
  | lookupswitch x0 x1 => cases hs
  | lor => cases hs
  | lrem => cases hs
  | lreturn => cases hs
  | lshl => cases hs
  | lshr => cases hs
  | lstore x0 => exact my_s2R my_okL hl hst (show mm_s2 nx L st (x0) _ = some _ from hs)
  | lstore_n x0 => cases hs
  | lsub => cases hs
  | lushr => cases hs
  | lxor => cases hs
  | monitorenter => cases hs
  | monitorexit => cases hs
  | multianewarray x0 x1 => cases hs
  | new x0 =>
    simp only [mm_stp] at hs ⊢
    split at hs
    · rename_i ci zs
      cases hs
      exact ⟨_, rfl, _, _, _, rfl, hl, ⟨by rw [my_fr_len hh]; rfl, hst⟩, by rw [hX3]; exact ⟨_, rfl, rfl⟩⟩
    · rename_i ci zs
      split at hs
      · rename_i hb
        cases hs
        try dsimp only
        try rw [my_fr_len hst]
        try rw [hb]
        exact ⟨_, rfl, rfl⟩
      · cases hs
    · cases hs
  | newarray x0 =>
    simp only [mm_stp] at hs ⊢
    split at hs
    · rename_i n r t
      obtain ⟨q0, rfl, hst0⟩ := my_cI hst
      try dsimp only
      split at hs
      · rename_i hb
        cases hs
        try rw [hb]
        exact ⟨_, rfl, _, _, _, rfl, hl, ⟨by rw [my_fr_len hh]; rfl, hst0⟩, _, rfl, my_nt_rf (hNw t rfl rfl)⟩
      · cases hs
    · cases hs
  | nop => cases hs
  | pop =>
    simp only [mm_stp] at hs ⊢
    split at hs
    · rename_i v r
      obtain ⟨u, q0, rfl, hu, hst0⟩ := my_cons hst
      split at hs
      · cases hs
      · rename_i hb
        try dsimp only
        rw [my_cat hu, if_neg hb]
        exact my_goR hl hst0 hs
    · cases hs
  | pop2 => cases hs
  | putfield x0 =>
    simp only [mm_stp] at hs ⊢
    split at hs
    · rename_i v a r z ci k zs
      obtain ⟨u, q0, rfl, hu, hst0⟩ := my_cons hst
      obtain ⟨q1, rfl, hst1⟩ := my_cA hst0
      try dsimp only
      split at hs
      · rename_i fs hp
        rw [my_obj hX1 hXt hh hp]
        try dsimp only
        split at hs
        · rename_i v0 hv
          try rw [hv]
          try dsimp only
          split at hs
          · rename_i ty hty
            try rw [hX3, hty]
            try dsimp only
            split at hs
            · rename_i hf
              have hu := my_fit hf hu
              subst hu
              try rw [hf]
              exact my_wrR hl hst1 rfl hs
            · cases hs
          · cases hs
        · cases hs
      · cases hs
    · cases hs
  | putstatic x0 => cases hs
  | ret x0 => cases hs
  | return_ => cases hs; exact ⟨_, rfl, rfl⟩
  | saload => cases hs
  | sastore => cases hs
  | sipush x0 =>
    simp only [mm_stp, mm_fI_eq] at hs ⊢
    refine my_goR hl ?_ hs
    exact ⟨rfl, hst⟩
  | swap => cases hs
  | tableswitch x0 x1 x2 x3 =>
    simp only [mm_stp] at hs ⊢
    split at hs
    · rename_i x r d ts
      obtain ⟨q0, rfl, hst0⟩ := my_cI hst
      split at hs
      · rename_i l0
        try dsimp only
        split at hs
        · rename_i hb
          try rw [hb]
          try dsimp only
          split at hs
          · rename_i t ht
            try rw [ht]
            exact my_goR hl hst0 hs
          · cases hs
        · rename_i hb
          try rw [hb]
          exact my_goR hl hst0 hs
      · cases hs
    · cases hs
end MY
/-! the machine over boxes -/
def my_isT (v : Value) : Bool := match v with
  | .int _ => true
  | .retAddr _ => true
  | _ => false
def my_tk (v : Value) : Bool := match v with
  | .retAddr _ => true
  | _ => false
def my_dk (v : Value) : Bool := match v with
  | .double _ => true
  | _ => false
def my_rg (E : my_E) (v : Value) : Option (Nat × Nat) := match v with
  | .int x => mm_fN (mm_sn x) fun n => some (n, n)
  | .retAddr t => match t with
    | 0 => none
    | k + 1 => my_iv E.2.1 k
  | _ => none
def my_lrg (E : my_E) (v : Value) : Option (Nat × Nat) := match v with
  | .long z => mm_fN (mm_lsn z) fun n => some (n, n)
  | .double b => match E.1 with
    | true => match my_iv E.2.1 b.toNat with
      | some q => some (q.1 + 9223372034707292160, q.2 + 9223372034707292160)
      | none => none
    | false => none
  | _ => none
def my_lt (a b : Option (Nat × Nat)) : Option Bool := match a, b with
  | some p, some q => match Nat.ble (p.2 + 1) q.1 with
    | true => some true
    | false => match Nat.ble q.2 p.1 with
      | true => some false
      | false => none
  | _, _ => none
def my_eq (a b : Option (Nat × Nat)) : Option Bool := match a, b with
  | some p, some q => match Nat.ble (p.2 + 1) q.1 || Nat.ble (q.2 + 1) p.1 with
    | true => some false
    | false => match Nat.ble p.2 p.1 && (Nat.ble q.2 q.1 && Nat.beq p.1 q.1) with
      | true => some true
      | false => none
  | _, _ => none
def my_not (o : Option Bool) : Option Bool := match o with
  | some b => some (!b)
  | none => none
def my_cnd (c : ClassFile.Cond) (a b : Option (Nat × Nat)) : Option Bool := match c with
  | .eq => my_eq a b
  | .ne => my_not (my_eq a b)
  | .lt => my_lt a b
  | .ge => my_not (my_lt a b)
  | .gt => my_lt b a
  | .le => my_not (my_lt b a)
def my_brc (nx : Nat) (L : mm_L) (ax : List Nat) (r : List Value) (o : Option Bool) : Option mm_A := match o with
  | some b => mm_br nx L ax r b
  | none => none
def my_i2t (X : mm_X) (h : mm_H) (L : mm_L) (st : List Value) (mi : mm_I) : Option mm_A := match st with
  | y :: x :: r => match my_tk y || my_tk x with
    | true => match my_isT y && my_isT x with
      | true => mm_go mi.2.2.1 L (.retAddr 0 :: r)
      | false => none
    | false => mm_stp X h L (y :: x :: r) mi
  | _ => none
def my_i1t (X : mm_X) (h : mm_H) (L : mm_L) (st : List Value) (mi : mm_I) : Option mm_A := match st with
  | .retAddr _ :: r => mm_go mi.2.2.1 L (.retAddr 0 :: r)
  | st => mm_stp X h L st mi
def my_pck (o : Option mm_A) : Option mm_A := match o with
  | some (.inl (n, L1, v :: r, op)) => match my_pl v with
    | true => some (.inl (n, L1, v :: r, op))
    | false => none
  | _ => none
def my_ast (k : Nat) (X : mm_X) (h : mm_H) (L : mm_L) (st : List Value) (mi : mm_I) : Option mm_A := match st with
  | .retAddr _ :: .int i :: .ref a :: r => match Nat.ble 64 a with
    | false => none
    | true => match mm_rd X.1 h a with
      | some (.inl (t, n, _)) => match (Nat.beq t k || Nat.beq t (k + 10)) && mm_in i n with
        | true => some (.inl (mi.2.2.1, L, r, some (.inl (a - 64, .inl (k + 10, n, 0)))))
        | false => none
      | _ => none
  | st => mm_stp X h L st mi
/-- the length of an array whose contents are not known -/
def my_tln (c : Option mm_C) : Option Nat := match c with
  | some (.inl (t, n, _)) => match Nat.ble 10 t && Nat.ble t 14 with
    | true => some n
    | false => none
  | _ => none
def my_ild (X : mm_X) (h : mm_H) (L : mm_L) (st : List Value) (k : Nat) (mi : mm_I) : Option mm_A := match mm_get L k with
  | some (.retAddr t) => mm_go mi.2.2.1 L (.retAddr t :: st)
  | _ => mm_stp X h L st mi
def my_lld (E : my_E) (X : mm_X) (h : mm_H) (L : mm_L) (st : List Value) (k : Nat) (mi : mm_I) : Option mm_A := match mm_get L k with
  | some (.double b) => match E.1 with
    | true => mm_go mi.2.2.1 L (.double b :: st)
    | false => none
  | _ => mm_stp X h L st mi
def my_dbl (E : my_E) (X : mm_X) (h : mm_H) (L : mm_L) (st : List Value) (mi : mm_I) : Option mm_A := match E.1 with
  | true => none
  | false => mm_stp X h L st mi
def my_ist (X : mm_X) (h : mm_H) (L : mm_L) (st : List Value) (k : Nat) (mi : mm_I) : Option mm_A := match st with
  | .retAddr t :: r => mm_s1 mi.2.2.1 L (.retAddr t :: r) k my_isT
  | st => mm_stp X h L st mi
def my_stp (E : my_E) (X : mm_X) (h : mm_H) (L : mm_L) (st : List Value) (mi : mm_I) : Option mm_A := match mi with
  | (pc, i, nx, ax) => match i with
    | .iload k => my_ild X h L st k (pc, .iload k, nx, ax)
    | .iload_n k => my_ild X h L st k.val (pc, .iload_n k, nx, ax)
    | .istore k => my_ist X h L st k (pc, .istore k, nx, ax)
    | .istore_n k => my_ist X h L st k.val (pc, .istore_n k, nx, ax)
    | .lload k => my_lld E X h L st k (pc, .lload k, nx, ax)
    | .lload_n k => my_lld E X h L st k.val (pc, .lload_n k, nx, ax)
    | .iaload => match st with
      | .int i :: .ref a :: r => match Nat.beq a 0 with
        | true => match E.2.2.2.2 with
          | some n => match mm_in i n with
            | true => match E.2.2.2.1[mm_un i]? with
              | some v => mm_go nx L (v :: r)
              | none => none
            | false => none
          | none => none
        | false => mm_stp X h L (.int i :: .ref a :: r) (pc, .iaload, nx, ax)
      | _ => none
    | .arraylength => match st with
      | .ref a :: r => match Nat.beq a 0 with
        | true => match E.2.2.2.2 with
          | some n => mm_go nx L (.int (Int32.ofNat n) :: r)
          | none => none
        | false => match my_tln (mm_rd X.1 h a) with
          | some n => mm_go nx L (.int (Int32.ofNat n) :: r)
          | none => mm_stp X h L (.ref a :: r) (pc, .arraylength, nx, ax)
      | _ => none
    | .ifCond c d => match st with
      | .retAddr t :: r => my_brc nx L ax r (my_cnd c (my_rg E (.retAddr t)) (my_rg E (.int 0)))
      | st => mm_stp X h L st (pc, .ifCond c d, nx, ax)
    | .if_icmp c d => match st with
      | y :: x :: r => match my_tk y || my_tk x with
        | true => my_brc nx L ax r (my_cnd c (my_rg E x) (my_rg E y))
        | false => mm_stp X h L (y :: x :: r) (pc, .if_icmp c d, nx, ax)
      | _ => none
    | .iand => match st with
      | .int c :: .retAddr t :: r => match t with
        | 0 => mm_go nx L (.retAddr 0 :: r)
        | k + 1 => match my_ru E.2.2.1 k (mm_un c) with
          | some v => mm_go nx L (v :: r)
          | none => mm_go nx L (.retAddr 0 :: r)
      | st => my_i2t X h L st (pc, .iand, nx, ax)
    | .iadd => my_i2t X h L st (pc, .iadd, nx, ax)
    | .isub => my_i2t X h L st (pc, .isub, nx, ax)
    | .ior => my_i2t X h L st (pc, .ior, nx, ax)
    | .ixor => my_i2t X h L st (pc, .ixor, nx, ax)
    | .ishl => my_i2t X h L st (pc, .ishl, nx, ax)
    | .ishr => my_i2t X h L st (pc, .ishr, nx, ax)
    | .iushr => my_i2t X h L st (pc, .iushr, nx, ax)
    | .i2b => my_i1t X h L st (pc, .i2b, nx, ax)
    | .ineg => my_i1t X h L st (pc, .ineg, nx, ax)
    | .i2l => match st with
      | .retAddr t :: r => match t with
        | 0 => none
        | k + 1 => match E.1 && Nat.ble k 1000 with
          | true => mm_go nx L (.double (UInt64.ofNat k) :: r)
          | false => none
      | st => mm_stp X h L st (pc, .i2l, nx, ax)
    | .lcmp => match st with
      | y :: x :: r => match my_dk y || my_dk x with
        | true => match my_lt (my_lrg E x) (my_lrg E y) with
          | some true => mm_go nx L (.int (-1) :: r)
          | some false => match my_eq (my_lrg E x) (my_lrg E y) with
            | some true => mm_go nx L (.int 0 :: r)
            | some false => mm_go nx L (.int 1 :: r)
            | none => none
          | none => none
        | false => mm_stp X h L (y :: x :: r) (pc, .lcmp, nx, ax)
      | _ => none
    | .tableswitch a lo b offs => match st with
      | .retAddr t :: r => match ax, lo with
        | d :: ts, .ofNat l0 => match my_rg E (.retAddr t) with
          | some q => match Nat.ble (q.2 + 1) (2147483648 + l0) || Nat.ble (2147483648 + l0 + ts.length) q.1 with
            | true => mm_go d L r
            | false => none
          | none => none
        | _, _ => none
      | st => mm_stp X h L st (pc, .tableswitch a lo b offs, nx, ax)
    | .iastore => my_ast 0 X h L st (pc, .iastore, nx, ax)
    | .bastore => my_ast 2 X h L st (pc, .bastore, nx, ax)
    | .getfield x => my_pck (mm_stp X h L st (pc, .getfield x, nx, ax))
    | .getstatic x => my_pck (mm_stp X h L st (pc, .getstatic x, nx, ax))
    | .newarray x => match ax with
      | [t] => match Nat.ble t 9 with
        | true => mm_stp X h L st (pc, .newarray x, nx, [t])
        | false => none
      | _ => none
    | .dload k => my_dbl E X h L st (pc, .dload k, nx, ax)
    | .dload_n k => my_dbl E X h L st (pc, .dload_n k, nx, ax)
    | .dstore k => my_dbl E X h L st (pc, .dstore k, nx, ax)
    | .dconst k => my_dbl E X h L st (pc, .dconst k, nx, ax)
    | .i2d => my_dbl E X h L st (pc, .i2d, nx, ax)
    | .f2d => my_dbl E X h L st (pc, .f2d, nx, ax)
    | .ddiv => my_dbl E X h L st (pc, .ddiv, nx, ax)
    | .dcmp k => my_dbl E X h L st (pc, .dcmp k, nx, ax)
    | i => mm_stp X h L st (pc, i, nx, ax)
