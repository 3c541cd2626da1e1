section M47
/-! ===== the class: shapes that change ===== -/
/-- a cell that no method changes the shape of -/
def nSt (c : mm_C) : Prop := (match c with
  | .inr (.inr (ci, _)) => Nat.beq ci 12 || Nat.beq ci 1
  | _ => false) = false
theorem nSt_o {ci : Nat} {fs : List Value} (h : Nat.beq ci 12 = false) (h1 : Nat.beq ci 1 = false) : nSt (.inr (.inr (ci, fs))) := by
  show (Nat.beq ci 12 || Nat.beq ci 1) = false
  rw [h, h1]
  rfl
def EX (sh sh' : List mm_C) : Prop := ∀ (a : Nat) (c : mm_C), sh[a]? = some c → nSt c → sh'[a]? = some c
theorem EX.r (sh : List mm_C) : EX sh sh := fun _ _ h _ => h
theorem EX.t {a b c : List mm_C} (h1 : EX a b) (h2 : EX b c) : EX a c := fun i x h n => h2 i x (h1 i x h n) n
theorem kA.ex {sh sh' : List mm_C} {a n : Nat} (e : EX sh sh') (k : kA sh a n) : kA sh' a n := ⟨k.1, k.2.1, k.2.2.1, e _ _ k.o rfl⟩
theorem kR.ex {sh sh' : List mm_C} {a n : Nat} (e : EX sh sh') (k : kR sh a n) : kR sh' a n := ⟨k.1, e _ _ k.2 rfl⟩
theorem kO.ex {sh sh' : List mm_C} {a ci : Nat} {fs : List Value} (e : EX sh sh') (k : kO sh a ci fs) (h : Nat.beq ci 12 = false) (h1 : Nat.beq ci 1 = false) : kO sh' a ci fs := ⟨k.1, k.2.1, k.2.2.1, e _ _ k.o (nSt_o h h1)⟩
theorem kNames.ex {sh sh' : List mm_C} {a : Nat} (e : EX sh sh') (k : kNames sh a) : kNames sh' a := ⟨k.1.ex e rfl rfl, k.2.ex e⟩
theorem kScene.ex {sh sh' : List mm_C} {a : Nat} (e : EX sh sh') (k : kScene sh a) : kScene sh' a := ⟨k.1.ex e rfl rfl, k.2.1.ex e, k.2.2.1.ex e, k.2.2.2.ex e⟩
theorem kForm.ex {sh sh' : List mm_C} {a : Nat} (e : EX sh sh') (k : kForm sh a) : kForm sh' a := ⟨k.1.ex e rfl rfl, k.2.1.ex e, k.2.2.1.ex e, k.2.2.2.ex e⟩
theorem kKnow.ex {sh sh' : List mm_C} {a : Nat} (e : EX sh sh') (k : kKnow sh a) : kKnow sh' a := ⟨k.1.ex e rfl rfl, k.2.ex e⟩
theorem kLog.ex {sh sh' : List mm_C} {a : Nat} (e : EX sh sh') (k : kLog sh a) : kLog sh' a := ⟨k.1.ex e rfl rfl, k.2.1.ex e, k.2.2.1.ex e, k.2.2.2.1.ex e, k.2.2.2.2.ex e⟩
theorem kOrder.ex {sh sh' : List mm_C} {a : Nat} (e : EX sh sh') (k : kOrder sh a) : kOrder sh' a := ⟨k.1.ex e rfl rfl, k.2.ex e⟩
theorem kSrc.ex {sh sh' : List mm_C} (e : EX sh sh') (k : kSrc sh) : kSrc sh' := ⟨k.1.ex e rfl rfl, k.2.1.ex e, k.2.2.1.ex e, k.2.2.2.1.ex e, k.2.2.2.2.ex e⟩
theorem kFR.ex {sh sh' : List mm_C} (e : EX sh sh') (k : kFR sh) : kFR sh' := ⟨k.1.ex e rfl rfl, k.2.1.ex e, k.2.2.1.ex e, k.2.2.2.ex e⟩
theorem kDR.ex {sh sh' : List mm_C} (e : EX sh sh') (k : kDR sh) : kDR sh' := ⟨k.1.ex e rfl rfl, k.2.1.ex e, k.2.2.1.ex e, k.2.2.2.1.ex e, k.2.2.2.2.ex e⟩
theorem kOR.ex {sh sh' : List mm_C} (e : EX sh sh') (k : kOR sh) : kOR sh' := ⟨k.1.ex e rfl rfl, k.2.1.ex e, k.2.2.1.ex e, e _ _ k.2.2.2.1 rfl, fun i hi => (k.2.2.2.2 i hi).ex e⟩
def STb (b : Nat) : Prop := b = 191 ∨ b = 203 ∨ ∃ i : Nat, i < 8 ∧ b = 216 + 12 * i
def pastA : mm_C := .inr (.inl (3, [some 216, some 228, some 240, some 252, some 264, some 276, some 288, some 300]))
/-- the class's object, its parts and its states -/
def WI (sh : List mm_C) : Prop := kO sh 64 13 [.ref 65, .ref 76, .ref 79, .ref 80, .ref 72, .ref 70, .ref 182, .ref 183, .ref 191, .ref 203, .ref 215, .int 0, .int 0, .int 0] ∧ kDR sh ∧ kOR sh ∧ kA sh 182 240 ∧ sh[215 - 64]? = some pastA ∧ ∀ b, STb b → ∃ q, kState sh b q
theorem WI.who {sh : List mm_C} (h : WI sh) : ∃ q, kWho sh q := by
  obtain ⟨q, hq⟩ := h.2.2.2.2.2 191 (Or.inl rfl)
  exact ⟨q, h.1, h.2.1, h.2.2.1, h.2.2.2.1, hq⟩
/-- the output: its row and how much of it is used -/
def SBI (sh : List mm_C) (V : hV) (q cap c : Nat) : Prop := 67 ≤ q ∧ (q < 312 ∨ 323 < q) ∧ q ≠ 183 ∧ sh[183 - 64]? = some (.inr (.inr (1, [.ref q, .int 0, .int 0, .int 0]))) ∧ sh[q - 64]? = some (.inl (2, cap, 0)) ∧ V.1 183 1 = 0 ∧ V.1 183 3 = Int32.ofNat c ∧ c ≤ cap ∧ (16 ≤ cap ∧ cap ≤ 100000) ∧ ∀ j, (V.1 q j).toInt8.toInt32 = V.1 q j
def SBok (sh : List mm_C) (V : hV) : Prop := ∃ q cap c, SBI sh V q cap c
def capS (sh : List mm_C) : Nat := match (sh[183 - 64]? : Option mm_C) with
  | some (.inr (.inr (_, .ref q :: _))) => match (sh[q - 64]? : Option mm_C) with
    | some (.inl (_, n, _)) => n
    | _ => 0
  | _ => 0
def shS (sh : List mm_C) : Nat := (sh.map mm_sl).sum
/-- room taken: r cells, and what the output's row takes -/
def RM (r : Nat) (sh sh' : List mm_C) : Prop := sh'.length + capS sh ≤ sh.length + capS sh' + r ∧ shS sh' + 2 * capS sh ≤ shS sh + 2 * capS sh' + 6 * r
theorem RM.r (sh : List mm_C) : RM 0 sh sh := ⟨Nat.le_refl _, Nat.le_refl _⟩
theorem RM.t {r s : Nat} {a b c : List mm_C} (h1 : RM r a b) (h2 : RM s b c) : RM (r + s) a c := by
  obtain ⟨p1, p2⟩ := h1
  obtain ⟨p3, p4⟩ := h2
  exact ⟨by omega, by omega⟩
def FX (r : Nat) (L : Int32) (sh : List mm_C) (V : hV) (sh' : List mm_C) (W : hV) : Prop := W.1 65 4 = L ∧ (∀ b, 312 ≤ b ∨ b = 66 → b ≤ 323 → sh'[b - 64]? = sh[b - 64]? ∧ W.1 b = V.1 b ∧ W.2 b = V.2 b) ∧ EX sh sh' ∧ (WI sh → WI sh') ∧ (CN sh V → CN sh' W) ∧ (SBok sh V → SBok sh' W) ∧ RM r sh sh'
theorem fx_0 (sh : List mm_C) (V : hV) : FX 0 (V.1 65 4) sh V sh V := ⟨rfl, fun _ _ _ => ⟨rfl, rfl, rfl⟩, EX.r sh, fun h => h, fun h => h, fun h => h, RM.r sh⟩
theorem fr_sb {sh : List mm_C} {V W : hV} (f : FR sh V W) : SBok sh V → SBok sh W := by
  intro ⟨q, cap, c, h1, h2, h3, h4, h5, h6, h7, h8, h9, h10⟩
  have e : W.1 183 = V.1 183 := (f.2.1 183 (fun z => z.1.1 rfl)).1
  have eq : W.1 q = V.1 q := (f.2.1 q (fun z => z.2.2 _ _ h5)).1
  exact ⟨q, cap, c, h1, h2, h3, h4, h5, by rw [e]; exact h6, by rw [e]; exact h7, h8, h9, by rw [eq]; exact h10⟩
theorem FX.q {r : Nat} {L : Int32} {sh0 sh : List mm_C} {V0 V W : hV} (h : FX r L sh0 V0 sh V) (f : FR sh V W) : FX r L sh0 V0 sh W := ⟨f.1.trans h.1, fun b h1 h2 => by
  obtain ⟨a1, a2, a3⟩ := h.2.1 b h1 h2
  obtain ⟨b1, b2⟩ := f.2.1 b (fun z => by have := z.2.1; have := z.1.2; omega)
  exact ⟨a1, b1.trans a2, b2.trans a3⟩, h.2.2.1, h.2.2.2.1, fun z => f.2.2 (h.2.2.2.2.1 z), fun z => fr_sb f (h.2.2.2.2.2.1 z), h.2.2.2.2.2.2⟩
theorem FX.t {r s : Nat} {K L : Int32} {sh0 sh sh' : List mm_C} {V0 V W : hV} (h : FX r K sh0 V0 sh V) (g : FX s L sh V sh' W) : FX (r + s) L sh0 V0 sh' W := ⟨g.1, fun b h1 h2 => by
  obtain ⟨a1, a2, a3⟩ := h.2.1 b h1 h2
  obtain ⟨b1, b2, b3⟩ := g.2.1 b h1 h2
  exact ⟨b1.trans a1, b2.trans a2, b3.trans a3⟩, h.2.2.1.t g.2.2.1, fun z => g.2.2.2.1 (h.2.2.2.1 z), fun z => g.2.2.2.2.1 (h.2.2.2.2.1 z), fun z => g.2.2.2.2.2.1 (h.2.2.2.2.2.1 z), h.2.2.2.2.2.2.t g.2.2.2.2.2.2⟩
theorem shS_set {sh : List mm_C} {i : Nat} {c d : mm_C} (h : sh[i]? = some c) (e : mm_sl d = mm_sl c) : shS (sh.set i d) = shS sh := by
  unfold shS
  rw [List.map_set]
  congr 1
  refine hl_set _ _ _ ?_
  rw [List.getElem?_map, h, e]
  rfl
/-- the scene of a state is another one -/
def stC (b q : Nat) : mm_C := .inr (.inr (12, [.ref (b + 1), .ref (b + 3), .ref (b + 7), .ref q]))
theorem st_ne {sh : List mm_C} {b q q2 a : Nat} {c : mm_C} (hk : kState sh b q) (h : sh[a]? = some c) (hc : nSt c) : (sh.set (b - 64) (stC b q2))[a]? = some c := by
  have hne : ¬ b - 64 = a := fun e => by
    have h2 := hk.1.o
    rw [e, h] at h2
    cases h2
    exact absurd (show true = false from hc) (by decide)
  rw [List.getElem?_set_ne hne]
  exact h
theorem ex_set {sh : List mm_C} {b q q2 : Nat} (hk : kState sh b q) : EX sh (sh.set (b - 64) (stC b q2)) := fun a c h hc => st_ne hk h hc
theorem st_183 {sh : List mm_C} {V : hV} {b q q2 : Nat} (hk : kState sh b q) : SBok sh V → SBok (sh.set (b - 64) (stC b q2)) V := by
  intro ⟨p, cap, c, h1, h2, h3, h4, h5, h6⟩
  refine ⟨p, cap, c, h1, h2, h3, ?_, ex_set hk _ _ h5 rfl, h6⟩
  have hne : ¬ b - 64 = 183 - 64 := fun e => by
    have h2 := hk.1.o
    rw [e, h4] at h2
    cases h2
  rw [List.getElem?_set_ne hne]
  exact h4
theorem cap_set {sh : List mm_C} {b q q2 : Nat} (hk : kState sh b q) : capS (sh.set (b - 64) (stC b q2)) = capS sh := by
  have hb : b ≠ 183 := hk.1.2.2.1.1
  have h64 := hk.1.h
  unfold capS
  rw [List.getElem?_set_ne (show ¬ b - 64 = 183 - 64 by omega)]
  split
  · rename_i x p y hx
    by_cases e : b - 64 = p - 64
    · have ho := hk.1.o
      rw [e] at ho
      have hl : p - 64 < sh.length := (List.getElem?_eq_some_iff.mp ho).1
      rw [e, List.getElem?_set_self hl, ho]
      rfl
    · rw [List.getElem?_set_ne e]
  · rfl
theorem wi_set {sh : List mm_C} {b q q2 : Nat} (hk : kState sh b q) (h2 : kScene sh q2) (h : WI sh) : WI (sh.set (b - 64) (stC b q2)) := by
  have e := ex_set (q2 := q2) hk
  refine ⟨h.1.ex e rfl rfl, h.2.1.ex e, h.2.2.1.ex e, h.2.2.2.1.ex e, e _ _ h.2.2.2.2.1 rfl, fun b2 hb2 => ?_⟩
  obtain ⟨p, hp⟩ := h.2.2.2.2.2 b2 hb2
  by_cases eb : b2 - 64 = b - 64
  · have eb : b2 = b := by
      have := hp.1.h
      have := hk.1.h
      omega
    subst eb
    have hl : b2 - 64 < sh.length := (List.getElem?_eq_some_iff.mp hk.1.o).1
    exact ⟨q2, ⟨hk.1.1, hk.1.2.1, hk.1.2.2.1, List.getElem?_set_self hl⟩, hk.2.1.ex e, hk.2.2.1.ex e, hk.2.2.2.1.ex e, h2.ex e⟩
  · exact ⟨p, ⟨hp.1.1, hp.1.2.1, hp.1.2.2.1, by rw [List.getElem?_set_ne (fun z => eb z.symm)]; exact hp.1.o⟩, hp.2.1.ex e, hp.2.2.1.ex e, hp.2.2.2.1.ex e, hp.2.2.2.2.ex e⟩
theorem cn_set {sh : List mm_C} {V : hV} {b q q2 : Nat} (hk : kState sh b q) (h : CN sh V) : CN (sh.set (b - 64) (stC b q2)) V := by
  intro p fs h64 hp
  by_cases e : b - 64 = p - 64
  · have hl : p - 64 < sh.length := by rw [← e]; exact (List.getElem?_eq_some_iff.mp hk.1.o).1
    rw [e, List.getElem?_set_self hl] at hp
    cases hp
  · rw [List.getElem?_set_ne e] at hp
    exact h p fs h64 hp
theorem fx_set {sh : List mm_C} {V : hV} {b q q2 : Nat} (hk : kState sh b q) (h2 : kScene sh q2) : FX 0 (V.1 65 4) sh V (sh.set (b - 64) (stC b q2)) V := by
  refine ⟨rfl, fun a h1 h3 => ⟨List.getElem?_set_ne (by have q1 := hk.1.2.1; have q2 := hk.1.h; have q3 := hk.1.2.2.1.2; omega), rfl, rfl⟩, ex_set hk, wi_set hk h2, cn_set hk, st_183 hk, ?_⟩
  refine ⟨?_, ?_⟩
  · rw [cap_set hk, List.length_set]
    exact Nat.le_refl _
  · rw [cap_set hk, shS_set (d := stC b q2) hk.1.o rfl]
    exact Nat.le_refl _
end M47
