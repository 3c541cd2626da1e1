section N_zt
/-! ===== readText on both sides ===== -/
theorem ps_6 (V : hV) (T : hP) : (pp V T).1 312 6 = V.1 312 6 := ovr_none V (by
  show (if (6 : Nat) = 11 then _ else if (6 : Nat) = 12 then _ else if (6 : Nat) = 13 then _ else if (6 : Nat) = 14 then _ else if (6 : Nat) = 15 then _ else none) = none
  rw [if_neg (by decide), if_neg (by decide), if_neg (by decide), if_neg (by decide), if_neg (by decide)])
theorem rt_6 (f : Nat → Int32) (l : Nat) (V : hV) : (rtF f l V).2.1 312 6 = bI (!decide (er (rtB f l V).2 = 0)) := by
  obtain ⟨B, hB⟩ : ∃ B, rtB f l V = B := ⟨_, rfl⟩
  have e : (rtE B.1 B.2).1 312 6 = bI (!decide (er B.2 = 0)) := by
    unfold rtE
    rw [ps_6]
    exact up_eq _ _ _ _
  unfold rtF
  rw [hB]
  by_cases h0 : er B.2 = 0
  · rw [if_pos h0]
    dsimp only
    unfold rtH rtG
    rw [up_ne _ _ (Or.inr (by decide)), up_ne _ _ (Or.inl (by decide)), ovr_ne _ _ (by decide)]
    exact e
  · rw [if_neg h0]
    dsimp only
    unfold cpV
    rw [ovr_ne _ _ (by decide)]
    exact e
/-- the arrays of longs stay as they are -/
theorem fl_2 {f : Nat → Int32} {l : Nat} : ∀ (g n : Nat) (V : hV) (T : hP), (flF f l g n V T).1.2 = V.2
  | 0, _, _, _ => rfl
  | g + 1, n, V, T => by
    rw [flF.eq_2]
    split
    · split
      · exact fl_2 g _ _ _
      · rfl
    · rfl
theorem ask_2 (V : hV) (n f b : Nat) : ∀ k, (askF V n f b k).2 = V.2
  | 0 => rfl
  | k + 1 => ask_2 V n f b k
theorem up_2 (V : hV) (a k : Nat) (x : Int32) : (up V a k x).2 = V.2 := rfl
theorem lwV_2 (V : hV) (q : hQ) : (lwV V q).2 = V.2 := rfl
theorem lwF_2 {f : Nat → Int32} {l np nf c b : Nat} {V : hV} {T : hP} : (lwF f l np nf c b V T).1.2 = V.2 := by
  unfold lwF
  generalize muP (if c < 6 then 1 else 0) 3 T = X
  by_cases h : er X = 0
  · rw [if_pos h]
    generalize lwQ f l np nf V X = q
    by_cases h2 : er q.2.2.2 = 0
    · rw [if_pos h2]
      dsimp only
      rw [up_2, up_2]
      unfold lwA
      rw [ask_2, lwV_2]
    · rw [if_neg h2]
      dsimp only
      rw [lwV_2]
  · rw [if_neg h]
theorem ll_2 {f : Nat → Int32} {l nf np : Nat} : ∀ (g : Nat) (V : hV) (T : hP), (lwL f l nf np g V T).1.2 = V.2
  | 0, _, _ => rfl
  | g + 1, V, T => by
    unfold lwL
    by_cases h : er T = 0
    · rw [if_pos h]
      by_cases h2 : nlB f l T 3 2195162545188048470124 = true
      · rw [if_pos h2, ll_2 g, lwF_2]
      · rw [if_neg h2]
    · rw [if_neg h]
theorem pnL_2 {f : Nat → Int32} {l m : Nat} {V : hV} {Y : hP} : (pnL f l V Y m).2 = V.2 := rfl
theorem pn_2 {f : Nat → Int32} {l nf m : Nat} {V : hV} {T : hP} : (pnF f l nf m V T).1.2 = V.2 := by
  unfold pnF
  generalize muP (if m < 5 then 1 else 0) 3 T = X
  by_cases h : er X = 0
  · rw [if_pos h]
    generalize pnY (V.1 313) f l m X = Y
    by_cases h2 : er Y = 0
    · rw [if_pos h2]
      dsimp only
      rw [up_2, up_2, pnL_2]
    · rw [if_neg h2]
  · rw [if_neg h]
theorem rl_2 {f : Nat → Int32} {l nf b : Nat} {V : hV} {T : hP} : (rlF f l nf b V T).1.2 = V.2 := by
  unfold rlF
  generalize rlK f l nf V T = K
  by_cases h : er K.2 = 0
  · rw [if_pos h]
    dsimp only
    rw [up_2]
  · rw [if_neg h]
theorem pl_2 {f : Nat → Int32} {l nf : Nat} : ∀ (g : Nat) (V : hV) (T : hP), (plL f l nf g V T).1.2 = V.2
  | 0, _, _ => rfl
  | g + 1, V, T => by
    unfold plL
    by_cases h : er T = 0
    · rw [if_pos h]
      by_cases h2 : byt f l (sk f l T.1) = -1
      · rw [if_pos h2]
      · rw [if_neg h2]
        generalize sgP f l 59 (nxP f l T) = X
        by_cases h3 : seB f l X 6 160765180144170663739740739734469041235173086068848 = true
        · rw [if_pos h3, pl_2 g, pn_2]
        · rw [if_neg h3]
          by_cases h4 : er (reP f l X) = 0
          · rw [if_pos h4]
            dsimp only
            rw [rl_2, up_2]
          · rw [if_neg h4]
    · rw [if_neg h]
theorem rs_2 {f : Nat → Int32} {l nf : Nat} {V : hV} {T : hP} : (rsF f l nf V T).1.2 = V.2 := by
  have h9 := ll_2 (f := f) (l := l) (nf := nf) (np := 0) 9 V T
  unfold rsF
  generalize lwL f l nf 0 9 V T = B at h9 ⊢
  by_cases h : er B.2 = 0
  · rw [if_pos h]
    generalize peP f l B.2 = P
    by_cases h2 : er P = 0
    · rw [if_pos h2, pl_2, pn_2, h9]
    · rw [if_neg h2, pl_2, h9]
  · rw [if_neg h, h9]
theorem rtH_2 (W : hV) : (rtH W).2 = W.2 := rfl
theorem rtE_2 (V : hV) (T : hP) : (rtE V T).2 = V.2 := rfl
theorem cpV_2 (V : hV) (f a t b n : Nat) : (cpV V f a t b n).2 = V.2 := rfl
theorem rt_2 (f : Nat → Int32) (l : Nat) (V : hV) : (rtF f l V).2.2 = V.2 := by
  have h0 : (rt0 V).2 = V.2 := rfl
  have hA : (rtA f l V).1.2 = V.2 := by
    unfold rtA
    rw [fl_2, h0]
  have hB : (rtB f l V).1.2 = V.2 := by
    unfold rtB rtA1
    generalize rtA f l V = A at hA ⊢
    by_cases h : er A.2 = 0
    · rw [if_pos h, rs_2, up_2, hA]
    · rw [if_neg h]
      dsimp only
      rw [up_2, hA]
  unfold rtF
  generalize rtB f l V = B at hB ⊢
  by_cases h : er B.2 = 0
  · rw [if_pos h]
    dsimp only
    rw [rtH_2, rtE_2, hB]
  · rw [if_neg h]
    dsimp only
    rw [cpV_2, rtE_2, hB]
/-- the reference's readText: what it answers and what it leaves -/
theorem x_readText {S : ww_S} {sh : List mm_C} {V : hV} (hM : MS sh) (hI : RI V) {l : Nat} (hl : V.1 312 10 = Int32.ofNat l) (h6 : l ≤ 600) : EVQ S 195 236 [.ref 312] (hH sh V) (fun v g => rP sh V 0 v g ∧ v = .inl (some (.int (rtF (V.1 319) l V).1)) ∧ g = hH sh (rtF (V.1 319) l V).2) := (r_readText (S := S) hM hI).and ⟨_, _, e_readText (S := S) hM ⟨hl, h6, rfl⟩, rfl, rfl⟩
/-- the class's readText: what it answers and what it leaves -/
def rxA (sh : List mm_C) (V : hV) (l : Nat) : mm_V → mm_H → Prop := fun v g => ∃ (s : List mm_C) (W : hV), FX 6 0 sh V s W ∧ ((dsA (V.1 66) l = none ∧ v = .inr 15 ∧ g = hH s W ++ [.inr (.inr (15, []))]) ∨ ∃ t, dsA (V.1 66) l = some t ∧ v = .inl (some (.int (bcF t.2.2.2.2.2.1))) ∧ g = hH s W)
theorem x_read {S : ww_S} {sh : List mm_C} {V : hV} {l : Nat} (hW : WI sh) (hl : 260 ≤ sh.length) (hB : SBok sh V) (hC : CN sh V) (h4 : V.1 65 4 = Int32.ofNat l) (h6 : l ≤ 600) : EVQ S 10 100 [.ref 64] (hH sh V) (rxA sh V l) := by
  refine ((cw100 (S := S) hW hl hB hC).and (s_readText (S := S) (f := V.1 66) (l := l) ⟨hW.2.1.2.1, h4, h6, rfl⟩ hl hW hB (wf_ok h6))).imp fun v g ⟨⟨s, W, f, h1⟩, h2⟩ => ⟨s, W, f, ?_⟩
  rcases h1 with ⟨x, rfl, rfl⟩ | ⟨rfl, rfl⟩
  · rcases h2 with ⟨_, z⟩ | ⟨t, a1, a2, _⟩
    · cases z
    · exact Or.inr ⟨t, a1, a2, rfl⟩
  · rcases h2 with ⟨a, _⟩ | ⟨t, _, z, _⟩
    · exact Or.inl ⟨a, rfl, rfl⟩
    · cases z
/-- the same bytes: an error on both sides, or the same answer -/
theorem rt_like {f f' : Nat → Int32} {l : Nat} (h : ∀ k, k < l → f k = f' k ∧ ∃ b : Nat, b ≤ 255 ∧ f' k = Int32.ofNat b) (h6 : l ≤ 600) (V : hV) : (dsA f l = none ∧ (rtF f' l V).2.1 312 6 = 1) ∨ ∃ t, dsA f l = some t ∧ (rtF f' l V).2.1 312 6 = 0 ∧ (rtF f' l V).1 = bcF t.2.2.2.2.2.1 := by
  rw [cg_dsA (byt_cg fun k hk => (h k hk).1), rt_6]
  rcases rt_ans (f := f') (fun k hk => (h k hk).2) h6 V with ⟨a1, a2⟩ | ⟨t, a1, a2, _, a4⟩
  · refine Or.inl ⟨a1, ?_⟩
    rw [decide_eq_false a2]
    rfl
  · refine Or.inr ⟨t, a1, ?_, a4⟩
    rw [decide_eq_true a2]
    rfl
end N_zt
