section N_za
/-! ===== the tokens of both sides ===== -/
theorem wl_0 {f : Nat → Int32} {l p : Nat} : wl f l p = 0 ↔ ltr (byt f l p) = false := by
  rw [wl_is]
  exact ⟨fun h => h.2, fun h => ⟨fun i hi => absurd hi (Nat.not_lt_zero _), h⟩⟩
theorem ltr_l {f : Nat → Int32} {l p : Nat} (h : ltr (byt f l p) = true) : p < l := by
  refine Nat.lt_of_not_le fun c => ?_
  rw [show byt f l p = -1 from if_neg (by omega)] at h
  exact absurd h (by decide)
theorem kw_big {f : Nat → Int32} {l p : Nat} {c : Int32} (hc : c < 256) : ¬ kwK f l p = c := by
  unfold kwK
  intro h
  have key : ∀ (b : Bool) (x y : Int32), ¬ x < 256 → ¬ y < 256 → ¬ (if b = true then x else y) < 256 := fun b x y h1 h2 => by cases b <;> assumption
  refine absurd hc ?_
  rw [← h]
  exact key _ _ _ (by decide) (key _ _ _ (by decide) (key _ _ _ (by decide) (key _ _ _ (by decide) (key _ _ _ (by decide) (key _ _ _ (by decide) (key _ _ _ (by decide) (key _ _ _ (by decide) (by decide))))))))
theorem sg_k {f : Nat → Int32} {l p : Nat} {c : Int32} (hc : c < 256) (h0 : ¬ c = -1) (hl : ltr c = false) : kdE f l p = c ↔ byt f l p = c := by
  unfold kdE
  by_cases h : p < l
  · rw [if_pos h]
    unfold kdF
    by_cases w : wl f l p = 0
    · rw [if_pos w]
    · rw [if_neg w]
      have hb : ¬ byt f l p = c := fun z => w (wl_0.mpr (by rw [z]; exact hl))
      refine ⟨fun z => ?_, fun z => absurd z hb⟩
      by_cases w6 : 6 < wl f l p
      · rw [if_pos w6] at z
        rw [← z] at hc
        exact absurd hc (by decide)
      · rw [if_neg w6] at z
        exact absurd z (kw_big hc)
  · rw [if_neg h, show byt f l p = -1 from if_neg h]
    refine ⟨fun z => ?_, fun z => absurd z.symm h0⟩
    rw [← z] at hc
    exact absurd hc (by decide)
theorem sg_nx {f : Nat → Int32} {l p : Nat} {c : Int32} (h0 : ¬ c = -1) (hl : ltr c = false) (h : byt f l p = c) : p < l ∧ nxE f l p = sk f l (p + 1) := by
  have hp : p < l := by
    refine Nat.lt_of_not_le fun z => ?_
    rw [show byt f l p = -1 from if_neg (by omega)] at h
    exact h0 h.symm
  refine ⟨hp, ?_⟩
  unfold nxE wdN
  rw [if_pos hp, if_pos (wl_0.mpr (by rw [h]; exact hl))]
theorem wd_nx {f : Nat → Int32} {l p : Nat} (h : ¬ wl f l p = 0) : p < l ∧ nxE f l p = sk f l (p + wl f l p) := by
  have hp : p < l := ltr_l (by
    cases c : ltr (byt f l p) with
    | true => rfl
    | false => exact absurd (wl_0.mpr c) h)
  refine ⟨hp, ?_⟩
  unfold nxE wdN
  rw [if_pos hp, if_neg h]
/-- the class at p, with an error or not, beside the reference -/
def RE (f : Nat → Int32) (l p : Nat) (e : Bool) (T : hP) : Prop := (er T = 0 ↔ e = false) ∧ (e = false → p = sk f l T.1 ∧ T.1 ≤ l)
theorem RE.g {f : Nat → Int32} {l p : Nat} {T : hP} (h0 : er T = 0) (h1 : p = sk f l T.1) (h2 : T.1 ≤ l) : RE f l p false T := ⟨⟨fun _ => rfl, fun _ => h0⟩, fun _ => ⟨h1, h2⟩⟩
theorem RE.b {f : Nat → Int32} {l p : Nat} {T : hP} (h0 : ¬ er T = 0) : RE f l p true T := ⟨⟨fun z => absurd z h0, fun z => by cases z⟩, fun z => by cases z⟩
theorem re_sg {f : Nat → Int32} {l p : Nat} {T : hP} {c : Int32} (hc : c < 256) (h0 : ¬ c = -1) (hl : ltr c = false) (h : RE f l p false T) : RE f l (if kdE f l p = c then nxE f l p else p) (!decide (kdE f l p = c)) (sgP f l c T) := by
  have e0 := h.1.mpr rfl
  obtain ⟨rfl, hT⟩ := h.2 rfl
  have hS : sgP f l c T = upP (muP (if byt f l (sk f l T.1) = c then 1 else 0) 1 (nxP f l T)) := if_pos e0
  rw [hS]
  by_cases k : kdE f l (sk f l T.1) = c
  · rw [if_pos k, decide_eq_true k]
    have b := (sg_k hc h0 hl).mp k
    rw [if_pos b]
    obtain ⟨q1, q2⟩ := sg_nx h0 hl b
    rw [q2]
    refine RE.g ?_ rfl (show sk f l T.1 + 1 ≤ l from q1)
    show er (muP 1 1 (nxP f l T)) = 0
    rw [er_mu1]
    exact e0
  · rw [if_neg k, decide_eq_false k, if_neg (fun z => k ((sg_k hc h0 hl).mpr z))]
    refine RE.b ?_
    show ¬ er (muP 0 1 (nxP f l T)) = 0
    rw [er_mu0 (show er (nxP f l T) = 0 from e0)]
    decide
theorem re_wd {f : Nat → Int32} {l p : Nat} {T : hP} (h : RE f l p false T) (hw : ¬ wl f l p = 0) : RE f l (nxE f l p) false (goP (nxP f l T)) := by
  have e0 := h.1.mpr rfl
  obtain ⟨rfl, hT⟩ := h.2 rfl
  obtain ⟨q1, q2⟩ := wd_nx hw
  rw [q2]
  exact RE.g e0 rfl (show sk f l T.1 + wl f l (sk f l T.1) ≤ l from wl_le (by omega))
end N_za
