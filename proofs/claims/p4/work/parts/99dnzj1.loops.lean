section N_zj
/-! ===== a formula on both sides: the loops ===== -/
section NF
variable {G f : Nat → Int32} {l bs : Nat} {pl : Bool} {Gf Gp : Nat → Int32} {cf cp : Nat}
theorem k256 {x c d : Int32} (h : d + 256 = c) : x - 256 = d ↔ x = c := ⟨fun e => by rw [← Int32.sub_add_cancel x 256, e, h], fun e => by rw [e, ← h, Int32.add_sub_cancel]⟩
theorem cr_er {t : hS} (h : t.2.1 = true) : ∀ (g : Nat) (n : Bool), cRd f l Gf cf Gp cp pl g n t = t
  | 0, n => rfl
  | g + 1, n => by
    unfold cRd
    exact if_pos h
theorem cr_jn {t : hS} {g : Nat} (h : t.2.1 = false) (hk : kdE f l t.1 - 256 = 6 ∨ kdE f l t.1 - 256 = 7) : cRd f l Gf cf Gp cp pl (g + 1) false t = cRd f l Gf cf Gp cp pl g true (joC f l t) := by
  have e : cRd f l Gf cf Gp cp pl (g + 1) false t = if t.2.1 = true then t else if false = true then cRd f l Gf cf Gp cp pl g (itC f l Gf cf Gp cp pl t).1 (itC f l Gf cf Gp cp pl t).2 else if kdE f l t.1 - 256 = 6 ∨ kdE f l t.1 - 256 = 7 then cRd f l Gf cf Gp cp pl g true (joC f l t) else if 0 < t.2.2.2.1 then cRd f l Gf cf Gp cp pl g false (clC f l t) else t := rfl
  rw [e, h, if_neg (by decide), if_neg (by decide), if_pos hk]
theorem cr_it {t : hS} {g : Nat} (h : t.2.1 = false) : cRd f l Gf cf Gp cp pl (g + 1) true t = cRd f l Gf cf Gp cp pl g (itC f l Gf cf Gp cp pl t).1 (itC f l Gf cf Gp cp pl t).2 := by
  have e : cRd f l Gf cf Gp cp pl (g + 1) true t = if t.2.1 = true then t else if true = true then cRd f l Gf cf Gp cp pl g (itC f l Gf cf Gp cp pl t).1 (itC f l Gf cf Gp cp pl t).2 else if kdE f l t.1 - 256 = 6 ∨ kdE f l t.1 - 256 = 7 then cRd f l Gf cf Gp cp pl g true (joC f l t) else if 0 < t.2.2.2.1 then cRd f l Gf cf Gp cp pl g false (clC f l t) else t := rfl
  rw [e, h, if_neg (by decide), if_pos rfl]
theorem cr_cl {t : hS} {g : Nat} (h : t.2.1 = false) (hk : ¬ (kdE f l t.1 - 256 = 6 ∨ kdE f l t.1 - 256 = 7)) (ho : 0 < t.2.2.2.1) : cRd f l Gf cf Gp cp pl (g + 1) false t = cRd f l Gf cf Gp cp pl g false (clC f l t) := by
  have e : cRd f l Gf cf Gp cp pl (g + 1) false t = if t.2.1 = true then t else if false = true then cRd f l Gf cf Gp cp pl g (itC f l Gf cf Gp cp pl t).1 (itC f l Gf cf Gp cp pl t).2 else if kdE f l t.1 - 256 = 6 ∨ kdE f l t.1 - 256 = 7 then cRd f l Gf cf Gp cp pl g true (joC f l t) else if 0 < t.2.2.2.1 then cRd f l Gf cf Gp cp pl g false (clC f l t) else t := rfl
  rw [e, h, if_neg (by decide), if_neg (by decide), if_neg hk, if_pos ho]
/-- the reference goes on with an error: it stays -/
theorem co_bad {s : Nat} {T : hP} (h : ¬ er T = 0) : ¬ er (coP s T) = 0 := fun z => h (mu_er (by decide) z)
theorem rd_bad : ∀ (g md : Nat) (k : Int32) (q : hQ), ¬ er q.2.2.2 = 0 → ¬ er (rd G f l bs pl cp cf g md k q).2.2.2.2 = 0
  | 0, md, k, q, h => h
  | g + 1, md, k, q, h => by
    have jn : ∀ (n N m2 lp : Nat) (kd : Int32), ¬ er (jnQ f l bs (rd G f l bs pl cp cf g) n N m2 lp kd k q).2.2.2.2 = 0 := fun n N m2 lp kd => by
      unfold jnQ
      have e : seB f l q.2.2.2 n N = false := by
        unfold seB
        rw [decide_eq_false h, Bool.false_and]
      rw [e, if_neg (by decide)]
      exact h
    match md with
    | 0 =>
      show ¬ er (itQ G f l bs pl cp cf (rd G f l bs pl cp cf g) q).2.2.2.2 = 0
      unfold itQ
      rw [if_neg h]
      exact h
    | 1 => exact rd_bad g 3 _ _ (rd_bad g 0 0 q h)
    | 2 => exact rd_bad g 4 _ _ (rd_bad g 1 0 q h)
    | 3 => exact jn _ _ _ _ _
    | m + 4 => exact jn _ _ _ _ _
/-- both sides behind a run: an error on both; or the class holds r over base, as the reference has made it -/
def FIN (f : Nat → Int32) (l bs : Nat) (pl : Bool) (Gf : Nat → Int32) (cf : Nat) (Gp : Nat → Int32) (cp d G0 : Nat) (needs : Bool) (t : hS) (base : hW) (B : Int32) (C : Nat → Prop) (st : List Nat) (R : Int32 × hQ) : Prop := (¬ er R.2.2.2.2 = 0 ∧ (cRd f l Gf cf Gp cp pl G0 needs t).2.1 = true) ∨ ∃ (G' : Nat) (t' : hS) (r : hW) (k : Nat), cRd f l Gf cf Gp cp pl G0 needs t = cRd f l Gf cf Gp cp pl G' false t' ∧ l + 1 ≤ G' + t'.1 ∧ t.1 + d ≤ t'.1 ∧ t'.2.2.1 = base ++ r.reverse ∧ (∀ x, x ∈ r → x.1 ≤ B) ∧ CQ f l bs pl t' R.2 r (k :: st) ∧ R.1 = Int32.ofNat k ∧ C t'.1
theorem FIN.tr {d G0 : Nat} {needs : Bool} {t : hS} {base : hW} {B B1 : Int32} {C C1 : Nat → Prop} {st : List Nat} {R1 R2 : Int32 × hQ} (h : FIN f l bs pl Gf cf Gp cp d G0 needs t base B1 C1 st R1) (hb : ¬ er R1.2.2.2.2 = 0 → ¬ er R2.2.2.2.2 = 0) (hk : ∀ (G' : Nat) (t' : hS) (r : hW) (k : Nat), l + 1 ≤ G' + t'.1 → t.1 + d ≤ t'.1 → t'.2.2.1 = base ++ r.reverse → (∀ x, x ∈ r → x.1 ≤ B1) → CQ f l bs pl t' R1.2 r (k :: st) → R1.1 = Int32.ofNat k → C1 t'.1 → FIN f l bs pl Gf cf Gp cp 0 G' false t' base B C st R2) : FIN f l bs pl Gf cf Gp cp d G0 needs t base B C st R2 := by
  rcases h with ⟨h1, h2⟩ | ⟨G', t', r, k, h1, h2, h3, h4, h5, h6, h7, h8⟩
  · exact Or.inl ⟨hb h1, h2⟩
  · rcases hk G' t' r k h2 h3 h4 h5 h6 h7 h8 with ⟨a1, a2⟩ | ⟨G2, t2, r2, k2, a1, a2, a3, a4, a5, a6, a7, a8⟩
    · exact Or.inl ⟨a1, by rw [h1]; exact a2⟩
    · exact Or.inr ⟨G2, t2, r2, k2, h1.trans a1, a2, by omega, a4, a5, a6, a7, a8⟩
theorem top_app {base : hW} {y : Int32 × Int32} {s : Int32} (h : ¬ y.1 ≤ s) : ∀ x, (base ++ [y])[(base ++ [y]).length - 1]? = some x → ¬ x.1 ≤ s := fun x hx => by
  rw [List.length_append, List.length_singleton, Nat.add_sub_cancel, List.getElem?_append_right (Nat.le_refl _), Nat.sub_self] at hx
  have hx : some y = some x := hx
  rw [← Option.some.inj hx]
  exact h
/-- a join begins: the class releases, the reference counts -/
theorem jo_st {t : hS} {q : hQ} {r base : hW} {st : List Nat} {s c : Int32} {G0 : Nat} (hQ9 : CQ f l bs pl t q r st) (hw : t.2.2.1 = base ++ r.reverse) (hr : ∀ x, x ∈ r → x.1 ≤ s) (htop : ∀ x, base[base.length - 1]? = some x → ¬ x.1 ≤ s) (hs : s = 6 ∨ s = 7) (hk : kdE f l t.1 = c) (hc : s + 256 = c) (hg : l + 1 ≤ G0 + t.1) (hwl : ¬ wl f l t.1 = 0) : (¬ er (coP q.2.1 (nxP f l q.2.2.2)) = 0 ∧ (cRd f l Gf cf Gp cp pl G0 false t).2.1 = true) ∨ ∃ (G1 : Nat) (t1 : hS), cRd f l Gf cf Gp cp pl G0 false t = cRd f l Gf cf Gp cp pl G1 true t1 ∧ er (coP q.2.1 (nxP f l q.2.2.2)) = 0 ∧ l + 1 ≤ G1 + t1.1 ∧ t.1 + 1 ≤ t1.1 ∧ t1.2.2.1 = base ++ [(s, 0)] ∧ CQ f l bs pl t1 (q.1, q.2.1 + 1, q.2.2.1, goP (coP q.2.1 (nxP f l q.2.2.2))) [] st := by
  obtain ⟨p, e9, ws, op, nd, fo⟩ := t
  obtain ⟨h1, h2, h3, h4, h5, h6, h7, h8, h9⟩ := hQ9
  obtain rfl : e9 = false := h1
  have hw : ws = base ++ r.reverse := hw
  have h3 : nd = q.2.1 := h3
  have hkd : kdE f l p - 256 = s := (k256 hc).mpr hk
  have hj : kdE f l p - 256 = 6 ∨ kdE f l p - 256 = 7 := by rw [hkd]; exact hs
  obtain ⟨hpl, hnx⟩ := wd_nx hwl
  have hpl : p < l := hpl
  obtain ⟨G1, rfl⟩ : ∃ G1, G0 = G1 + 1 := ⟨G0 - 1, by have hg : l + 1 ≤ G0 + p := hg; omega⟩
  have hg : l + 1 ≤ G1 + 1 + p := hg
  have hcr := cr_jn (f := f) (l := l) (Gf := Gf) (cf := cf) (Gp := Gp) (cp := cp) (pl := pl) (t := (p, false, ws, op, nd, fo)) (g := G1) rfl hj
  have hrel : relF s ws.length ws fo = (base, fo ++ r) := by rw [hw]; exact relF_pre htop r fo hr
  have hI := inv_jo (f := f) (l := l) h5 hj
  have hgt := (nx_gt (f := f) hpl)
  by_cases c60 : nd < 60
  · have ejo : joC f l (p, false, ws, op, nd, fo) = (nxE f l p, false, base ++ [(s, 0)], op, nd + 1, fo ++ r) := by
      unfold joC
      dsimp only
      rw [if_pos c60, hkd, hrel]
    rw [ejo] at hcr hI
    have h60 : q.2.1 + 1 ≤ 60 := by omega
    have eco : coP q.2.1 (nxP f l q.2.2.2) = muP 1 3 (nxP f l q.2.2.2) := by
      unfold coP
      rw [if_pos h60]
    refine Or.inr ⟨G1, _, hcr, ?_, ?_, ?_, rfl, rfl, ?_, ?_, h4, hI, ?_, ?_, ?_, ?_⟩
    · rw [eco, er_mu1]
      exact h2.1.mpr rfl
    · show l + 1 ≤ G1 + nxE f l p
      omega
    · exact hgt.1
    · show RE f l (nxE f l p) false (goP (coP q.2.1 (nxP f l q.2.2.2)))
      rw [eco]
      exact re_go h2 hwl 3
    · show nd + 1 = q.2.1 + 1
      omega
    · show q.1 bs = Int32.ofNat ((fo ++ r).length + 0)
      rw [List.length_append, Nat.add_zero]
      exact h6
    · show ndR q.1 bs ((fo ++ r) ++ []) [] 0 st
      rw [List.append_nil]
      exact h7
    · show ∀ x, x ∈ (fo ++ r) ++ [] → OKX pl x
      rw [List.append_nil]
      exact h8
    · exact hgt.2
  · refine Or.inl ⟨?_, ?_⟩
    · unfold coP
      rw [if_neg (by omega), er_mu0 (show er (nxP f l q.2.2.2) = 0 from h2.1.mpr rfl)]
      decide
    · have ejo : joC f l (p, false, ws, op, nd, fo) = (p, true, ws, op, nd, fo) := by
        unfold joC
        dsimp only
        rw [if_neg c60]
      rw [hcr, ejo, cr_er rfl]
end NF
end N_zj
