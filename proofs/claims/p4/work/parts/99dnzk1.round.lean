section N_zk
/-! ===== a formula on both sides: a round of a loop ===== -/
section NF
variable {G f : Nat → Int32} {l bs : Nat} {pl : Bool} {Gf Gp : Nat → Int32} {cf cp : Nat}
theorem FIN.pre {d d1 G0 G1 : Nat} {n n1 : Bool} {t t1 : hS} {base : hW} {B : Int32} {C : Nat → Prop} {st : List Nat} {R : Int32 × hQ} (h : FIN f l bs pl Gf cf Gp cp d1 G1 n1 t1 base B C st R) (e : cRd f l Gf cf Gp cp pl G0 n t = cRd f l Gf cf Gp cp pl G1 n1 t1) (hp : t.1 + d ≤ t1.1 + d1) : FIN f l bs pl Gf cf Gp cp d G0 n t base B C st R := by
  rcases h with ⟨a1, a2⟩ | ⟨G2, t2, r2, k2, a1, a2, a3, a4, a5, a6, a7, a8⟩
  · exact Or.inl ⟨a1, by rw [e]; exact a2⟩
  · exact Or.inr ⟨G2, t2, r2, k2, e.trans a1, a2, by omega, a4, a5, a6, a7, a8⟩
theorem FIN.imp {d G0 : Nat} {n : Bool} {t : hS} {base : hW} {B B1 : Int32} {C C1 : Nat → Prop} {st : List Nat} {R : Int32 × hQ} (h : FIN f l bs pl Gf cf Gp cp d G0 n t base B1 C1 st R) (hB : ∀ x : Int32, x ≤ B1 → x ≤ B) (hC : ∀ p, C1 p → C p) : FIN f l bs pl Gf cf Gp cp d G0 n t base B C st R := by
  rcases h with h | ⟨G2, t2, r2, k2, a1, a2, a3, a4, a5, a6, a7, a8⟩
  · exact Or.inl h
  · exact Or.inr ⟨G2, t2, r2, k2, a1, a2, a3, a4, fun x hx => hB _ (a5 x hx), a6, a7, hC _ a8⟩
/-- a round of a loop over a join -/
theorem lp_step {R : hR} (hbad : ∀ md k (q : hQ), ¬ er q.2.2.2 = 0 → ¬ er (R md k q).2.2.2.2 = 0) {n N md lp : Nat} {kd c s Bi : Int32} {C Ci : Nat → Prop} {t : hS} {q : hQ} {r base : hW} {st : List Nat} {k G0 : Nat} (hLW : LW n N = true) (hkd : kdE f l t.1 = c ↔ spB f l t.1 n N = true) (hkm : kM s = kd) (hc : s + 256 = c) (hs : s = 6 ∨ s = 7) (hBi : ∀ x : Int32, x ≤ Bi → x ≤ s) (hw1 : kdE f l t.1 = c → ¬ wl f l t.1 = 0)
    (hQ9 : CQ f l bs pl t q r (k :: st)) (hw : t.2.2.1 = base ++ r.reverse) (hr : ∀ x, x ∈ r → x.1 ≤ s) (htop : ∀ x, base[base.length - 1]? = some x → ¬ x.1 ≤ s) (hg : l + 1 ≤ G0 + t.1) (hC : ¬ kdE f l t.1 = c → C t.1)
    (IHi : ∀ (t1 : hS) (q1 : hQ) (G1 : Nat), CQ f l bs pl t1 q1 [] (k :: st) → t1.2.2.1 = base ++ [(s, 0)] → l + 1 ≤ G1 + t1.1 → t.1 + 1 ≤ t1.1 → FIN f l bs pl Gf cf Gp cp 1 G1 true t1 (base ++ [(s, 0)]) Bi Ci (k :: st) (R md 0 q1))
    (IHl : ∀ (t2 : hS) (q2 : hQ) (r2 : hW) (k2 G2 : Nat), CQ f l bs pl t2 q2 r2 (k2 :: st) → t2.2.2.1 = base ++ r2.reverse → (∀ x, x ∈ r2 → x.1 ≤ s) → l + 1 ≤ G2 + t2.1 → t.1 + 1 ≤ t2.1 → Ci t2.1 → FIN f l bs pl Gf cf Gp cp 0 G2 false t2 base s C st (R lp (Int32.ofNat k2) q2)) :
    FIN f l bs pl Gf cf Gp cp 0 G0 false t base s C st (jnQ f l bs R n N md lp kd (Int32.ofNat k) q) := by
  have h2 := hQ9.2.1
  have e0 := h2.1.mpr rfl
  obtain ⟨hp, hT⟩ := h2.2 rfl
  have hse : seB f l q.2.2.2 n N = spB f l t.1 n N := by
    unfold seB
    rw [decide_eq_true e0, Bool.true_and, se_sp hLW, ← hp]
  unfold jnQ
  rw [hse]
  by_cases hk : kdE f l t.1 = c
  · rw [hkd.mp hk, if_pos rfl]
    rcases jo_st (Gf := Gf) (cf := cf) (Gp := Gp) (cp := cp) hQ9 hw hr htop hs hk hc hg (hw1 hk) with ⟨a1, a2⟩ | ⟨G1, t1, a1, a2, a3, a4, a5, a6⟩
    · rw [if_neg a1]
      exact Or.inl ⟨a1, a2⟩
    · rw [if_pos a2]
      have F1 := IHi t1 _ G1 a6 a5 a3 a4
      obtain ⟨R1, hR1⟩ : ∃ R1, R md 0 (q.1, q.2.1 + 1, q.2.2.1, goP (coP q.2.1 (nxP f l q.2.2.2))) = R1 := ⟨_, rfl⟩
      rw [hR1] at F1 ⊢
      rcases F1 with ⟨b1, b2⟩ | ⟨G', t', r2, k2, b1, b2, b3, b4, b5, b6, b7, b8⟩
      · exact Or.inl ⟨hbad _ _ _ b1, by rw [a1]; exact b2⟩
      · have hr7 : ∀ x, x ∈ r2 → x.1 ≤ 7 := fun x hx => by
          have z := hBi _ (b5 x hx)
          rcases hs with e | e
          · rw [e] at z
            exact Int32.le_trans z (by decide)
          · rw [e] at z
            exact z
        obtain ⟨m1, m2⟩ := cq_len b6 b4 hr7
        have hs7 : s ≤ 7 := by
          rcases hs with e | e
          · rw [e]
            decide
          · rw [e]
            decide
        have hnp : npF (base ++ [(s, 0)]) = npF base + 1 := by
          rw [np_app, if_pos hs7]
        have hs0 : ¬ s = 0 := by
          rcases hs with e | e
          · rw [e]
            decide
          · rw [e]
            decide
        have mk := cq_mk (x := (s, 0)) (a := Int32.ofNat k) (c := R1.1) (st' := (t'.2.2.2.2.2 ++ r2).length :: st) b6 (by omega) ⟨fun z => absurd z hs0, fun _ => Or.inr (Or.inr hs)⟩ (fun F' f1 f2 f3 => ⟨f1, Or.inr (Or.inr ⟨hs, k2, k, st, rfl, f2, f3.trans b7, rfl⟩)⟩)
        rw [show kM ((s, (0 : Int32)) : Int32 × Int32).1 = kd from hkm] at mk
        obtain ⟨c1, c2, c3⟩ := mk
        rw [c2]
        refine FIN.pre (d1 := 0) (IHl t' _ (r2 ++ [(s, 0)]) _ G' c1 ?_ (fun x hx => ?_) b2 (by omega) b8) (a1.trans b1) (by omega)
        · rw [b4, List.reverse_append, List.reverse_singleton, List.append_assoc]
        · rcases List.mem_append.mp hx with z | z
          · exact hBi _ (b5 x z)
          · rw [List.mem_singleton.mp z]
            exact Int32.le_refl s
  · have hn : spB f l t.1 n N = false := Bool.eq_false_iff.mpr fun z => hk (hkd.mpr z)
    rw [hn, if_neg (by decide)]
    refine Or.inr ⟨G0, t, r, k, rfl, hg, by omega, hw, hr, ?_, rfl, hC hk⟩
    obtain ⟨h1, h2, h3⟩ := hQ9
    exact ⟨h1, re_nx h2, h3⟩
end NF
end N_zk
