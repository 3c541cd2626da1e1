section M13
/-! ===== the reference: the whole reading of a formula ===== -/
theorem dI_le {s s' o : Nat} (h : s ≤ s') : dI s' o ≤ dI s o := by
  unfold dI; omega
def RdOk (S : ww_S) (sh : List mm_C) (V : hV) (G f : Nat → Int32) (l bs : Nat) (pl : Bool) (np nf : Nat) (R : hR) (g : Nat) : Prop :=
  (∀ (k : Int32) (q : hQ), OKq l bs q → 4 * (l + 2 - q.2.2.2.1) + 1 ≤ g → EVq S sh V (dI q.2.1 q.2.2.1) 225 q (R 0 k q) ∧ Rl l bs q (R 0 k q).2) ∧
  (∀ (k : Int32) (q : hQ), OKq l bs q → 4 * (l + 2 - q.2.2.2.1) + 2 ≤ g → EVq S sh V (dI q.2.1 q.2.2.1 + 1) 226 q (R 1 k q) ∧ Rl l bs q (R 1 k q).2) ∧
  (∀ (k : Int32) (q : hQ), OKq l bs q → 4 * (l + 2 - q.2.2.2.1) + 3 ≤ g → EVq S sh V (dI q.2.1 q.2.2.1 + 2) 227 q (R 2 k q) ∧ Rl l bs q (R 2 k q).2) ∧
  (∀ (k : Int32) (q : hQ) (D : Nat), OKq l bs q → 4 * (l + 2 - q.2.2.2.1) + 1 ≤ g → dI q.2.1 q.2.2.1 ≤ D → WP S D mm_m226 5 [some (.ref 312), some (.int k)] [] (hH sh (fq V q)) (qe (.inl (some (.int (R 3 k q).1))) (hH sh (fq V (R 3 k q).2))) ∧ Rl l bs q (R 3 k q).2) ∧
  (∀ (k : Int32) (q : hQ) (D : Nat), OKq l bs q → 4 * (l + 2 - q.2.2.2.1) + 1 ≤ g → dI q.2.1 q.2.2.1 + 1 ≤ D → WP S D mm_m227 5 [some (.ref 312), some (.int k)] [] (hH sh (fq V q)) (qe (.inl (some (.int (R 4 k q).1))) (hH sh (fq V (R 4 k q).2))) ∧ Rl l bs q (R 4 k q).2)
theorem rd_ok {S : ww_S} {sh : List mm_C} {V : hV} {G f : Nat → Int32} {l bs : Nat} {pl : Bool} {np nf : Nat} (hM : MS sh) (hC : RC V G f l bs pl np nf) (g : Nat) : RdOk S sh V G f l bs pl np nf (rd G f l bs pl np nf g) g := by
  induction g with
  | zero => exact ⟨fun k q hq hg => by omega, fun k q hq hg => by omega, fun k q hq hg => by omega, fun k q D hq hg => by omega, fun k q D hq hg => by omega⟩
  | succ g ih =>
    obtain ⟨ihit, ihpt, ihal, ihlp, ihla⟩ := ih
    refine ⟨?_, ?_, ?_, ?_, ?_⟩
    · intro k q hq hg
      have h1 := hq.1
      exact it_ok hM hC hq (fun q' k1 k2 k3 k4 => ihit 0 q' k1 (by omega)) (fun q' k1 k2 k3 k4 => ihal 0 q' k1 (by omega))
    · intro k q hq hg
      have h1 := hq.1
      refine pt_ok hM (ihit 0 q hq (by omega)) (fun k' q' hr => ?_)
      obtain ⟨r1, r2, r3, r4⟩ := hr
      refine ihlp k' q' _ r4 (by omega) ?_
      rw [r3]
      exact dI_le r2
    · intro k q hq hg
      have h1 := hq.1
      refine al_ok hM (ihpt 0 q hq (by omega)) (fun k' q' hr => ?_)
      obtain ⟨r1, r2, r3, r4⟩ := hr
      refine ihla k' q' _ r4 (by omega) ?_
      rw [r3]
      exact Nat.succ_le_succ (dI_le r2)
    · intro k q D hq hg hD
      have h1 := hq.1
      refine jp_ok hM hC hq hD (fun q' k1 k2 k3 k4 => ihit 0 q' k1 (by omega)) (fun k' q' k1 k2 k3 k4 => ihlp k' q' D k1 (by omega) ?_)
      rw [k4]
      exact Nat.le_trans (dI_le k3) hD
    · intro k q D hq hg hD
      have h1 := hq.1
      refine ja_ok hM hC hq hD (fun q' k1 k2 k3 k4 => ihpt 0 q' k1 (by omega)) (fun k' q' k1 k2 k3 k4 => ihla k' q' D k1 (by omega) ?_)
      rw [k4]
      exact Nat.le_trans (Nat.succ_le_succ (dI_le k3)) hD
end M13
