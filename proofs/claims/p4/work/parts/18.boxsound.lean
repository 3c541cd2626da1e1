/-! ===== the machine over boxes follows the mini machine ===== -/
section MZ
variable {E : my_E} {xs : Nat → Int32} {X X' : mm_X} {h h' : mm_H} {L L' : mm_L} {st st' : List Value} {nx pc : Nat} {ax : List Nat} {i i0 : Instr} {a : mm_A}
def my_in (r : Option (Nat × Nat)) (n : Nat) : Prop := ∀ p, r = some p → p.1 ≤ n ∧ n ≤ p.2
/-- the numbers that the names stand for are in their ranges, their 'and's and the script are as the box says -/
def my_Ok (E : my_E) (xs : Nat → Int32) (X' : mm_X) : Prop :=
  (∀ t, my_in (my_iv E.2.1 t) (mm_sn (xs t))) ∧
  (∀ t c v, my_ru E.2.2.1 t c = some v → ∀ y : Int32, mm_un y = c → my_vr E.1 xs v (.int (xs t &&& y))) ∧
  (∀ n, E.2.2.2.2 = some n → X'.2.1.1 = n ∧ ∀ j v, E.2.2.2.1[j]? = some v → ∃ z, X'.2.1.2 j = some z ∧ my_vr E.1 xs v (.int z))
theorem my_sn_inj {x y : Int32} (e : mm_sn x = mm_sn y) : x = y := by
  unfold mm_sn at e
  have hx := mm_un_lt x
  have hy := mm_un_lt y
  have e2 : mm_un x = mm_un y := by omega
  refine (mm_eq_iff x y).mp ?_
  unfold mm_eq
  rw [Nat.beq_eq]
  exact e2
theorem my_lt_ok {a b : Option (Nat × Nat)} {m n : Nat} {c : Bool} (ha : my_in a m) (hb : my_in b n) (hc : my_lt a b = some c) : c = decide (m < n) := by
  unfold my_lt at hc
  split at hc
  · rename_i p q
    obtain ⟨p1, p2⟩ := ha p rfl
    obtain ⟨q1, q2⟩ := hb q rfl
    split at hc
    · rename_i hh
      rw [Nat.ble_eq] at hh
      cases hc
      symm
      rw [decide_eq_true_eq]
      omega
    · split at hc
      · rename_i hh
        rw [Nat.ble_eq] at hh
        cases hc
        symm
        rw [decide_eq_false_iff_not]
        omega
      · cases hc
  · cases hc
theorem my_eq_ok {a b : Option (Nat × Nat)} {m n : Nat} {c : Bool} (ha : my_in a m) (hb : my_in b n) (hc : my_eq a b = some c) : c = decide (m = n) := by
  unfold my_eq at hc
  split at hc
  · rename_i p q
    obtain ⟨p1, p2⟩ := ha p rfl
    obtain ⟨q1, q2⟩ := hb q rfl
    split at hc
    · rename_i hh
      rw [Bool.or_eq_true, Nat.ble_eq, Nat.ble_eq] at hh
      cases hc
      symm
      rw [decide_eq_false_iff_not]
      omega
    · split at hc
      · rename_i hh
        simp only [Bool.and_eq_true, Nat.ble_eq, Nat.beq_eq] at hh
        cases hc
        symm
        rw [decide_eq_true_eq]
        omega
      · cases hc
  · cases hc
theorem my_not_ok {o : Option Bool} {r : Bool} (e : my_not o = some r) : ∃ b, o = some b ∧ r = !b := by
  unfold my_not at e
  split at e
  · cases e
    exact ⟨_, rfl, rfl⟩
  · cases e
theorem my_cnd_ok {c : ClassFile.Cond} {a b : Option (Nat × Nat)} {x y : Int32} {r : Bool} (ha : my_in a (mm_sn x)) (hb : my_in b (mm_sn y)) (e : my_cnd c a b = some r) : mm_cnd c x y = r := by
  have e1 : ∀ x y : Int32, mm_lt x y = decide (mm_sn x < mm_sn y) := fun x y => by
    rw [Bool.eq_iff_iff, decide_eq_true_eq]
    unfold mm_lt
    rw [Nat.ble_eq]
    exact Iff.rfl
  have e3 : mm_eq x y = decide (mm_sn x = mm_sn y) := by
    rw [Bool.eq_iff_iff, decide_eq_true_eq, mm_eq_iff]
    exact ⟨fun q => by rw [q], my_sn_inj⟩
  cases c with
  | eq => show mm_eq x y = r; rw [e3]; exact (my_eq_ok ha hb e).symm
  | ne =>
    obtain ⟨b, e4, rfl⟩ := my_not_ok (show my_not (my_eq _ _) = some r from e)
    show (!(mm_eq x y)) = _
    rw [e3, my_eq_ok ha hb e4]
  | lt => show mm_lt x y = r; rw [e1]; exact (my_lt_ok ha hb e).symm
  | ge =>
    obtain ⟨b, e4, rfl⟩ := my_not_ok (show my_not (my_lt _ _) = some r from e)
    show (!(mm_lt x y)) = _
    rw [e1, my_lt_ok ha hb e4]
  | gt => show mm_lt y x = r; rw [e1]; exact (my_lt_ok hb ha e).symm
  | le =>
    obtain ⟨b, e4, rfl⟩ := my_not_ok (show my_not (my_lt _ _) = some r from e)
    show (!(mm_lt y x)) = _
    rw [e1, my_lt_ok hb ha e4]
theorem my_cnd_some {c : ClassFile.Cond} {a b : Option (Nat × Nat)} {r : Bool} (e : my_cnd c a b = some r) : (∃ p, a = some p) ∧ ∃ q, b = some q := by
  have h1 : ∀ {a b : Option (Nat × Nat)} {r : Bool}, my_lt a b = some r → (∃ p, a = some p) ∧ ∃ q, b = some q := fun {a b r} e => by
    unfold my_lt at e
    split at e
    · exact ⟨⟨_, rfl⟩, ⟨_, rfl⟩⟩
    · cases e
  have h2 : ∀ {a b : Option (Nat × Nat)} {r : Bool}, my_eq a b = some r → (∃ p, a = some p) ∧ ∃ q, b = some q := fun {a b r} e => by
    unfold my_eq at e
    split at e
    · exact ⟨⟨_, rfl⟩, ⟨_, rfl⟩⟩
    · cases e
  cases c with
  | eq => exact h2 e
  | ne => obtain ⟨b, e4, -⟩ := my_not_ok (show my_not (my_eq _ _) = some r from e); exact h2 e4
  | lt => exact h1 e
  | ge => obtain ⟨b, e4, -⟩ := my_not_ok (show my_not (my_lt _ _) = some r from e); exact h1 e4
  | gt => exact (h1 (show my_lt _ _ = some r from e)).symm
  | le => obtain ⟨b, e4, -⟩ := my_not_ok (show my_not (my_lt _ _) = some r from e); exact (h1 e4).symm
theorem my_tkI {md : Bool} {t : Nat} {u : Value} (e : my_vr md xs (.retAddr t) u) : ∃ x, u = .int x := by
  cases t with
  | zero => exact e
  | succ k => exact ⟨_, e⟩
theorem my_isTI {md : Bool} {v u : Value} (e : my_vr md xs v u) (ht : my_isT v = true) : ∃ x, u = .int x := by
  cases v with
  | int x => exact ⟨_, e⟩
  | retAddr t => exact my_tkI e
  | _ => cases ht
theorem my_rg_ok (hE : my_Ok E xs X') {v : Value} {x : Int32} (hv : my_vr E.1 xs v (.int x)) : my_in (my_rg E v) (mm_sn x) := by
  intro p hp
  cases v with
  | int z =>
    have hv : Value.int x = .int z := hv
    cases hv
    unfold my_rg at hp
    dsimp only at hp
    rw [mm_fN_eq] at hp
    have hp := Option.some.inj hp
    subst hp
    exact ⟨Nat.le_refl _, Nat.le_refl _⟩
  | retAddr t =>
    cases t with
    | zero => cases hp
    | succ k =>
      have hv : Value.int x = .int (xs k) := hv
      cases hv
      exact hE.1 k p hp
  | _ => cases hp
theorem my_rg_some {v u : Value} (hv : my_vr E.1 xs v u) {p : Nat × Nat} (hp : my_rg E v = some p) : ∃ x, u = .int x := by
  cases v with
  | int z => exact ⟨_, hv⟩
  | retAddr t => exact my_tkI hv
  | _ => cases hp
theorem my_ext_sn (x : Int32) : mm_lsn x.toInt64 = mm_sn x + 9223372034707292160 := by
  obtain ⟨a, M, ha, la, hM, ta⟩ := mm_lN x.toInt64
  have e1 : x.toInt64.toInt = x.toInt := Int32.toInt_toInt64 x
  rw [e1, mm_toInt] at ta
  have hx := mm_un_lt x
  have hK : 9223372034707292160 = M - 2147483648 := by rw [hM]
  have hg : 2147483648 ≤ M := by rw [hM]; decide
  unfold mm_lsn mm_sn
  rw [ha, hK, ← hM]
  clear hK hM ha e1
  by_cases h1 : M ≤ a
  · rw [show Nat.ble M a = true from Nat.ble_eq.mpr h1]
    show a - M = _
    rw [if_neg (show ¬ a < M by omega)] at ta
    split at ta <;> omega
  · rw [show Nat.ble M a = false from by rw [← Bool.not_eq_true, Nat.ble_eq]; exact h1]
    show a + M = _
    rw [if_pos (show a < M by omega)] at ta
    split at ta <;> omega
theorem my_lrg_ok (hE : my_Ok E xs X') {v : Value} {z : Int64} (hv : my_vr E.1 xs v (.long z)) : my_in (my_lrg E v) (mm_lsn z) := by
  intro p hp
  cases v with
  | long y =>
    have hv : Value.long z = .long y := hv
    cases hv
    unfold my_lrg at hp
    dsimp only at hp
    rw [mm_fN_eq] at hp
    have hp := Option.some.inj hp
    subst hp
    exact ⟨Nat.le_refl _, Nat.le_refl _⟩
  | double b =>
    unfold my_lrg at hp
    dsimp only at hp
    split at hp
    · rename_i hm
      rw [hm] at hv
      have hv : Value.long z = .long (xs b.toNat).toInt64 := hv
      cases hv
      rw [my_ext_sn]
      split at hp
      · rename_i q hq
        have hp := Option.some.inj hp
        subst hp
        obtain ⟨g1, g2⟩ := hE.1 _ q hq
        exact ⟨Nat.add_le_add_right g1 _, Nat.add_le_add_right g2 _⟩
      · cases hp
    · cases hp
  | _ => cases hp
theorem my_lrg_some {v u : Value} (hv : my_vr E.1 xs v u) {p : Nat × Nat} (hp : my_lrg E v = some p) : ∃ x, u = .long x := by
  cases v with
  | long z => exact ⟨_, hv⟩
  | double b =>
    unfold my_lrg at hp
    dsimp only at hp
    split at hp
    · rename_i hm
      rw [hm] at hv
      exact ⟨_, hv⟩
    · cases hp
  | _ => cases hp
theorem my_fb (hX1 : X'.1 = X.1) (hX3 : X'.2.2 = X.2.2) (hXt : ∀ k c, X.1 k = some c → my_nt c = true) (hXn : ∀ k, X.2.1.2 k = none) (hh : my_hr h h') (hl : my_lr E.1 xs L L') (hst : my_sr E.1 xs st st') (h1 : my_db i = false) (h2 : i ≠ .arraylength) (h3 : (∀ x, i ≠ .getfield x) ∧ ∀ x, i ≠ .getstatic x) (h4 : my_nw i = false) (hs : mm_stp X h L st (pc, i, nx, ax) = some a) : ∃ a', mm_stp X' h' L' st' (pc, i, nx, ax) = some a' ∧ my_ar E.1 xs a a' :=
  my_par hX1 hX3 hXt hXn (fun z => by rw [h1] at z; cases z) (fun r z => (h2 z).elim) (fun q => q.elim (fun ⟨x, z⟩ => (h3.1 x z).elim) (fun ⟨x, z⟩ => (h3.2 x z).elim)) (fun t z => by rw [h4] at z; cases z) hh hl hst hs
theorem my_ildR (hl : my_lr E.1 xs L L') (hst : my_sr E.1 xs st st') {k : Nat} (hi : ∀ (X : mm_X) h L st, mm_stp X h L st (pc, i, nx, ax) = mm_ld nx L st k mm_isI) (hs : my_ild X h L st k (pc, i, nx, ax) = some a) : ∃ a', mm_stp X' h' L' st' (pc, i, nx, ax) = some a' ∧ my_ar E.1 xs a a' := by
  unfold my_ild at hs
  split at hs
  · rename_i t hg
    cases mi_go hs
    obtain ⟨u, e1, e2⟩ := my_get hl hg
    obtain ⟨x, rfl⟩ := my_tkI e2
    rw [hi]
    unfold mm_ld
    rw [e1]
    exact ⟨_, rfl, _, _, _, rfl, hl, ⟨e2, hst⟩, rfl⟩
  · rw [hi] at hs ⊢
    exact my_ldR my_okI hl hst hs
theorem my_istR (hl : my_lr E.1 xs L L') (hst : my_sr E.1 xs st st') {k : Nat} (hi : ∀ (X : mm_X) h L st, mm_stp X h L st (pc, i, nx, ax) = mm_s1 nx L st k mm_isI) (hs : my_ist X h L st k (pc, i, nx, ax) = some a) : ∃ a', mm_stp X' h' L' st' (pc, i, nx, ax) = some a' ∧ my_ar E.1 xs a a' := by
  unfold my_ist at hs
  split at hs
  · rename_i t r
    obtain ⟨v, r', L1, e0, g2, g3, rfl⟩ := mi_s1 hs
    cases e0
    obtain ⟨u, q, rfl, e1, e2⟩ := my_cons hst
    obtain ⟨x, rfl⟩ := my_tkI e1
    obtain ⟨L2, e3, e4⟩ := my_set1 hl g3 e1
    rw [hi]
    unfold mm_s1
    dsimp only
    rw [if_pos (show mm_isI (.int x) = true from rfl), e3]
    exact ⟨_, rfl, _, _, _, rfl, e4, e2, rfl⟩
  · rw [hi] at hs ⊢
    exact my_s1R my_okI hl hst hs
theorem my_lldR (hl : my_lr E.1 xs L L') (hst : my_sr E.1 xs st st') {k : Nat} (hi : ∀ (X : mm_X) h L st, mm_stp X h L st (pc, i, nx, ax) = mm_ld nx L st k mm_isL) (hs : my_lld E X h L st k (pc, i, nx, ax) = some a) : ∃ a', mm_stp X' h' L' st' (pc, i, nx, ax) = some a' ∧ my_ar E.1 xs a a' := by
  unfold my_lld at hs
  split at hs
  · rename_i b hg
    split at hs
    · rename_i hm
      cases mi_go hs
      obtain ⟨u, e1, e2⟩ := my_get hl hg
      have e3 := e2
      rw [hm] at e3
      have e3 : u = .long (xs b.toNat).toInt64 := e3
      subst e3
      rw [hi]
      unfold mm_ld
      rw [e1]
      exact ⟨_, rfl, _, _, _, rfl, hl, ⟨e2, hst⟩, rfl⟩
    · cases hs
  · rw [hi] at hs ⊢
    exact my_ldR my_okL hl hst hs
theorem my_i2tR (hl : my_lr E.1 xs L L') (hst : my_sr E.1 xs st st') {f : Int32 → Int32 → Int32} (hi : ∀ (X : mm_X) h L st, mm_stp X h L st (pc, i, nx, ax) = mm_i2 nx L st f) (hs : my_i2t X h L st (pc, i, nx, ax) = some a) : ∃ a', mm_stp X' h' L' st' (pc, i, nx, ax) = some a' ∧ my_ar E.1 xs a a' := by
  unfold my_i2t at hs
  split at hs
  · rename_i y x r
    split at hs
    · split at hs
      · rename_i hb
        rw [Bool.and_eq_true] at hb
        obtain ⟨u, q0, rfl, e1, hst0⟩ := my_cons hst
        obtain ⟨w, q1, rfl, e2, hst1⟩ := my_cons hst0
        obtain ⟨y', rfl⟩ := my_isTI e1 hb.1
        obtain ⟨x', rfl⟩ := my_isTI e2 hb.2
        cases mi_go hs
        rw [hi]
        unfold mm_i2
        dsimp only
        rw [mm_fI_eq]
        exact ⟨_, rfl, _, _, _, rfl, hl, ⟨⟨_, rfl⟩, hst1⟩, rfl⟩
      · cases hs
    · rw [hi] at hs ⊢
      exact my_i2R hl hst hs
  · cases hs
theorem my_i1tR (hl : my_lr E.1 xs L L') (hst : my_sr E.1 xs st st') {f : Int32 → Int32} (hi : ∀ (X : mm_X) h L st, mm_stp X h L st (pc, i, nx, ax) = mm_i1 nx L st f) (hs : my_i1t X h L st (pc, i, nx, ax) = some a) : ∃ a', mm_stp X' h' L' st' (pc, i, nx, ax) = some a' ∧ my_ar E.1 xs a a' := by
  unfold my_i1t at hs
  split at hs
  · rename_i t r
    obtain ⟨u, q0, rfl, e1, hst0⟩ := my_cons hst
    obtain ⟨x, rfl⟩ := my_tkI e1
    cases mi_go hs
    rw [hi]
    unfold mm_i1
    dsimp only
    rw [mm_fI_eq]
    exact ⟨_, rfl, _, _, _, rfl, hl, ⟨⟨_, rfl⟩, hst0⟩, rfl⟩
  · rw [hi] at hs ⊢
    exact my_i1R hl hst hs
theorem my_pckR {o : Option mm_A} (hs : my_pck o = some a) : o = some a ∧ ∀ n L1 v r op, a = .inl (n, L1, v :: r, op) → my_pl v = true := by
  unfold my_pck at hs
  split at hs
  · split at hs
    · rename_i hp
      cases hs
      exact ⟨rfl, fun n L1 v r op e => by cases e; exact hp⟩
    · cases hs
  · cases hs
theorem my_astR (hX1 : X'.1 = X.1) (hXt : ∀ k c, X.1 k = some c → my_nt c = true) (hh : my_hr h h') (hl : my_lr E.1 xs L L') (hst : my_sr E.1 xs st st') {k : Nat} (hk : k ≤ 9) (g : Int32 → Nat) (hi : ∀ (X : mm_X) h L (x i : Int32) (a : Nat) (r : List Value), mm_stp X h L (.int x :: .int i :: .ref a :: r) (pc, i0, nx, ax) = match mm_prim (mm_rd X.1 h a) k with
    | some (n, N) => match mm_in i n with
      | true => mm_wr nx L r a (.inl (k, n, mm_as 32 N (mm_un i) (g x)))
      | false => none
    | none => none)
    (hf : ∀ a, mm_stp X h L st (pc, i0, nx, ax) = some a → ∃ a', mm_stp X' h' L' st' (pc, i0, nx, ax) = some a' ∧ my_ar E.1 xs a a')
    (hs : my_ast k X h L st (pc, i0, nx, ax) = some a) : ∃ a', mm_stp X' h' L' st' (pc, i0, nx, ax) = some a' ∧ my_ar E.1 xs a a' := by
  unfold my_ast at hs
  split at hs
  · rename_i t i a1 r
    obtain ⟨u, q0, rfl, e1, hst0⟩ := my_cons hst
    obtain ⟨x, rfl⟩ := my_tkI e1
    obtain ⟨q1, rfl, hst1⟩ := my_cI hst0
    obtain ⟨q2, rfl, hst2⟩ := my_cA hst1
    split at hs
    · cases hs
    · rename_i h64
      split at hs
      · rename_i t2 n N hp
        split at hs
        · rename_i hb
          rw [Bool.and_eq_true, Bool.or_eq_true, Nat.beq_eq, Nat.beq_eq] at hb
          obtain ⟨c9, e9, e8⟩ := my_rd hX1 hXt hh hp
          obtain ⟨M, hM⟩ : ∃ M, c9 = .inl (k, n, M) := by
            rcases hb.1 with rfl | rfl
            · unfold my_cr at e8
              dsimp only at e8
              rw [if_neg (by omega)] at e8
              exact ⟨_, e8⟩
            · unfold my_cr at e8
              dsimp only at e8
              rw [if_pos (by omega), Nat.add_sub_cancel] at e8
              exact e8
          subst hM
          cases hs
          rw [hi, e9]
          unfold mm_prim
          dsimp only
          rw [show Nat.beq k k = true from Nat.beq_eq.mpr rfl]
          dsimp only
          rw [hb.2]
          dsimp only
          unfold mm_wr
          rw [h64]
          refine ⟨_, rfl, _, _, _, rfl, hl, hst2, _, rfl, ?_⟩
          unfold my_cr
          dsimp only
          rw [if_pos (by omega), Nat.add_sub_cancel]
          exact ⟨_, rfl⟩
        · cases hs
      · cases hs
  · exact hf a hs
theorem my_dblR (hX1 : X'.1 = X.1) (hX3 : X'.2.2 = X.2.2) (hXt : ∀ k c, X.1 k = some c → my_nt c = true) (hXn : ∀ k, X.2.1.2 k = none) (hh : my_hr h h') (hl : my_lr E.1 xs L L') (hst : my_sr E.1 xs st st') (h2 : i ≠ .arraylength) (h3 : (∀ x, i ≠ .getfield x) ∧ ∀ x, i ≠ .getstatic x) (h4 : my_nw i = false) (hs : my_dbl E X h L st (pc, i, nx, ax) = some a) : ∃ a', mm_stp X' h' L' st' (pc, i, nx, ax) = some a' ∧ my_ar E.1 xs a a' := by
  unfold my_dbl at hs
  split at hs
  · cases hs
  · rename_i hm
    exact my_par hX1 hX3 hXt hXn (fun _ => hm) (fun r z => (h2 z).elim) (fun q => q.elim (fun ⟨x, z⟩ => (h3.1 x z).elim) (fun ⟨x, z⟩ => (h3.2 x z).elim)) (fun t z => by rw [h4] at z; cases z) hh hl hst hs
theorem my_step (hX1 : X'.1 = X.1) (hX3 : X'.2.2 = X.2.2) (hXt : ∀ k c, X.1 k = some c → my_nt c = true) (hXn : ∀ k, X.2.1.2 k = none) (hE : my_Ok E xs X') (hh : my_hr h h') (hl : my_lr E.1 xs L L') (hst : my_sr E.1 xs st st') (hs : my_stp E X h L st (pc, i, nx, ax) = some a) : ∃ a', mm_stp X' h' L' st' (pc, i, nx, ax) = some a' ∧ my_ar E.1 xs a a' := by
  cases i with
  | iload k => exact my_ildR hl hst (fun _ _ _ _ => rfl) (show my_ild X h L st k _ = some a from hs)
  | iload_n k => exact my_ildR hl hst (fun _ _ _ _ => rfl) (show my_ild X h L st k.val _ = some a from hs)
  | istore k => exact my_istR hl hst (fun _ _ _ _ => rfl) (show my_ist X h L st k _ = some a from hs)
  | istore_n k => exact my_istR hl hst (fun _ _ _ _ => rfl) (show my_ist X h L st k.val _ = some a from hs)
  | lload k => exact my_lldR hl hst (fun _ _ _ _ => rfl) (show my_lld E X h L st k _ = some a from hs)
  | lload_n k => exact my_lldR hl hst (fun _ _ _ _ => rfl) (show my_lld E X h L st k.val _ = some a from hs)
  | iaload =>
    simp only [my_stp] at hs
    split at hs
    · rename_i i1 a1 r
      split at hs
      · rename_i h0
        obtain ⟨q0, rfl, hst0⟩ := my_cI hst
        obtain ⟨q1, rfl, hst1⟩ := my_cA hst0
        simp only [mm_stp, mm_fI_eq]
        rw [h0]
        dsimp only
        split at hs
        · rename_i n hn
          obtain ⟨g1, g2⟩ := hE.2.2 n hn
          split at hs
          · rename_i hin
            rw [g1, hin]
            dsimp only
            split at hs
            · rename_i v hv
              obtain ⟨z, e1, e2⟩ := g2 _ v hv
              rw [e1]
              refine my_goR hl ?_ hs
              exact ⟨e2, hst1⟩
            · cases hs
          · cases hs
        · cases hs
      · exact my_fb hX1 hX3 hXt hXn hh hl hst rfl (fun z => by cases z) ⟨fun x z => (by cases z), fun x z => (by cases z)⟩ rfl hs
    · cases hs
  | arraylength =>
    simp only [my_stp] at hs
    split at hs
    · rename_i a1 r
      split at hs
      · rename_i h0
        obtain ⟨q0, rfl, hst0⟩ := my_cA hst
        simp only [mm_stp]
        rw [h0]
        dsimp only
        split at hs
        · rename_i n hn
          obtain ⟨g1, g2⟩ := hE.2.2 n hn
          rw [g1]
          refine my_goR hl ?_ hs
          exact ⟨rfl, hst0⟩
        · cases hs
      · rename_i h0
        split at hs
        · rename_i n hn
          obtain ⟨q0, rfl, hst0⟩ := my_cA hst
          unfold my_tln at hn
          split at hn
          · rename_i t n2 N hp
            split at hn
            · rename_i hb
              have hn := Option.some.inj hn
              subst hn
              rw [Bool.and_eq_true, Nat.ble_eq, Nat.ble_eq] at hb
              obtain ⟨c9, e9, e8⟩ := my_rd hX1 hXt hh hp
              unfold my_cr at e8
              dsimp only at e8
              rw [if_pos hb.1] at e8
              obtain ⟨M, rfl⟩ := e8
              simp only [mm_stp]
              try rw [h0]
              try dsimp only
              rw [e9]
              dsimp only
              rw [show Nat.ble (t - 10) 4 = true from Nat.ble_eq.mpr (by omega)]
              refine my_goR hl ?_ hs
              exact ⟨rfl, hst0⟩
            · cases hn
          · cases hn
        refine my_par hX1 hX3 hXt hXn (fun z => by cases z) (fun r' _ z => ?_) (fun q => q.elim (fun ⟨x, z⟩ => by cases z) (fun ⟨x, z⟩ => by cases z)) (fun t z => by cases z) hh hl hst hs
        cases z
        cases h0
    · cases hs
  | ifCond c d =>
    simp only [my_stp] at hs
    split at hs
    · rename_i t r
      obtain ⟨u, q, rfl, e1, e2⟩ := my_cons hst
      obtain ⟨x, rfl⟩ := my_tkI e1
      unfold my_brc at hs
      split at hs
      · rename_i b hb
        simp only [mm_stp]
        rw [my_cnd_ok (my_rg_ok hE e1) (my_rg_ok hE (v := .int 0) (x := 0) rfl) hb]
        exact my_brR hl e2 hs
      · cases hs
    · exact my_fb hX1 hX3 hXt hXn hh hl hst rfl (fun z => by cases z) ⟨fun x z => (by cases z), fun x z => (by cases z)⟩ rfl hs
  | if_icmp c d =>
    simp only [my_stp] at hs
    split at hs
    · rename_i y x r
      split at hs
      · obtain ⟨u, q, rfl, e1, e2⟩ := my_cons hst
        obtain ⟨w, q1, rfl, e3, e4⟩ := my_cons e2
        unfold my_brc at hs
        split at hs
        · rename_i b hb
          obtain ⟨⟨p1, hp1⟩, p2, hp2⟩ := my_cnd_some hb
          obtain ⟨x', rfl⟩ := my_rg_some e3 hp1
          obtain ⟨y', rfl⟩ := my_rg_some e1 hp2
          simp only [mm_stp]
          rw [my_cnd_ok (my_rg_ok hE e3) (my_rg_ok hE e1) hb]
          exact my_brR hl e4 hs
        · cases hs
      · exact my_fb hX1 hX3 hXt hXn hh hl hst rfl (fun z => by cases z) ⟨fun x z => (by cases z), fun x z => (by cases z)⟩ rfl hs
    · cases hs
  | iand =>
    simp only [my_stp] at hs
    split at hs
    · rename_i c t r
      obtain ⟨q0, rfl, hst0⟩ := my_cI hst
      obtain ⟨u, q1, rfl, e1, e2⟩ := my_cons hst0
      split at hs
      · obtain ⟨x, rfl⟩ := my_tkI e1
        cases mi_go hs
        simp only [mm_stp, mm_i2, mm_fI_eq]
        exact ⟨_, rfl, _, _, _, rfl, hl, ⟨⟨_, rfl⟩, e2⟩, rfl⟩
      · rename_i k
        have e1 : u = .int (xs k) := e1
        subst e1
        split at hs
        · rename_i v hv
          cases mi_go hs
          simp only [mm_stp, mm_i2, mm_fI_eq]
          exact ⟨_, rfl, _, _, _, rfl, hl, ⟨hE.2.1 k _ v hv c rfl, e2⟩, rfl⟩
        · cases mi_go hs
          simp only [mm_stp, mm_i2, mm_fI_eq]
          exact ⟨_, rfl, _, _, _, rfl, hl, ⟨⟨_, rfl⟩, e2⟩, rfl⟩
    · exact my_i2tR hl hst (fun _ _ _ _ => rfl) hs
  | iadd => exact my_i2tR hl hst (fun _ _ _ _ => rfl) (show my_i2t X h L st _ = some a from hs)
  | isub => exact my_i2tR hl hst (fun _ _ _ _ => rfl) (show my_i2t X h L st _ = some a from hs)
  | ior => exact my_i2tR hl hst (fun _ _ _ _ => rfl) (show my_i2t X h L st _ = some a from hs)
  | ixor => exact my_i2tR hl hst (fun _ _ _ _ => rfl) (show my_i2t X h L st _ = some a from hs)
  | ishl => exact my_i2tR hl hst (fun _ _ _ _ => rfl) (show my_i2t X h L st _ = some a from hs)
  | ishr => exact my_i2tR hl hst (fun _ _ _ _ => rfl) (show my_i2t X h L st _ = some a from hs)
  | iushr => exact my_i2tR hl hst (fun _ _ _ _ => rfl) (show my_i2t X h L st _ = some a from hs)
  | i2b => exact my_i1tR hl hst (fun _ _ _ _ => rfl) (show my_i1t X h L st _ = some a from hs)
  | ineg => exact my_i1tR hl hst (fun _ _ _ _ => rfl) (show my_i1t X h L st _ = some a from hs)
  | i2l =>
    simp only [my_stp] at hs
    split at hs
    · rename_i t r
      obtain ⟨u, q0, rfl, e1, e2⟩ := my_cons hst
      split at hs
      · cases hs
      · rename_i k
        have e1 : u = .int (xs k) := e1
        subst e1
        split at hs
        · rename_i hb
          rw [Bool.and_eq_true, Nat.ble_eq] at hb
          cases mi_go hs
          simp only [mm_stp, mm_fL_eq]
          refine ⟨_, rfl, _, _, _, rfl, hl, ⟨?_, e2⟩, rfl⟩
          have hk : (UInt64.ofNat k).toNat = k := by
            rw [UInt64.toNat_ofNat']
            exact Nat.mod_eq_of_lt (Nat.lt_of_le_of_lt hb.2 (by decide))
          unfold my_vr
          dsimp only
          rw [if_pos hb.1, hk]
        · cases hs
    · exact my_fb hX1 hX3 hXt hXn hh hl hst rfl (fun z => by cases z) ⟨fun x z => (by cases z), fun x z => (by cases z)⟩ rfl hs
  | lcmp =>
    simp only [my_stp] at hs
    split at hs
    · rename_i y x r
      split at hs
      · obtain ⟨u, q, rfl, e1, e2⟩ := my_cons hst
        obtain ⟨w, q1, rfl, e3, e4⟩ := my_cons e2
        split at hs
        · rename_i hlt
          obtain ⟨⟨p1, hp1⟩, p2, hp2⟩ := my_cnd_some (c := .lt) hlt
          obtain ⟨x', rfl⟩ := my_lrg_some e3 hp1
          obtain ⟨y', rfl⟩ := my_lrg_some e1 hp2
          have g := my_lt_ok (my_lrg_ok hE e3) (my_lrg_ok hE e1) hlt
          have g := of_decide_eq_true g.symm
          simp only [mm_stp, mm_fI_eq]
          have g2 : mm_lcmp x' y' = -1 := by
            unfold mm_lcmp
            rw [show Nat.ble (mm_lsn x' + 1) (mm_lsn y') = true from Nat.ble_eq.mpr g]
          rw [g2]
          refine my_goR hl ?_ hs
          exact ⟨rfl, e4⟩
        · rename_i hlt
          obtain ⟨⟨p1, hp1⟩, p2, hp2⟩ := my_cnd_some (c := .lt) hlt
          obtain ⟨x', rfl⟩ := my_lrg_some e3 hp1
          obtain ⟨y', rfl⟩ := my_lrg_some e1 hp2
          have g := my_lt_ok (my_lrg_ok hE e3) (my_lrg_ok hE e1) hlt
          have g := of_decide_eq_false g.symm
          have g2 : Nat.ble (mm_lsn x' + 1) (mm_lsn y') = false := by rw [← Bool.not_eq_true, Nat.ble_eq]; exact g
          simp only [mm_stp, mm_fI_eq]
          split at hs
          · rename_i heq
            have k := of_decide_eq_true (my_eq_ok (my_lrg_ok hE e3) (my_lrg_ok hE e1) heq).symm
            have g3 : mm_lcmp x' y' = 0 := by
              unfold mm_lcmp
              rw [g2, show Nat.beq (mm_lsn x') (mm_lsn y') = true from Nat.beq_eq.mpr k]
            rw [g3]
            refine my_goR hl ?_ hs
            exact ⟨rfl, e4⟩
          · rename_i heq
            have k := of_decide_eq_false (my_eq_ok (my_lrg_ok hE e3) (my_lrg_ok hE e1) heq).symm
            have g3 : mm_lcmp x' y' = 1 := by
              unfold mm_lcmp
              rw [g2, show Nat.beq (mm_lsn x') (mm_lsn y') = false from by rw [← Bool.not_eq_true, Nat.beq_eq]; exact k]
            rw [g3]
            refine my_goR hl ?_ hs
            exact ⟨rfl, e4⟩
          · cases hs
        · cases hs
      · exact my_fb hX1 hX3 hXt hXn hh hl hst rfl (fun z => by cases z) ⟨fun x z => (by cases z), fun x z => (by cases z)⟩ rfl hs
    · cases hs
  | tableswitch o1 lo o2 offs =>
    simp only [my_stp] at hs
    split at hs
    · rename_i t r
      obtain ⟨u, q0, rfl, e1, e2⟩ := my_cons hst
      obtain ⟨x, rfl⟩ := my_tkI e1
      split at hs
      · rename_i d ts l0
        split at hs
        · rename_i q hq
          split at hs
          · rename_i hb
            obtain ⟨g1, g2⟩ := my_rg_ok hE e1 q hq
            rw [Bool.or_eq_true, Nat.ble_eq, Nat.ble_eq] at hb
            have hx := mm_un_lt x
            have hno : (Nat.ble (mm_un x) 2147483647 && (Nat.ble l0 (mm_un x) && Nat.ble (mm_un x - l0 + 1) ts.length)) = false := by
              rw [← Bool.not_eq_true, Bool.and_eq_true, Bool.and_eq_true, Nat.ble_eq, Nat.ble_eq, Nat.ble_eq]
              unfold mm_sn at g1 g2
              omega
            simp only [mm_stp]
            rw [hno]
            exact my_goR hl e2 hs
          · cases hs
        · cases hs
      · cases hs
    · exact my_fb hX1 hX3 hXt hXn hh hl hst rfl (fun z => by cases z) ⟨fun x z => (by cases z), fun x z => (by cases z)⟩ rfl hs
  | iastore => exact my_astR hX1 hXt hh hl hst (k := 0) (by omega) mm_un (fun X h L x i a r => by
    simp only [mm_stp, mm_fN_eq]
    first
      | rfl
      | (rcases mm_prim (mm_rd X.1 h a) _ with _ | ⟨n, N⟩
         · rfl
         · dsimp only
           cases mm_in i n <;> rfl)) (fun a hs => my_fb hX1 hX3 hXt hXn hh hl hst rfl (fun z => by cases z) ⟨fun x z => (by cases z), fun x z => (by cases z)⟩ rfl hs) (show my_ast 0 X h L st _ = some a from hs)
  | bastore => exact my_astR hX1 hXt hh hl hst (k := 2) (by omega) (fun x => mm_un x.toInt8.toInt32) (fun X h L x i a r => by
    simp only [mm_stp, mm_fN_eq]
    first
      | rfl
      | (rcases mm_prim (mm_rd X.1 h a) _ with _ | ⟨n, N⟩
         · rfl
         · dsimp only
           cases mm_in i n <;> rfl)) (fun a hs => my_fb hX1 hX3 hXt hXn hh hl hst rfl (fun z => by cases z) ⟨fun x z => (by cases z), fun x z => (by cases z)⟩ rfl hs) (show my_ast 2 X h L st _ = some a from hs)
  | getfield x =>
    obtain ⟨g1, g2⟩ := my_pckR (show my_pck _ = some a from hs)
    exact my_par hX1 hX3 hXt hXn (fun z => by cases z) (fun r z => by cases z) (fun _ => g2) (fun t z => by cases z) hh hl hst g1
  | getstatic x =>
    obtain ⟨g1, g2⟩ := my_pckR (show my_pck _ = some a from hs)
    exact my_par hX1 hX3 hXt hXn (fun z => by cases z) (fun r z => by cases z) (fun _ => g2) (fun t z => by cases z) hh hl hst g1
  | newarray x =>
    simp only [my_stp] at hs
    split at hs
    · rename_i t
      split at hs
      · rename_i hb
        exact my_par hX1 hX3 hXt hXn (fun z => by cases z) (fun r z => by cases z) (fun q => q.elim (fun ⟨x, z⟩ => by cases z) (fun ⟨x, z⟩ => by cases z)) (fun t' _ z => by cases z; exact hb) hh hl hst hs
      · cases hs
    · cases hs
  | dload k => exact my_dblR hX1 hX3 hXt hXn hh hl hst (fun z => by cases z) ⟨fun x z => (by cases z), fun x z => (by cases z)⟩ rfl (show my_dbl E X h L st _ = some a from hs)
  | dload_n k => exact my_dblR hX1 hX3 hXt hXn hh hl hst (fun z => by cases z) ⟨fun x z => (by cases z), fun x z => (by cases z)⟩ rfl (show my_dbl E X h L st _ = some a from hs)
  | dstore k => exact my_dblR hX1 hX3 hXt hXn hh hl hst (fun z => by cases z) ⟨fun x z => (by cases z), fun x z => (by cases z)⟩ rfl (show my_dbl E X h L st _ = some a from hs)
  | dconst k => exact my_dblR hX1 hX3 hXt hXn hh hl hst (fun z => by cases z) ⟨fun x z => (by cases z), fun x z => (by cases z)⟩ rfl (show my_dbl E X h L st _ = some a from hs)
  | i2d => exact my_dblR hX1 hX3 hXt hXn hh hl hst (fun z => by cases z) ⟨fun x z => (by cases z), fun x z => (by cases z)⟩ rfl (show my_dbl E X h L st _ = some a from hs)
  | f2d => exact my_dblR hX1 hX3 hXt hXn hh hl hst (fun z => by cases z) ⟨fun x z => (by cases z), fun x z => (by cases z)⟩ rfl (show my_dbl E X h L st _ = some a from hs)
  | ddiv => exact my_dblR hX1 hX3 hXt hXn hh hl hst (fun z => by cases z) ⟨fun x z => (by cases z), fun x z => (by cases z)⟩ rfl (show my_dbl E X h L st _ = some a from hs)
  | dcmp k => exact my_dblR hX1 hX3 hXt hXn hh hl hst (fun z => by cases z) ⟨fun x z => (by cases z), fun x z => (by cases z)⟩ rfl (show my_dbl E X h L st _ = some a from hs)
  | _ => exact my_fb hX1 hX3 hXt hXn hh hl hst rfl (fun z => by cases z) ⟨fun x z => (by cases z), fun x z => (by cases z)⟩ rfl (show mm_stp X h L st _ = some a from hs)
end MZ
