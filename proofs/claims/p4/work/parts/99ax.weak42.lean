section M42
/-! ===== the class: kinds of cells; what a method leaves as it is ===== -/
/-- a cell that a method of the class may write: not the reference's, the law's, the output's -/
def NP (sh : List mm_C) (a : Nat) : Prop := (a ≠ 183 ∧ a ≠ 66) ∧ (a < 312 ∨ 323 < a) ∧ ∀ n z, sh[a - 64]? ≠ some (.inl (2, n, z))
/-- the names told: five at most -/
def CN (sh : List mm_C) (V : hV) : Prop := ∀ q fs, 64 ≤ q → sh[q - 64]? = some (.inr (.inr (7, fs))) → ∃ n : Nat, n ≤ 5 ∧ V.1 q 1 = Int32.ofNat n
def FR (sh : List mm_C) (V W : hV) : Prop := W.1 65 4 = V.1 65 4 ∧ (∀ b, ¬ NP sh b → W.1 b = V.1 b ∧ W.2 b = V.2 b) ∧ (CN sh V → CN sh W)
theorem FR.r (sh : List mm_C) (V : hV) : FR sh V V := ⟨rfl, fun _ _ => ⟨rfl, rfl⟩, fun h => h⟩
theorem FR.t {sh : List mm_C} {A B C : hV} (h1 : FR sh A B) (h2 : FR sh B C) : FR sh A C := ⟨h2.1.trans h1.1, fun b hb => ⟨(h2.2.1 b hb).1.trans (h1.2.1 b hb).1, (h2.2.1 b hb).2.trans (h1.2.1 b hb).2⟩, fun h => h2.2.2 (h1.2.2 h)⟩
/-- an array that is read alone -/
def kR (sh : List mm_C) (a n : Nat) : Prop := 64 ≤ a ∧ sh[a - 64]? = some (.inl (0, n, 0))
theorem kR.h {sh : List mm_C} {a n : Nat} (k : kR sh a n) : 64 ≤ a := k.1
theorem kR.o {sh : List mm_C} {a n : Nat} (k : kR sh a n) : sh[a - 64]? = some (.inl (0, n, 0)) := k.2
def kA (sh : List mm_C) (a n : Nat) : Prop := 67 ≤ a ∧ (a < 312 ∨ 323 < a) ∧ a ≠ 183 ∧ sh[a - 64]? = some (.inl (0, n, 0))
def kO (sh : List mm_C) (a ci : Nat) (fs : List Value) : Prop := (64 ≤ a ∧ (a = 65 → ci = 11)) ∧ (a < 312 ∨ 323 < a) ∧ (a ≠ 183 ∧ a ≠ 66) ∧ sh[a - 64]? = some (.inr (.inr (ci, fs)))
theorem kA.h {sh : List mm_C} {a n : Nat} (k : kA sh a n) : 64 ≤ a := Nat.le_trans (by decide) k.1
theorem kA.o {sh : List mm_C} {a n : Nat} (k : kA sh a n) : sh[a - 64]? = some (.inl (0, n, 0)) := k.2.2.2
theorem kA.r {sh : List mm_C} {a n : Nat} (k : kA sh a n) : kR sh a n := ⟨k.h, k.o⟩
theorem kA.np {sh : List mm_C} {a n : Nat} (k : kA sh a n) : NP sh a := ⟨⟨k.2.2.1, by have := k.1; omega⟩, k.2.1, fun n z h => by rw [k.o] at h; cases h⟩
theorem kO.h {sh : List mm_C} {a ci : Nat} {fs : List Value} (k : kO sh a ci fs) : 64 ≤ a := k.1.1
theorem kO.n {sh : List mm_C} {a ci : Nat} {fs : List Value} (k : kO sh a ci fs) (h : Nat.beq ci 11 = false) : a ≠ 65 := fun e => by
  rw [k.1.2 e] at h
  exact absurd h (by decide)
theorem kO.o {sh : List mm_C} {a ci : Nat} {fs : List Value} (k : kO sh a ci fs) : sh[a - 64]? = some (.inr (.inr (ci, fs))) := k.2.2.2
theorem kO.np {sh : List mm_C} {a ci : Nat} {fs : List Value} (k : kO sh a ci fs) : NP sh a := ⟨k.2.2.1, k.2.1, fun n z h => by rw [k.o] at h; cases h⟩
theorem fr_A {sh : List mm_C} {V : hV} {a n i : Nat} {x : Int32} (k : kA sh a n) : FR sh V (up V a i x) := by
  have h66 := k.1
  refine ⟨up_ne _ _ (Or.inl (by omega)), fun b hb => ⟨funext fun j => up_ne _ _ (Or.inl fun e => hb (e ▸ k.np)), rfl⟩, fun hc q fs h64 hq => ?_⟩
  have hne : q ≠ a := fun e => by rw [e, k.o] at hq; cases hq
  rw [up_ne _ _ (Or.inl hne)]
  exact hc q fs h64 hq
theorem fr_O {sh : List mm_C} {V : hV} {a ci i : Nat} {fs : List Value} {x : Int32} (k : kO sh a ci fs) (h4 : a ≠ 65 ∨ i ≠ 4) (h7 : Nat.beq ci 7 = false) : FR sh V (up V a i x) := by
  refine ⟨up_ne _ _ (by omega), fun b hb => ⟨funext fun j => up_ne _ _ (Or.inl fun e => hb (e ▸ k.np)), rfl⟩, fun hc q gs h64 hq => ?_⟩
  have hne : q ≠ a := fun e => by
    rw [e, k.o] at hq
    cases hq
    exact absurd h7 (by decide)
  rw [up_ne _ _ (Or.inl hne)]
  exact hc q gs h64 hq
theorem fr_cp {sh : List mm_C} {V : hV} {f a t b n m : Nat} (k : kA sh t m) : FR sh V (acp V f a t b n) := by
  have h66 := k.1
  refine ⟨?_, fun q hb => ⟨?_, rfl⟩, fun hc q fs h64 hq => ?_⟩
  · unfold acp
    dsimp only
    rw [if_neg (by omega)]
  · funext j
    unfold acp
    dsimp only
    rw [if_neg (show ¬ q = t from fun e => hb (e ▸ k.np))]
  · have hne : q ≠ t := fun e => by rw [e, k.o] at hq; cases hq
    have e : (acp V f a t b n).1 q 1 = V.1 q 1 := by
      unfold acp
      dsimp only
      rw [if_neg hne]
    rw [e]
    exact hc q fs h64 hq
def wI (sh : List mm_C) (V : hV) : mm_V → mm_H → Prop := fun v g => ∃ (x : Int32) (W : hV), v = .inl (some (.int x)) ∧ g = hH sh W ∧ FR sh V W
def wZ (sh : List mm_C) (V : hV) : mm_V → mm_H → Prop := fun v g => ∃ (b : Bool) (W : hV), v = .inl (some (.int (bI b))) ∧ g = hH sh W ∧ FR sh V W
def wN (sh : List mm_C) (V : hV) : mm_V → mm_H → Prop := fun v g => ∃ (W : hV), v = .inl none ∧ g = hH sh W ∧ FR sh V W
/-- nothing, or a throw -/
def wT (sh : List mm_C) (V : hV) (ci : Nat) : mm_V → mm_H → Prop := fun v g => ∃ (W : hV), FR sh V W ∧ ((v = .inl none ∧ g = hH sh W) ∨ (v = .inr ci ∧ g = hH sh W ++ [.inr (.inr (ci, []))]))
/-- an answer, or a throw -/
def wP (sh : List mm_C) (V : hV) (ci : Nat) : mm_V → mm_H → Prop := fun v g => ∃ (W : hV), FR sh V W ∧ ((∃ x : Int32, v = .inl (some (.int x)) ∧ g = hH sh W) ∨ (v = .inr ci ∧ g = hH sh W ++ [.inr (.inr (ci, []))]))
/-- a text that the program holds -/
def wS (sh : List mm_C) (V : hV) : mm_V → mm_H → Prop := fun v g => ∃ (k n N : Nat), XS k n N ∧ v = .inl (some (.ref k)) ∧ g = hH sh V
/-- how far a counter may still go -/
def mea (x : Int32) : Nat := (2147483647 - x.toInt).toNat
def meb (x : Int32) : Nat := (x.toInt + 1).toNat
theorem mea_s {x y : Int32} (h : x < y) : mea (x + 1) < mea x := by
  have h1 := Int32.lt_iff_toInt_lt.mp h
  have h2 := y.toInt_lt
  have h3 := x.le_toInt
  have e : (x + 1).toInt = x.toInt + 1 := by
    rw [Int32.toInt_add]
    show (x.toInt + 1).bmod (2 ^ 32) = _
    rw [Int.bmod_eq_of_le (by omega) (by omega)]
  unfold mea
  omega
theorem mea_n {x y : Int32} (h : ¬ y < x) (hy : y < 2147483647) : mea (x + 1) < mea x := by
  have h1 : ¬ y.toInt < x.toInt := fun q => h (Int32.lt_iff_toInt_lt.mpr q)
  have h2 := Int32.lt_iff_toInt_lt.mp hy
  refine mea_s (y := 2147483647) (Int32.lt_iff_toInt_lt.mpr ?_)
  omega
theorem meb_s {x : Int32} (h : ¬ x < 0) : meb (x + -1) < meb x := by
  have h1 : ¬ x.toInt < 0 := fun q => h (Int32.lt_iff_toInt_lt.mpr q)
  have h2 := x.toInt_lt
  have e : (x + -1).toInt = x.toInt - 1 := by
    rw [Int32.toInt_add]
    show (x.toInt + -1).bmod (2 ^ 32) = _
    rw [Int.bmod_eq_of_le (by omega) (by omega)]
    omega
  unfold meb
  omega
theorem mea_a {y x : Int32} {m : Nat} (h : mea (y + x + 1) < m) : mea (y + (x + 1)) < m := by
  rw [← Int32.add_assoc]
  exact h
section WW2
variable {S : ww_S} {D : Nat} {M : mm_M} {pc p9 nx : Nat} {L : mm_L} {st : List Value} {h : mm_H} {Q : mm_V → mm_H → Prop} {ax : List Nat} {sh : List mm_C} {V : hV}
theorem wcsI {u kd j n D' : Nat} {r : List Nat} {as st2 : List Value} (hk : mm_lk M.1 pc = some (p9, .invokestatic u, nx, kd :: j :: n :: r)) (c : EVQ S D' j as (hH sh V) (wI sh V)) (hkd : kd = 1 ∨ kd = 6 ∨ kd = 8) (hb : (Nat.ble n st.length && mm_rst st n) = true) (ha : (st.take n).reverse = as) (hr : st.drop n = st2) (hD : D' ≤ D) (w : ∀ (x : Int32) (W : hV), FR sh V W → WP S D M nx L (.int x :: st2) (hH sh W) Q) : WP S D M pc L st (hH sh V) Q := by
  obtain ⟨v, g, e, x, W, rfl, rfl, f⟩ := c
  exact wp_cs hk e hkd hb ha hr hD (w x W f)
theorem wcsZ {u kd j n D' : Nat} {r : List Nat} {as st2 : List Value} (hk : mm_lk M.1 pc = some (p9, .invokestatic u, nx, kd :: j :: n :: r)) (c : EVQ S D' j as (hH sh V) (wZ sh V)) (hkd : kd = 1 ∨ kd = 6 ∨ kd = 8) (hb : (Nat.ble n st.length && mm_rst st n) = true) (ha : (st.take n).reverse = as) (hr : st.drop n = st2) (hD : D' ≤ D) (w : ∀ (b : Bool) (W : hV), FR sh V W → WP S D M nx L (.int (bI b) :: st2) (hH sh W) Q) : WP S D M pc L st (hH sh V) Q := by
  obtain ⟨v, g, e, b, W, rfl, rfl, f⟩ := c
  exact wp_cs hk e hkd hb ha hr hD (w b W f)
theorem wcsN {u kd j n D' : Nat} {r : List Nat} {as st2 : List Value} (hk : mm_lk M.1 pc = some (p9, .invokestatic u, nx, kd :: j :: n :: r)) (c : EVQ S D' j as (hH sh V) (wN sh V)) (hkd : kd = 1 ∨ kd = 6 ∨ kd = 8) (hb : (Nat.ble n st.length && mm_rst st n) = true) (ha : (st.take n).reverse = as) (hr : st.drop n = st2) (hD : D' ≤ D) (w : ∀ (W : hV), FR sh V W → WP S D M nx L st2 (hH sh W) Q) : WP S D M pc L st (hH sh V) Q := by
  obtain ⟨v, g, e, W, rfl, rfl, f⟩ := c
  exact wp_csn hk e hkd hb ha hr hD (w W f)
theorem wcsS {u kd j n D' : Nat} {r : List Nat} {as st2 : List Value} (hk : mm_lk M.1 pc = some (p9, .invokestatic u, nx, kd :: j :: n :: r)) (c : EVQ S D' j as (hH sh V) (wS sh V)) (hkd : kd = 1 ∨ kd = 6 ∨ kd = 8) (hb : (Nat.ble n st.length && mm_rst st n) = true) (ha : (st.take n).reverse = as) (hr : st.drop n = st2) (hD : D' ≤ D) (w : ∀ (k n N : Nat), XS k n N → WP S D M nx L (.ref k :: st2) (hH sh V) Q) : WP S D M pc L st (hH sh V) Q := by
  obtain ⟨v, g, e, k, n, N, hx, rfl, rfl⟩ := c
  exact wp_cs hk e hkd hb ha hr hD (w k n N hx)
theorem wcvI {u kd j n ci a D' : Nat} {r : List Nat} {as st2 : List Value} {fs : List Value} (hk : mm_lk M.1 pc = some (p9, .invokevirtual u, nx, kd :: j :: n :: ci :: r)) (c : EVQ S D' j as (hH sh V) (wI sh V)) (hkd : kd = 0 ∨ kd = 5 ∨ kd = 3) (hb : (Nat.ble n st.length && mm_rst st n) = true) (ha : (st.take n).reverse = as) (hr : st.drop n = st2) (hv : st[n - 1]? = some (.ref a)) (h64 : 64 ≤ a) (hs : sh[a - 64]? = some (.inr (.inr (ci, fs)))) (hD : D' ≤ D) (w : ∀ (x : Int32) (W : hV), FR sh V W → WP S D M nx L (.int x :: st2) (hH sh W) Q) : WP S D M pc L st (hH sh V) Q := by
  obtain ⟨v, g, e, x, W, rfl, rfl, f⟩ := c
  exact wp_cv hk e hkd hb ha hr hv h64 hs hD (w x W f)
theorem wcvZ {u kd j n ci a D' : Nat} {r : List Nat} {as st2 : List Value} {fs : List Value} (hk : mm_lk M.1 pc = some (p9, .invokevirtual u, nx, kd :: j :: n :: ci :: r)) (c : EVQ S D' j as (hH sh V) (wZ sh V)) (hkd : kd = 0 ∨ kd = 5 ∨ kd = 3) (hb : (Nat.ble n st.length && mm_rst st n) = true) (ha : (st.take n).reverse = as) (hr : st.drop n = st2) (hv : st[n - 1]? = some (.ref a)) (h64 : 64 ≤ a) (hs : sh[a - 64]? = some (.inr (.inr (ci, fs)))) (hD : D' ≤ D) (w : ∀ (b : Bool) (W : hV), FR sh V W → WP S D M nx L (.int (bI b) :: st2) (hH sh W) Q) : WP S D M pc L st (hH sh V) Q := by
  obtain ⟨v, g, e, b, W, rfl, rfl, f⟩ := c
  exact wp_cv hk e hkd hb ha hr hv h64 hs hD (w b W f)
theorem wcvN {u kd j n ci a D' : Nat} {r : List Nat} {as st2 : List Value} {fs : List Value} (hk : mm_lk M.1 pc = some (p9, .invokevirtual u, nx, kd :: j :: n :: ci :: r)) (c : EVQ S D' j as (hH sh V) (wN sh V)) (hkd : kd = 0 ∨ kd = 5 ∨ kd = 3) (hb : (Nat.ble n st.length && mm_rst st n) = true) (ha : (st.take n).reverse = as) (hr : st.drop n = st2) (hv : st[n - 1]? = some (.ref a)) (h64 : 64 ≤ a) (hs : sh[a - 64]? = some (.inr (.inr (ci, fs)))) (hD : D' ≤ D) (w : ∀ (W : hV), FR sh V W → WP S D M nx L st2 (hH sh W) Q) : WP S D M pc L st (hH sh V) Q := by
  obtain ⟨v, g, e, W, rfl, rfl, f⟩ := c
  exact wp_cvn hk e hkd hb ha hr hv h64 hs hD (w W f)
theorem wcvS {u kd j n ci a D' : Nat} {r : List Nat} {as st2 : List Value} {fs : List Value} (hk : mm_lk M.1 pc = some (p9, .invokevirtual u, nx, kd :: j :: n :: ci :: r)) (c : EVQ S D' j as (hH sh V) (wS sh V)) (hkd : kd = 0 ∨ kd = 5 ∨ kd = 3) (hb : (Nat.ble n st.length && mm_rst st n) = true) (ha : (st.take n).reverse = as) (hr : st.drop n = st2) (hv : st[n - 1]? = some (.ref a)) (h64 : 64 ≤ a) (hs : sh[a - 64]? = some (.inr (.inr (ci, fs)))) (hD : D' ≤ D) (w : ∀ (k n N : Nat), XS k n N → WP S D M nx L (.ref k :: st2) (hH sh V) Q) : WP S D M pc L st (hH sh V) Q := by
  obtain ⟨v, g, e, k, n, N, hx, rfl, rfl⟩ := c
  exact wp_cv hk e hkd hb ha hr hv h64 hs hD (w k n N hx)
theorem wciI {u kd j n a D' : Nat} {r : List Nat} {as st2 : List Value} (hk : mm_lk M.1 pc = some (p9, .invokespecial u, nx, kd :: j :: n :: r)) (c : EVQ S D' j as (hH sh V) (wI sh V)) (hkd : kd = 2 ∨ kd = 7) (hb : (Nat.ble n st.length && mm_rst st n) = true) (ha : (st.take n).reverse = as) (hr : st.drop n = st2) (hv : st[n - 1]? = some (.ref a)) (h64 : 64 ≤ a) (hD : D' ≤ D) (w : ∀ (x : Int32) (W : hV), FR sh V W → WP S D M nx L (.int x :: st2) (hH sh W) Q) : WP S D M pc L st (hH sh V) Q := by
  obtain ⟨v, g, e, x, W, rfl, rfl, f⟩ := c
  exact wp_ci hk e hkd hb ha hr hv h64 hD (w x W f)
theorem wciZ {u kd j n a D' : Nat} {r : List Nat} {as st2 : List Value} (hk : mm_lk M.1 pc = some (p9, .invokespecial u, nx, kd :: j :: n :: r)) (c : EVQ S D' j as (hH sh V) (wZ sh V)) (hkd : kd = 2 ∨ kd = 7) (hb : (Nat.ble n st.length && mm_rst st n) = true) (ha : (st.take n).reverse = as) (hr : st.drop n = st2) (hv : st[n - 1]? = some (.ref a)) (h64 : 64 ≤ a) (hD : D' ≤ D) (w : ∀ (b : Bool) (W : hV), FR sh V W → WP S D M nx L (.int (bI b) :: st2) (hH sh W) Q) : WP S D M pc L st (hH sh V) Q := by
  obtain ⟨v, g, e, b, W, rfl, rfl, f⟩ := c
  exact wp_ci hk e hkd hb ha hr hv h64 hD (w b W f)
theorem wciN {u kd j n a D' : Nat} {r : List Nat} {as st2 : List Value} (hk : mm_lk M.1 pc = some (p9, .invokespecial u, nx, kd :: j :: n :: r)) (c : EVQ S D' j as (hH sh V) (wN sh V)) (hkd : kd = 2 ∨ kd = 7) (hb : (Nat.ble n st.length && mm_rst st n) = true) (ha : (st.take n).reverse = as) (hr : st.drop n = st2) (hv : st[n - 1]? = some (.ref a)) (h64 : 64 ≤ a) (hD : D' ≤ D) (w : ∀ (W : hV), FR sh V W → WP S D M nx L st2 (hH sh W) Q) : WP S D M pc L st (hH sh V) Q := by
  obtain ⟨v, g, e, W, rfl, rfl, f⟩ := c
  exact wp_cin hk e hkd hb ha hr hv h64 hD (w W f)
theorem wciS {u kd j n a D' : Nat} {r : List Nat} {as st2 : List Value} (hk : mm_lk M.1 pc = some (p9, .invokespecial u, nx, kd :: j :: n :: r)) (c : EVQ S D' j as (hH sh V) (wS sh V)) (hkd : kd = 2 ∨ kd = 7) (hb : (Nat.ble n st.length && mm_rst st n) = true) (ha : (st.take n).reverse = as) (hr : st.drop n = st2) (hv : st[n - 1]? = some (.ref a)) (h64 : 64 ≤ a) (hD : D' ≤ D) (w : ∀ (k n N : Nat), XS k n N → WP S D M nx L (.ref k :: st2) (hH sh V) Q) : WP S D M pc L st (hH sh V) Q := by
  obtain ⟨v, g, e, k, n, N, hx, rfl, rfl⟩ := c
  exact wp_ci hk e hkd hb ha hr hv h64 hD (w k n N hx)
theorem wcT {u kd j n a D' ci : Nat} {r : List Nat} {as st2 : List Value} (hk : mm_lk M.1 pc = some (p9, .invokespecial u, nx, kd :: j :: n :: r)) (c : EVQ S D' j as (hH sh V) (wT sh V ci)) (hkd : kd = 2 ∨ kd = 7) (hb : (Nat.ble n st.length && mm_rst st n) = true) (ha : (st.take n).reverse = as) (hr : st.drop n = st2) (hv : st[n - 1]? = some (.ref a)) (h64 : 64 ≤ a) (hD : D' ≤ D) (hM : M.2.2.2 = []) (w : ∀ W : hV, FR sh V W → WP S D M nx L st2 (hH sh W) Q) (q : ∀ W : hV, FR sh V W → Q (.inr ci) (hH sh W ++ [.inr (.inr (ci, []))])) : WP S D M pc L st (hH sh V) Q := by
  obtain ⟨v, g, e, W, f, h⟩ := c
  rcases h with ⟨rfl, rfl⟩ | ⟨rfl, rfl⟩
  · exact wp_cin hk e hkd hb ha hr hv h64 hD (w W f)
  · exact wp_callx hk (wx_callI hkd hb hv h64 ha hr) e hD (by rw [hM]; rfl) (q W f)
theorem wcvT {u kd j n a D' ci c2 : Nat} {fs : List Value} {r : List Nat} {as st2 : List Value} (hk : mm_lk M.1 pc = some (p9, .invokevirtual u, nx, kd :: j :: n :: c2 :: r)) (c : EVQ S D' j as (hH sh V) (wT sh V ci)) (hkd : kd = 0 ∨ kd = 5 ∨ kd = 3) (hb : (Nat.ble n st.length && mm_rst st n) = true) (ha : (st.take n).reverse = as) (hr : st.drop n = st2) (hv : st[n - 1]? = some (.ref a)) (h64 : 64 ≤ a) (hs : sh[a - 64]? = some (.inr (.inr (c2, fs)))) (hD : D' ≤ D) (hM : M.2.2.2 = []) (w : ∀ W : hV, FR sh V W → WP S D M nx L st2 (hH sh W) Q) (q : ∀ W : hV, FR sh V W → Q (.inr ci) (hH sh W ++ [.inr (.inr (ci, []))])) : WP S D M pc L st (hH sh V) Q := by
  obtain ⟨v, g, e, W, f, h⟩ := c
  rcases h with ⟨rfl, rfl⟩ | ⟨rfl, rfl⟩
  · exact wp_cvn hk e hkd hb ha hr hv h64 hs hD (w W f)
  · exact wp_callx hk (wx_callV hkd hb hv h64 hs ha hr) e hD (by rw [hM]; rfl) (q W f)
theorem wq_putI {u n0 ci k a : Nat} {r : List Nat} {fs : List Value} {z x : Int32} {ty : FieldType} (hk : mm_lk M.1 pc = some (p9, .putfield u, nx, n0 :: ci :: k :: r)) (hs : kO sh a ci fs) (hf : fs[k]? = some (.int z)) (hty : (mm_fty ci)[k]? = some ty) (hfit : mm_fit ty (.int x) = true) (h4 : a ≠ 65 ∨ k ≠ 4) (h7 : Nat.beq ci 7 = false) (w : ∀ W : hV, FR sh V W → WP S D M nx L st (hH sh W) Q) : WP S D M pc L (.int x :: .ref a :: st) (hH sh V) Q := wp_putI hk hs.h hs.o hf hty hfit (w _ (fr_O hs h4 h7))
theorem wq_getI {u n0 ci k a : Nat} {r : List Nat} {fs : List Value} {z : Int32} (hk : mm_lk M.1 pc = some (p9, .getfield u, nx, n0 :: ci :: k :: r)) (hs : kO sh a ci fs) (hf : fs[k]? = some (.int z)) (w : WP S D M nx L (.int (V.1 a k) :: st) (hH sh V) Q) : WP S D M pc L (.ref a :: st) (hH sh V) Q := wp_getI hk hs.h hs.o hf _ rfl w
theorem wq_getR {u n0 ci k a q : Nat} {r : List Nat} {fs : List Value} (hk : mm_lk M.1 pc = some (p9, .getfield u, nx, n0 :: ci :: k :: r)) (hs : kO sh a ci fs) (hf : fs[k]? = some (.ref q)) (w : WP S D M nx L (.ref q :: st) (hH sh V) Q) : WP S D M pc L (.ref a :: st) (hH sh V) Q := wp_getR hk hs.h hs.o hf w
end WW2
def kNames (sh : List mm_C) (a : Nat) : Prop := kO sh a 7 [.ref (a + 1), .int 0] ∧ kA sh (a + 1) 5
def kScene (sh : List mm_C) (a : Nat) : Prop := kO sh a 10 [.ref (a + 1), .ref (a + 3), .ref (a + 5), .int 0, .int 0, .int 0] ∧ kNames sh (a + 1) ∧ kNames sh (a + 3) ∧ kA sh (a + 5) 5
def kForm (sh : List mm_C) (a : Nat) : Prop := kO sh a 3 [.ref (a + 1), .ref (a + 2), .ref (a + 3), .int 0] ∧ kA sh (a + 1) 60 ∧ kA sh (a + 2) 60 ∧ kA sh (a + 3) 60
def kKnow (sh : List mm_C) (a : Nat) : Prop := kO sh a 5 [.ref (a + 1), .int 0, .int 0] ∧ kA sh (a + 1) 160
def kLog (sh : List mm_C) (a : Nat) : Prop := kO sh a 6 [.ref (a + 1), .ref (a + 2), .ref (a + 3), .ref (a + 4), .int 0] ∧ kA sh (a + 1) 20 ∧ kA sh (a + 2) 20 ∧ kA sh (a + 3) 20 ∧ kA sh (a + 4) 7
def kOrder (sh : List mm_C) (a : Nat) : Prop := kO sh a 8 [.ref (a + 1), .int 0, .int 0, .int 0, .int 0] ∧ kForm sh (a + 1)
def kSrc (sh : List mm_C) : Prop := kO sh 65 11 [.ref 66, .ref 67, .ref 68, .ref 69, .int 0, .int 0, .int 0, .int 0, .int 0, .int 0, .int 0, .int 0] ∧ kR sh 66 600 ∧ kA sh 67 601 ∧ kA sh 68 601 ∧ kA sh 69 601
def kFR (sh : List mm_C) : Prop := kO sh 76 4 [.ref 65, .ref 77, .ref 78, .int 0, .int 0, .int 0] ∧ kSrc sh ∧ kA sh 77 68 ∧ kA sh 78 68
def kDR (sh : List mm_C) : Prop := kO sh 79 2 [.ref 65, .ref 76, .ref 72, .ref 70] ∧ kSrc sh ∧ kFR sh ∧ kForm sh 72 ∧ kKnow sh 70
def kOR (sh : List mm_C) : Prop := kO sh 80 9 [.ref 65, .ref 76, .ref 81, .int 0] ∧ kSrc sh ∧ kFR sh ∧ sh[81 - 64]? = some (.inr (.inl (4, [some 82, some 87, some 92, some 97, some 102, some 107, some 112, some 117, some 122, some 127, some 132, some 137, some 142, some 147, some 152, some 157, some 162, some 167, some 172, some 177]))) ∧ ∀ i : Nat, i < 20 → kOrder sh (82 + 5 * i)
def kState (sh : List mm_C) (b q : Nat) : Prop := kO sh b 12 [.ref (b + 1), .ref (b + 3), .ref (b + 7), .ref q] ∧ kKnow sh (b + 1) ∧ kForm sh (b + 3) ∧ kLog sh (b + 7) ∧ kScene sh q
def kWho (sh : List mm_C) (q : Nat) : Prop := kO sh 64 13 [.ref 65, .ref 76, .ref 79, .ref 80, .ref 72, .ref 70, .ref 182, .ref 183, .ref 191, .ref 203, .ref 215, .int 0, .int 0, .int 0] ∧ kDR sh ∧ kOR sh ∧ kA sh 182 240 ∧ kState sh 191 q
end M42
