/-! ===== rules put together: calls with what the callee does, ends, branches whose outcome is known ===== -/
section WS
variable {S : ww_S} {D : Nat} {M : mm_M} {pc p9 nx : Nat} {L : mm_L} {st : List Value} {h : mm_H} {Q : mm_V → mm_H → Prop} {ax : List Nat} {sh : List mm_C} {V : hV}
theorem wp_cs {u kd j n D' : Nat} {r : List Nat} {as st2 : List Value} {v : Value} {h1 : mm_H} (hk : mm_lk M.1 pc = some (p9, .invokestatic u, nx, kd :: j :: n :: r)) (c : EV S D' j as h (.inl (some v)) h1) (hkd : kd = 1 ∨ kd = 6 ∨ kd = 8) (hb : (Nat.ble n st.length && mm_rst st n) = true) (ha : (st.take n).reverse = as) (hr : st.drop n = st2) (hD : D' ≤ D) (w : WP S D M nx L (v :: st2) h1 Q) : WP S D M pc L st h Q := wp_callv hk (wx_callS hkd hb ha hr) c hD w
theorem wp_csn {u kd j n D' : Nat} {r : List Nat} {as st2 : List Value} {h1 : mm_H} (hk : mm_lk M.1 pc = some (p9, .invokestatic u, nx, kd :: j :: n :: r)) (c : EV S D' j as h (.inl none) h1) (hkd : kd = 1 ∨ kd = 6 ∨ kd = 8) (hb : (Nat.ble n st.length && mm_rst st n) = true) (ha : (st.take n).reverse = as) (hr : st.drop n = st2) (hD : D' ≤ D) (w : WP S D M nx L st2 h1 Q) : WP S D M pc L st h Q := wp_calln hk (wx_callS hkd hb ha hr) c hD w
theorem wp_cv {u kd j n ci a D' : Nat} {r : List Nat} {as st2 : List Value} {fs : List Value} {v : Value} {h1 : mm_H} (hk : mm_lk M.1 pc = some (p9, .invokevirtual u, nx, kd :: j :: n :: ci :: r)) (c : EV S D' j as (hH sh V) (.inl (some v)) h1) (hkd : kd = 0 ∨ kd = 5 ∨ kd = 3) (hb : (Nat.ble n st.length && mm_rst st n) = true) (ha : (st.take n).reverse = as) (hr : st.drop n = st2) (hv : st[n - 1]? = some (.ref a)) (h64 : 64 ≤ a) (hs : sh[a - 64]? = some (.inr (.inr (ci, fs)))) (hD : D' ≤ D) (w : WP S D M nx L (v :: st2) h1 Q) : WP S D M pc L st (hH sh V) Q := wp_callv hk (wx_callV hkd hb hv h64 hs ha hr) c hD w
theorem wp_cvn {u kd j n ci a D' : Nat} {r : List Nat} {as st2 : List Value} {fs : List Value} {h1 : mm_H} (hk : mm_lk M.1 pc = some (p9, .invokevirtual u, nx, kd :: j :: n :: ci :: r)) (c : EV S D' j as (hH sh V) (.inl none) h1) (hkd : kd = 0 ∨ kd = 5 ∨ kd = 3) (hb : (Nat.ble n st.length && mm_rst st n) = true) (ha : (st.take n).reverse = as) (hr : st.drop n = st2) (hv : st[n - 1]? = some (.ref a)) (h64 : 64 ≤ a) (hs : sh[a - 64]? = some (.inr (.inr (ci, fs)))) (hD : D' ≤ D) (w : WP S D M nx L st2 h1 Q) : WP S D M pc L st (hH sh V) Q := wp_calln hk (wx_callV hkd hb hv h64 hs ha hr) c hD w
theorem wp_ci {u kd j n a D' : Nat} {r : List Nat} {as st2 : List Value} {v : Value} {h1 : mm_H} (hk : mm_lk M.1 pc = some (p9, .invokespecial u, nx, kd :: j :: n :: r)) (c : EV S D' j as h (.inl (some v)) h1) (hkd : kd = 2 ∨ kd = 7) (hb : (Nat.ble n st.length && mm_rst st n) = true) (ha : (st.take n).reverse = as) (hr : st.drop n = st2) (hv : st[n - 1]? = some (.ref a)) (h64 : 64 ≤ a) (hD : D' ≤ D) (w : WP S D M nx L (v :: st2) h1 Q) : WP S D M pc L st h Q := wp_callv hk (wx_callI hkd hb hv h64 ha hr) c hD w
theorem wp_cin {u kd j n a D' : Nat} {r : List Nat} {as st2 : List Value} {h1 : mm_H} (hk : mm_lk M.1 pc = some (p9, .invokespecial u, nx, kd :: j :: n :: r)) (c : EV S D' j as h (.inl none) h1) (hkd : kd = 2 ∨ kd = 7) (hb : (Nat.ble n st.length && mm_rst st n) = true) (ha : (st.take n).reverse = as) (hr : st.drop n = st2) (hv : st[n - 1]? = some (.ref a)) (h64 : 64 ≤ a) (hD : D' ≤ D) (w : WP S D M nx L st2 h1 Q) : WP S D M pc L st h Q := wp_calln hk (wx_callI hkd hb hv h64 ha hr) c hD w
/-- truth as a whole number -/
def bI (b : Bool) : Int32 := match b with
  | true => 1
  | false => 0
theorem bI_un (b : Bool) : mm_un (bI b) ≤ 1 := by cases b <;> decide
theorem bI_0 {b : Bool} : bI b = 0 ↔ b = false := by cases b <;> decide
theorem bI_n0 {b : Bool} : ¬ bI b = 0 ↔ b = true := by cases b <;> decide
theorem bI_t : bI true = 1 := rfl
theorem bI_f : bI false = 0 := rfl
theorem wp_reti (hk : mm_lk M.1 pc = some (p9, .ireturn, nx, ax)) (hM : M.2.2.1 = 1) {x y : Int32} {h' : mm_H} (e : x = y) (eh : h = h') : WP S D M pc L [.int x] h (qe (.inl (some (.int y))) h') := by
  subst e eh
  exact wp_ret hk rfl (by rw [hM]; rfl) ⟨rfl, rfl⟩
theorem wp_retz (hk : mm_lk M.1 pc = some (p9, .ireturn, nx, ax)) (hM : M.2.2.1 = 2) {x : Int32} {b : Bool} {h' : mm_H} (e : x = bI b) (eh : h = h') : WP S D M pc L [.int x] h (qe (.inl (some (.int (bI b)))) h') := by
  subst e eh
  refine wp_ret hk rfl ?_ ⟨rfl, rfl⟩
  rw [hM]
  cases b <;> rfl
theorem wp_reta (hk : mm_lk M.1 pc = some (p9, .areturn, nx, ax)) (hM : M.2.2.1 = 5) {a : Nat} {h' : mm_H} (eh : h = h') : WP S D M pc L [.ref a] h (qe (.inl (some (.ref a))) h') := by
  subst eh
  exact wp_ret hk rfl (by rw [hM]; rfl) ⟨rfl, rfl⟩
theorem wp_retn (hk : mm_lk M.1 pc = some (p9, .return_, nx, ax)) (hM : M.2.2.1 = 0) {h' : mm_H} (eh : h = h') : WP S D M pc L [] h (qe (.inl none) h') := by
  subst eh
  exact wp_ret hk rfl (by rw [hM]; rfl) ⟨rfl, rfl⟩
/-- ends with any Q -/
theorem wp_retI (hk : mm_lk M.1 pc = some (p9, .ireturn, nx, ax)) (hM : M.2.2.1 = 1) {x : Int32} (q : Q (.inl (some (.int x))) h) : WP S D M pc L [.int x] h Q := wp_ret hk rfl (by rw [hM]; rfl) q
theorem wp_retZ (hk : mm_lk M.1 pc = some (p9, .ireturn, nx, ax)) (hM : M.2.2.1 = 2) {b : Bool} (q : Q (.inl (some (.int (bI b)))) h) : WP S D M pc L [.int (bI b)] h Q := wp_ret hk rfl (by rw [hM]; cases b <;> rfl) q
theorem wp_retN (hk : mm_lk M.1 pc = some (p9, .return_, nx, ax)) (hM : M.2.2.1 = 0) (q : Q (.inl none) h) : WP S D M pc L [] h Q := wp_ret hk rfl (by rw [hM]; rfl) q
theorem wp_if_icmp_eq_T {d : Int} {t : Nat} (hk : mm_lk M.1 pc = some (p9, .if_icmp .eq d, nx, [t])) {x y : Int32} (e : x = y) (w : WP S D M t L st h Q) : WP S D M pc L (.int y :: .int x :: st) h Q := wp_if_icmp_eq hk (fun _ => w) (fun q => absurd e q)
theorem wp_if_icmp_eq_F {d : Int} {t : Nat} (hk : mm_lk M.1 pc = some (p9, .if_icmp .eq d, nx, [t])) {x y : Int32} (e : ¬ x = y) (w : WP S D M nx L st h Q) : WP S D M pc L (.int y :: .int x :: st) h Q := wp_if_icmp_eq hk (fun q => absurd q e) (fun _ => w)
theorem wp_if_eq_T {d : Int} {t : Nat} (hk : mm_lk M.1 pc = some (p9, .ifCond .eq d, nx, [t])) {x : Int32} (e : x = 0) (w : WP S D M t L st h Q) : WP S D M pc L (.int x :: st) h Q := wp_if_eq hk (fun _ => w) (fun q => absurd e q)
theorem wp_if_eq_F {d : Int} {t : Nat} (hk : mm_lk M.1 pc = some (p9, .ifCond .eq d, nx, [t])) {x : Int32} (e : ¬ x = 0) (w : WP S D M nx L st h Q) : WP S D M pc L (.int x :: st) h Q := wp_if_eq hk (fun q => absurd q e) (fun _ => w)
theorem wp_if_icmp_ne_T {d : Int} {t : Nat} (hk : mm_lk M.1 pc = some (p9, .if_icmp .ne d, nx, [t])) {x y : Int32} (e : ¬ x = y) (w : WP S D M t L st h Q) : WP S D M pc L (.int y :: .int x :: st) h Q := wp_if_icmp_ne hk (fun _ => w) (fun q => absurd q e)
theorem wp_if_icmp_ne_F {d : Int} {t : Nat} (hk : mm_lk M.1 pc = some (p9, .if_icmp .ne d, nx, [t])) {x y : Int32} (e : x = y) (w : WP S D M nx L st h Q) : WP S D M pc L (.int y :: .int x :: st) h Q := wp_if_icmp_ne hk (fun q => absurd e q) (fun _ => w)
theorem wp_if_ne_T {d : Int} {t : Nat} (hk : mm_lk M.1 pc = some (p9, .ifCond .ne d, nx, [t])) {x : Int32} (e : ¬ x = 0) (w : WP S D M t L st h Q) : WP S D M pc L (.int x :: st) h Q := wp_if_ne hk (fun _ => w) (fun q => absurd q e)
theorem wp_if_ne_F {d : Int} {t : Nat} (hk : mm_lk M.1 pc = some (p9, .ifCond .ne d, nx, [t])) {x : Int32} (e : x = 0) (w : WP S D M nx L st h Q) : WP S D M pc L (.int x :: st) h Q := wp_if_ne hk (fun q => absurd e q) (fun _ => w)
theorem wp_if_icmp_lt_T {d : Int} {t : Nat} (hk : mm_lk M.1 pc = some (p9, .if_icmp .lt d, nx, [t])) {x y : Int32} (e : x < y) (w : WP S D M t L st h Q) : WP S D M pc L (.int y :: .int x :: st) h Q := wp_if_icmp_lt hk (fun _ => w) (fun q => absurd e q)
theorem wp_if_icmp_lt_F {d : Int} {t : Nat} (hk : mm_lk M.1 pc = some (p9, .if_icmp .lt d, nx, [t])) {x y : Int32} (e : ¬ x < y) (w : WP S D M nx L st h Q) : WP S D M pc L (.int y :: .int x :: st) h Q := wp_if_icmp_lt hk (fun q => absurd q e) (fun _ => w)
theorem wp_if_lt_T {d : Int} {t : Nat} (hk : mm_lk M.1 pc = some (p9, .ifCond .lt d, nx, [t])) {x : Int32} (e : x < 0) (w : WP S D M t L st h Q) : WP S D M pc L (.int x :: st) h Q := wp_if_lt hk (fun _ => w) (fun q => absurd e q)
theorem wp_if_lt_F {d : Int} {t : Nat} (hk : mm_lk M.1 pc = some (p9, .ifCond .lt d, nx, [t])) {x : Int32} (e : ¬ x < 0) (w : WP S D M nx L st h Q) : WP S D M pc L (.int x :: st) h Q := wp_if_lt hk (fun q => absurd q e) (fun _ => w)
theorem wp_if_icmp_ge_T {d : Int} {t : Nat} (hk : mm_lk M.1 pc = some (p9, .if_icmp .ge d, nx, [t])) {x y : Int32} (e : ¬ x < y) (w : WP S D M t L st h Q) : WP S D M pc L (.int y :: .int x :: st) h Q := wp_if_icmp_ge hk (fun _ => w) (fun q => absurd q e)
theorem wp_if_icmp_ge_F {d : Int} {t : Nat} (hk : mm_lk M.1 pc = some (p9, .if_icmp .ge d, nx, [t])) {x y : Int32} (e : x < y) (w : WP S D M nx L st h Q) : WP S D M pc L (.int y :: .int x :: st) h Q := wp_if_icmp_ge hk (fun q => absurd e q) (fun _ => w)
theorem wp_if_ge_T {d : Int} {t : Nat} (hk : mm_lk M.1 pc = some (p9, .ifCond .ge d, nx, [t])) {x : Int32} (e : ¬ x < 0) (w : WP S D M t L st h Q) : WP S D M pc L (.int x :: st) h Q := wp_if_ge hk (fun _ => w) (fun q => absurd q e)
theorem wp_if_ge_F {d : Int} {t : Nat} (hk : mm_lk M.1 pc = some (p9, .ifCond .ge d, nx, [t])) {x : Int32} (e : x < 0) (w : WP S D M nx L st h Q) : WP S D M pc L (.int x :: st) h Q := wp_if_ge hk (fun q => absurd e q) (fun _ => w)
theorem wp_if_icmp_gt_T {d : Int} {t : Nat} (hk : mm_lk M.1 pc = some (p9, .if_icmp .gt d, nx, [t])) {x y : Int32} (e : y < x) (w : WP S D M t L st h Q) : WP S D M pc L (.int y :: .int x :: st) h Q := wp_if_icmp_gt hk (fun _ => w) (fun q => absurd e q)
theorem wp_if_icmp_gt_F {d : Int} {t : Nat} (hk : mm_lk M.1 pc = some (p9, .if_icmp .gt d, nx, [t])) {x y : Int32} (e : ¬ y < x) (w : WP S D M nx L st h Q) : WP S D M pc L (.int y :: .int x :: st) h Q := wp_if_icmp_gt hk (fun q => absurd q e) (fun _ => w)
theorem wp_if_gt_T {d : Int} {t : Nat} (hk : mm_lk M.1 pc = some (p9, .ifCond .gt d, nx, [t])) {x : Int32} (e : 0 < x) (w : WP S D M t L st h Q) : WP S D M pc L (.int x :: st) h Q := wp_if_gt hk (fun _ => w) (fun q => absurd e q)
theorem wp_if_gt_F {d : Int} {t : Nat} (hk : mm_lk M.1 pc = some (p9, .ifCond .gt d, nx, [t])) {x : Int32} (e : ¬ 0 < x) (w : WP S D M nx L st h Q) : WP S D M pc L (.int x :: st) h Q := wp_if_gt hk (fun q => absurd q e) (fun _ => w)
theorem wp_if_icmp_le_T {d : Int} {t : Nat} (hk : mm_lk M.1 pc = some (p9, .if_icmp .le d, nx, [t])) {x y : Int32} (e : ¬ y < x) (w : WP S D M t L st h Q) : WP S D M pc L (.int y :: .int x :: st) h Q := wp_if_icmp_le hk (fun _ => w) (fun q => absurd q e)
theorem wp_if_icmp_le_F {d : Int} {t : Nat} (hk : mm_lk M.1 pc = some (p9, .if_icmp .le d, nx, [t])) {x y : Int32} (e : y < x) (w : WP S D M nx L st h Q) : WP S D M pc L (.int y :: .int x :: st) h Q := wp_if_icmp_le hk (fun q => absurd e q) (fun _ => w)
theorem wp_if_le_T {d : Int} {t : Nat} (hk : mm_lk M.1 pc = some (p9, .ifCond .le d, nx, [t])) {x : Int32} (e : ¬ 0 < x) (w : WP S D M t L st h Q) : WP S D M pc L (.int x :: st) h Q := wp_if_le hk (fun _ => w) (fun q => absurd q e)
theorem wp_if_le_F {d : Int} {t : Nat} (hk : mm_lk M.1 pc = some (p9, .ifCond .le d, nx, [t])) {x : Int32} (e : 0 < x) (w : WP S D M nx L st h Q) : WP S D M pc L (.int x :: st) h Q := wp_if_le hk (fun q => absurd e q) (fun _ => w)
theorem i_lt {k n : Nat} (h : k < n) (hn : n < 2147483648) : Int32.ofNat k < Int32.ofNat n := (Int32.ofNat_lt_iff_lt (by omega) (by omega)).mpr h
theorem i_nlt {k n : Nat} (h : n ≤ k) (hk : k < 2147483648) : ¬ Int32.ofNat k < Int32.ofNat n := fun q => Nat.not_lt.mpr h ((Int32.ofNat_lt_iff_lt (by omega) (by omega)).mp q)
theorem i_un {k : Nat} (h : k < 4294967296) : mm_un (Int32.ofNat k) = k := by
  rw [mm_un_bv]
  show (BitVec.ofNat 32 k).toNat = k
  rw [BitVec.toNat_ofNat]
  exact Nat.mod_eq_of_lt h
theorem i_succ (k : Nat) : Int32.ofNat k + 1 = Int32.ofNat (k + 1) := by
  rw [show (1 : Int32) = Int32.ofNat 1 from rfl, ← Int32.ofNat_add]
theorem i_in {x : Int32} {n : Nat} (h : mm_un x < n) (hn : n ≤ 2147483647) : mm_in x n = true := by
  unfold mm_in
  rw [Nat.ble_eq_true_of_le h, Nat.ble_eq_true_of_le hn]
  rfl
theorem i_inO {k n : Nat} (h : k < n) (hn : n ≤ 2147483647) : mm_in (Int32.ofNat k) n = true := i_in (by rw [i_un (by omega)]; exact h) hn
end WS
