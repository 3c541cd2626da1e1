/-! ===== what holds around the heap: tables, statics, constants, the script ===== -/
def mt_g : List Jvm.Cond := mt_tbl.filter goodWord
def mm_xc (G : mm_G) (k : Nat) (c : mm_C) (U : State) (H : Heap) : Prop := match c with
  | .inl (t, n, N) => ∃ q, mm_ad G k = some q ∧ ((t = 0 ∧ va_T .int q n (fun j => .int (Int32.ofNat (mm_ag 32 N j))) (mm_Ar G) U H) ∨ (t = 2 ∧ va_T .byte q n (fun j => .int (Int32.ofNat (mm_ag 32 N j))) (mm_Ar G) U H))
  | .inr (.inl _) => False
  | .inr (.inr (ci, fs)) => ∃ q r, mm_ad G k = some q ∧ mm_cls[ci]? = some r ∧ va_O r.1 q (mm_Ar G) U H ∧ ∀ (f : Nat) (v : Value) (d : String × String × String × Bool), fs[f]? = some v → r.2[f]? = some d → va_OF d.1 d.2.1 d.2.2.1 (mm_dn G v) q (mm_Ar G) U H
def mm_Ev (G : mm_G) (X : mm_X) (U : State) : Prop :=
  va_K G.2.2.1 mm_cl (mm_tys G) U ∧
  (∀ k f v, mm_stn[k]? = some f → X.2.2.1 k = some v → va_Z f.1 f.2.1 f.2.2 (mm_dn G v) (mm_Ar G) U U.heap) ∧
  (∀ own x k, (own, x, k) ∈ mm_sites → ∃ q tx, mm_ad G k = some q ∧ vk_R own x tx q U) ∧
  (∀ k c, k < 64 → X.1 k = some c → mm_xc G k c U U.heap) ∧
  (∃ b xs, mm_ad G 0 = some b ∧ va_X b X.2.1.1 xs U U.heap ∧ b < U.heap.size ∧ ¬ mm_Ar G b ∧ ∀ j x, X.2.1.2 j = some x → xs j = x) ∧
  (vx_Zq Bundle.tN "UNASSIGNED_STACK" Bundle.steD (mm_Ar G) U U.heap ∧ vx_Zq Bundle.tN "SUPPRESSED_SENTINEL" Bundle.listD (mm_Ar G) U U.heap) ∧
  (∀ w ∈ mt_tbl, mm_isN w = true → va_Nw w U) ∧
  (∀ k, k < 63 → ∃ q, mm_ad G k = some q)
theorem mm_Ev.to {G : mm_G} {X : mm_X} {s U : State} {H : Heap} {locs : List Loc} (h : mm_Ev G X s) (hS : va_S (mm_Ar G) s.heap H locs) (hU : U.heap = H) (hW : s.WarmedH U.vm) : mm_Ev G X U := by
  subst hU
  obtain ⟨a1, a2, a3, a4, ⟨b, xs, c1, c2, c3, c4, c5⟩, ⟨a6, a7⟩, a8, a9⟩ := h
  refine ⟨a1.moved hW.alike, fun k f v h1 h2 => va_Z.moved hW.alike ((a2 k f v h1 h2).kept hS.2.1), fun own x k hm => ?_, fun k c hk hc => ?_, ⟨b, xs, c1, (c2.kept (hS.2.1 b c3 c4)).moved hW.alike, Nat.lt_of_lt_of_le c3 hS.1, c4, c5⟩, ⟨vx_Zq.moved hW.alike (a6.kept hS.2.1), vx_Zq.moved hW.alike (a7.kept hS.2.1)⟩, fun w hw hn => ?_, a9⟩
  · obtain ⟨q, tx, h1, h2⟩ := a3 own x k hm
    exact ⟨q, tx, h1, h2.warm hW⟩
  · have h1 := a4 k c hk hc
    match c, h1 with
    | .inl (t, n, N), h1 =>
      obtain ⟨q, e1, h2⟩ := h1
      refine ⟨q, e1, ?_⟩
      rcases h2 with ⟨e, h2⟩ | ⟨e, h2⟩
      · exact Or.inl ⟨e, va_T.moved hW.alike (h2.kept hS.2.1)⟩
      · exact Or.inr ⟨e, va_T.moved hW.alike (h2.kept hS.2.1)⟩
    | .inr (.inl _), h1 => exact h1
    | .inr (.inr (ci, fs)), h1 =>
      obtain ⟨q, r, e1, e2, e3, e4⟩ := h1
      exact ⟨q, r, e1, e2, va_O.moved hW.alike (e3.kept hS.2.1), fun f v d g1 g2 => va_OF.moved hW.alike ((e4 f v d g1 g2).kept hS.2.1)⟩
  · have h1 := a8 w hw hn
    match w, hn, h1 with
    | .fieldLinkNest a i b n d h, _, h1 => exact va_Nw.warmF hW h1
    | .methodLinkNest a i x h, _, h1 => exact va_Nw.warmM hW h1
    | .castable a b, _, h1 => exact va_Nw.warmC hW h1
    | .declares a, _, h1 => exact va_Nw.warmD hW h1
    | .arrayOver (.object C), _, h1 => exact va_AO.moved hW.alike h1
theorem mm_Ev.blind {G : mm_G} {X : mm_X} {U : State} {g : JFrame} {mk : MethodId} {a : Array Value} (h : mm_Ev G X U) : mm_Ev G X (U.calling g mk a) :=
  h.to (locs := []) va_S.rf rfl (State.WarmedH.refl U)
def mm_Fx (p : Program) (s : State) (m : MethodId) (args : Array Value) (c : Code) (cc : ByteArray) (own : String) (G : mm_G) (X : mm_X) : Prop :=
  p.tables.exec = Jvm.exec ∧ c.code = cc ∧ s.vm.findClass own = some m.cls ∧ (∀ w ∈ mt_g, w.before args s = true) ∧ mm_Ev G X s ∧ X.2.2.2 = mm_fty
theorem mm_wd {p : Program} {s : State} {m : MethodId} {args : Array Value} {c : Code} {cc : ByteArray} {own : String} {G : mm_G} {X : mm_X} (hF : mm_Fx p s m args c cc own G X) {i : Nat} {w : Jvm.Cond} (h : (goodWord w || mm_isN w) = true) (hi : mt_tbl[i]? = some w) : w.before args s = true := by
  obtain ⟨-, -, -, hts, hE, -⟩ := hF
  have hm : w ∈ mt_tbl := List.mem_of_getElem? hi
  cases hg : goodWord w with
  | true => exact hts w (List.mem_filter.mpr ⟨hm, hg⟩)
  | false =>
    rw [hg, Bool.false_or] at h
    have h1 := hE.2.2.2.2.2.2.1 w hm h
    match w, h, h1 with
    | .fieldLinkNest a i b n d h, _, h1 => exact va_tabs rfl rfl h1
    | .methodLinkNest a i x h, _, h1 => exact va_tabs rfl rfl h1
    | .castable a b, _, h1 => exact va_tabs rfl rfl h1
    | .declares a, _, h1 => exact va_tabs rfl rfl h1
    | .arrayOver (.object C), _, h1 => exact va_AO.use h1
theorem mm_need_wd {p : Program} {s : State} {m : MethodId} {args : Array Value} {c : Code} {cc : ByteArray} {own mn : String} {G : mm_G} {X : mm_X} (hF : mm_Fx p s m args c cc own G X) {N : Nat → Option mm_N} {pc nx : Nat} {i : Instr} {ax : List Nat} (hI : mm_okI own mn N cc (pc, i, nx, ax) = true) {l : List (Nat × Jvm.Cond)} (hn : mm_need own N i ax = some l) : ∀ q ∈ l, q.2.before args s = true := by
  intro q hq
  unfold mm_okI at hI
  simp only [Bool.and_eq_true] at hI
  obtain ⟨-, h2, -⟩ := hI
  rw [hn] at h2
  have h3 := List.all_eq_true.mp h2 q hq
  rw [Bool.and_eq_true] at h3
  exact mm_wd hF h3.1 (of_decide_eq_true h3.2)
theorem mm_okI_rest {own mn : String} {N : Nat → Option mm_N} {cc : ByteArray} {pc nx : Nat} {i : Instr} {ax : List Nat} (hI : mm_okI own mn N cc (pc, i, nx, ax) = true) : mm_rest own mn N cc pc i nx ax = true := by
  unfold mm_okI at hI
  simp only [Bool.and_eq_true] at hI
  exact hI.2.2
theorem mm_okI_dec {own mn : String} {N : Nat → Option mm_N} {cc : ByteArray} {pc nx : Nat} {i : Instr} {ax : List Nat} (hI : mm_okI own mn N cc (pc, i, nx, ax) = true) (hne : ∀ a b c d, i ≠ .tableswitch a b c d) : decode cc pc = .ok (i, mm_ln i) ∧ nx = pc + mm_ln i := by
  unfold mm_okI at hI
  simp only [Bool.and_eq_true] at hI
  have h1 := hI.1
  exact ⟨of_decide_eq_true h1.1, Nat.beq_eq.mp h1.2⟩
theorem mm_okI_sw {own mn : String} {N : Nat → Option mm_N} {cc : ByteArray} {pc nx : Nat} {a b c : Int} {d : Array Int} {ax : List Nat} (hI : mm_okI own mn N cc (pc, .tableswitch a b c d, nx, ax) = true) : decode cc pc = .ok (.tableswitch a b c d, nx - pc) := by
  unfold mm_okI at hI
  simp only [Bool.and_eq_true] at hI
  exact of_decide_eq_true hI.1
/-- the heap can't be larger than the count -/
theorem mm_bound {p : Program} {l : Launch} {e : Env} {R : Room} {s : State} {m : MethodId} {args : Array Value} {below : List Frame} {meth : Method} {c : Code} {H : Heap} {locs : List Loc} {cells slots : Nat} {Q : State → Prop} {g : JFrame}
    (k : H.size ≤ s.heap.size + cells → W p l e R s m args below meth c H locs cells slots Q g) : W p l e R s m args below meth c H locs cells slots Q g :=
  fun T hT X => k (by rw [← hT]; exact X.heapSize) T hT X
theorem mm_dn_own {G : mm_G} {a : Nat} (h : 64 ≤ a) : mm_dn G (.ref a) = .ref (G.1 + (a - 64)) := by
  show va_rf (mm_ad G a) = _
  unfold mm_ad
  rw [if_neg (by omega)]
  rfl
theorem mm_rd_own {X : Nat → Option mm_C} {h : mm_H} {a : Nat} (h1 : 64 ≤ a) : mm_rd X h a = h[a - 64]? := by
  unfold mm_rd
  rw [show Nat.ble 64 a = true from Nat.ble_eq.mpr h1]
theorem mm_rd_ext {X : Nat → Option mm_C} {h : mm_H} {a : Nat} (h1 : ¬ 64 ≤ a) : mm_rd X h a = X a := by
  unfold mm_rd
  rw [show Nat.ble 64 a = false from by rw [← Bool.not_eq_true, Nat.ble_eq]; exact h1]
theorem mm_obj_eq {o : Option mm_C} {ci : Nat} {fs : List Value} (h : mm_obj o ci = some fs) : o = some (.inr (.inr (ci, fs))) := by
  unfold mm_obj at h
  split at h
  · split at h
    · rename_i hb
      cases h
      rw [Nat.beq_eq] at hb
      rw [hb]
    · cases h
  · cases h
theorem mm_prim_eq {o : Option mm_C} {t n N : Nat} (h : mm_prim o t = some (n, N)) : o = some (.inl (t, n, N)) := by
  unfold mm_prim at h
  split at h
  · split at h
    · rename_i hb
      cases h
      rw [Nat.beq_eq] at hb
      rw [hb]
    · cases h
  · cases h
theorem mm_cl_get {ci : Nat} {q : String × List (String × String × String × Bool)} (h : mm_cls[ci]? = some q) : mm_cl[ci]? = some (q.1, mm_T q.2, q.2.length) := by
  unfold mm_cl
  rw [List.getElem?_map, h]
  rfl
theorem mm_T_get {fs : List (String × String × String × Bool)} {k : Nat} {f : String × String × String × Bool} (h : fs[k]? = some f) : mm_T fs k = f := by
  unfold mm_T
  rw [List.getD_eq_getElem?_getD, h]
  rfl
/-- what the classes' tables give -/
def mm_Cok : Prop := ∀ ci q, mm_cls[ci]? = some q → (∀ w ∈ u_ws q.1 (mm_T q.2) q.2.length, w ∈ mt_g) ∧ (∀ a, a < q.2.length → ∀ b, b < q.2.length → a ≠ b → (mm_T q.2 a).2.1 ≠ (mm_T q.2 b).2.1) ∧ (mm_fty ci).length = q.2.length ∧ ∀ k ty, (mm_fty ci)[k]? = some ty → parseFieldDescriptor (mm_T q.2 k).2.2.1 = some ty
theorem mm_Wof {G : mm_G} {h : mm_H} {H1 : Heap} (hP : va_P G.2.2.1 mm_cl (mm_ws G h) H1) (hb : H1.size ≤ G.1 + h.length) (h0 : G.1 ≤ H1.size) : mm_W G h H1 := by
  refine ⟨hP, Nat.le_antisymm hb ?_⟩
  cases hl : h.length with
  | zero => exact h0
  | succ n =>
    have hc : n < h.length := by omega
    have h1 : (mm_ws G h)[n]? = some (G.1 + n, mm_dE G h[n]) := by rw [mm_ws_get, List.getElem?_eq_getElem hc]; rfl
    have h2 := (hP n _ h1).lt
    have h2 : G.1 + n < H1.size := h2
    omega
