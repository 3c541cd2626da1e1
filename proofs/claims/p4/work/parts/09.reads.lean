/-! ===== one instruction: reads of the heap, links, switches ===== -/
section MH
variable {p : Program} {l : Launch} {e : Env} {R : Room} {s : State} {m : MethodId} {args : Array Value} {below : List Frame} {meth : Method} {c : Code} {H : Heap} {locs : List Loc} {cells slots : Nat} {Q : State → Prop}
variable {cc : ByteArray} {pc : Nat} {ls : Array Slot} {G : mm_G} {X : mm_X} {h : mm_H} {L L' : mm_L} {st st' : List Value} {nx pc' : Nat} {ax : List Nat} {op : Option ((Nat × mm_C) ⊕ mm_C)} {own mn : String} {N : Nat → Option mm_N}
theorem mm_okI_need {i : Instr} (hI : mm_okI own mn N cc (pc, i, nx, ax) = true) : ∃ l, mm_need own N i ax = some l := by
  unfold mm_okI at hI
  simp only [Bool.and_eq_true] at hI
  have h2 := hI.2.1
  cases hn : mm_need own N i ax with
  | none => rw [hn] at h2; cases h2
  | some l => exact ⟨l, rfl⟩
theorem mm_fieldlink (hF : mm_Fx p s m args c cc own G X) {i : Instr} {x : Nat} (hi : i = .getfield x ∨ i = .putfield x) {nest ci k : Nat} {t : List Nat} (hI : mm_okI own mn N cc (pc, i, nx, nest :: ci :: k :: t) = true) :
    ∃ q f, mm_cls[ci]? = some q ∧ q.2[k]? = some f ∧ ((nest = 0 ∧ (Jvm.Cond.fieldLink own x f.1 f.2.1 f.2.2.1).before args s = true) ∨ (nest ≠ 0 ∧ ∃ hx, (Jvm.Cond.fieldLinkNest own x f.1 f.2.1 f.2.2.1 hx).before args s = true)) := by
  obtain ⟨lw, hn⟩ := mm_okI_need hI
  have hw := mm_need_wd hF hI hn
  rcases hi with rfl | rfl
  all_goals
    cases t with
    | nil => cases hn
    | cons p0 r =>
      simp only [mm_need] at hn
      split at hn
      · rename_i q hq
        split at hn
        · rename_i f hf
          refine ⟨q, f, hq, hf, ?_⟩
          split at hn
          · cases hn
            exact Or.inl ⟨rfl, hw _ List.mem_cons_self⟩
          · rename_i hne
            cases hn
            exact Or.inr ⟨fun z => hne z, _, hw _ List.mem_cons_self⟩
          · cases hn
        · cases hn
      · cases hn
/-- what the externals are: below 64, their objects Strings -/
def mm_Xok (X : mm_X) : Prop := (∀ k q, X.1 k = some q → k < 64) ∧ ∀ k ci fs, X.1 k = some (.inr (.inr (ci, fs))) → ci = 0
theorem mm_own_at {k : Nat} {q : mm_C} (h1 : h[k]? = some q) : (mm_ws G h)[k]? = some (G.1 + k, mm_dE G q) := by
  rw [mm_ws_get, h1]; rfl
theorem mh_getfield (hC : mm_Cok) (hX : mm_Xok X) (hF : mm_Fx p s m args c cc own G X) {x : Nat} (hI : mm_okI own mn N cc (pc, .getfield x, nx, ax) = true) (hW : mm_W G h H) (hS : va_S (mm_Ar G) s.heap H locs) (hl : mm_LH G ls L) (hs : mm_stp X h L st (pc, .getfield x, nx, ax) = some (.inl (pc', L', st', op)))
    (k : op = none → ∀ ls', mm_LH G ls' L' → W p l e R s m args below meth c H locs cells slots Q (F0 m pc' ls' (st'.map (mm_dn G)))) : W p l e R s m args below meth c H locs cells slots Q (F0 m pc ls (st.map (mm_dn G))) := by
  obtain ⟨hd, hn⟩ := mm_okI_dec hI (fun _ _ _ _ q => by cases q)
  subst hn
  simp only [mm_stp] at hs
  split at hs
  · rename_i a r nest ci kf ax0
    split at hs
    · rename_i fs ho
      split at hs
      · rename_i v hv
        cases mi_go hs
        have hk := k rfl ls hl
        rw [List.map_cons] at hk
        obtain ⟨q, f, hq, hf, hlk⟩ := mm_fieldlink hF (Or.inl rfl) hI
        have hfl : kf < q.2.length := (List.getElem?_eq_some_iff.mp hf).1
        have hT := mm_T_get hf
        have ho := mm_obj_eq ho
        obtain ⟨hx, hb, hown, hts, hE, hXf⟩ := hF
        rw [List.map_cons]
        by_cases ha : 64 ≤ a
        · rw [mm_rd_own ha] at ho
          rw [mm_dn_own ha]
          have he := mm_own_at (G := G) ho
          have hv2 : (fs.map (mm_dn G))[kf]? = some (mm_dn G v) := by rw [List.getElem?_map, hv]; rfl
          rcases hlk with ⟨-, hlk⟩ | ⟨hn0, hx0, hlk⟩
          · exact va_get (D := G.2.2.1) (cl := mm_cl) (tys := mm_tys G) (ws := mm_ws G h) (ci := ci) (C := q.1) (T := mm_T q.2) (N := q.2.length) (ref := f.1) hx hb hts (hC ci q hq).1 hown hE.1 hW.1 (a - 64) he (mm_cl_get hq) kf hfl (by rw [hT]; exact hlk) (by rw [hT]; exact fun _ z => z) hv2 hd hk
          · exact va_getN (D := G.2.2.1) (cl := mm_cl) (tys := mm_tys G) (ws := mm_ws G h) (ci := ci) (C := q.1) (T := mm_T q.2) (N := q.2.length) (ref := f.1) (host := hx0) hx hb hts (hC ci q hq).1 hown hE.1 hW.1 (a - 64) he (mm_cl_get hq) kf hfl (by rw [hT]; exact hlk) (by rw [hT]; exact fun _ z => z) hv2 hd hk
        · rw [mm_rd_ext ha] at ho
          obtain ⟨qa, r0, e1, e2, e3, e4⟩ := hE.2.2.2.1 a _ (hX.1 _ _ ho) ho
          cases hq.symm.trans e2
          have hO := e4 kf v f hv hf
          rw [show mm_dn G (.ref a) = .ref qa from by show va_rf (mm_ad G a) = _; rw [e1]; rfl]
          rcases hlk with ⟨-, hlk⟩ | ⟨hn0, hx0, hlk⟩
          · exact vk_getf hx hb hO hS hown hlk (fun _ z => z) hd hk
          · have hr := of_decide_eq_true (mm_okI_rest hI)
            have hci : ci = 0 := (hX.2 _ _ _ ho)
            rcases hr with hr | hr
            · exact absurd hr hn0
            · exact absurd hci hr
      · cases hs
    · cases hs
  · cases hs
theorem mh_getstatic (hX : mm_Xok X) (hF : mm_Fx p s m args c cc own G X) {x : Nat} (hI : mm_okI own mn N cc (pc, .getstatic x, nx, ax) = true) (hW : mm_W G h H) (hS : va_S (mm_Ar G) s.heap H locs) (hl : mm_LH G ls L) (hs : mm_stp X h L st (pc, .getstatic x, nx, ax) = some (.inl (pc', L', st', op)))
    (k : op = none → ∀ ls', mm_LH G ls' L' → W p l e R s m args below meth c H locs cells slots Q (F0 m pc' ls' (st'.map (mm_dn G)))) : W p l e R s m args below meth c H locs cells slots Q (F0 m pc ls (st.map (mm_dn G))) := by
  obtain ⟨hd, hn⟩ := mm_okI_dec hI (fun _ _ _ _ q => by cases q)
  subst hn
  obtain ⟨lw, hnd⟩ := mm_okI_need hI
  have hw := mm_need_wd hF hI hnd
  obtain ⟨hx, hb, hown, hts, hE, hXf⟩ := hF
  simp only [mm_stp] at hs
  split at hs
  · rename_i nest kk ax0
    split at hs
    · rename_i v hv
      cases mi_go hs
      have hk := k rfl ls hl
      rw [List.map_cons] at hk
      cases ax0 with
      | nil => cases hnd
      | cons p0 r0 =>
        simp only [mm_need] at hnd
        split at hnd
        · rename_i f hf
          have hZ := hE.2.1 kk f v hf hv
          split at hnd
          · cases hnd
            exact va_gets hx hb hZ hS hown (hw _ List.mem_cons_self) (fun _ z => z) hd hk
          · cases hnd
            exact va_getsN hx hb hZ hS hown (hw _ List.mem_cons_self) (fun _ z => z) hd hk
          · cases hnd
        · cases hnd
    · cases hs
  · cases hs
theorem mh_ldcSW {tx : String} {index q : Nat} {rest : List Value} (hexec : p.tables.exec = Jvm.exec) (hb : c.code = cc) (hown : s.vm.findClass own = some m.cls) (hZ : vk_R own index tx q s) (hdg : decode cc pc = .ok (.ldc_w index, 3))
    (k : W p l e R s m args below meth c H locs cells slots Q (F0 m (pc + 3) ls (.ref q :: rest))) : W p l e R s m args below meth c H locs cells slots Q (F0 m pc ls rest) := by
  intro T hT X
  obtain ⟨t, a1, b1⟩ := k T hT X
  exact ⟨t, X.ldcStringW hexec hown (text := tx) (a := q) hZ.1 hZ.2 (g := F0 m pc ls rest) rfl (by rw [hb]; exact hdg) t a1, b1⟩
theorem mm_dn_some {a q : Nat} (e : mm_ad G a = some q) : mm_dn G (.ref a) = .ref q := by
  show va_rf (mm_ad G a) = _
  rw [e]; rfl
theorem mh_ldc (hX : mm_Xok X) (hF : mm_Fx p s m args c cc own G X) {x : Nat} (hI : mm_okI own mn N cc (pc, .ldc x, nx, ax) = true) (hW : mm_W G h H) (hS : va_S (mm_Ar G) s.heap H locs) (hl : mm_LH G ls L) (hs : mm_stp X h L st (pc, .ldc x, nx, ax) = some (.inl (pc', L', st', op)))
    (k : op = none → ∀ ls', mm_LH G ls' L' → W p l e R s m args below meth c H locs cells slots Q (F0 m pc' ls' (st'.map (mm_dn G)))) : W p l e R s m args below meth c H locs cells slots Q (F0 m pc ls (st.map (mm_dn G))) := by
  obtain ⟨hd, hn⟩ := mm_okI_dec hI (fun _ _ _ _ q => by cases q)
  subst hn
  obtain ⟨lw, hnd⟩ := mm_okI_need hI
  have hw := mm_need_wd hF hI hnd
  have hr := mm_okI_rest hI
  obtain ⟨hx, hb, hown, hts, hE, hXf⟩ := hF
  simp only [mm_stp] at hs
  split at hs
  · rename_i v ax0
    cases mi_go hs
    have hk := k rfl ls hl
    rw [List.map_cons] at hk
    cases ax0 with
    | nil => cases hnd
    | cons p0 r0 =>
      cases hnd
      exact lv_ldc hx hb hown (hw _ List.mem_cons_self) hd hk
  · rename_i v ax0
    cases mi_go hs
    have hk := k rfl ls hl
    rw [List.map_cons] at hk
    obtain ⟨q, tx, e1, e2⟩ := hE.2.2.1 _ _ _ (of_decide_eq_true hr)
    rw [mm_dn_some e1] at hk
    exact va_ldcS hx hb hown e2 hd hk
  · cases hs
theorem mh_ldc_w (hX : mm_Xok X) (hF : mm_Fx p s m args c cc own G X) {x : Nat} (hI : mm_okI own mn N cc (pc, .ldc_w x, nx, ax) = true) (hW : mm_W G h H) (hS : va_S (mm_Ar G) s.heap H locs) (hl : mm_LH G ls L) (hs : mm_stp X h L st (pc, .ldc_w x, nx, ax) = some (.inl (pc', L', st', op)))
    (k : op = none → ∀ ls', mm_LH G ls' L' → W p l e R s m args below meth c H locs cells slots Q (F0 m pc' ls' (st'.map (mm_dn G)))) : W p l e R s m args below meth c H locs cells slots Q (F0 m pc ls (st.map (mm_dn G))) := by
  obtain ⟨hd, hn⟩ := mm_okI_dec hI (fun _ _ _ _ q => by cases q)
  subst hn
  obtain ⟨lw, hnd⟩ := mm_okI_need hI
  have hw := mm_need_wd hF hI hnd
  have hr := mm_okI_rest hI
  obtain ⟨hx, hb, hown, hts, hE, hXf⟩ := hF
  simp only [mm_stp] at hs
  split at hs
  · rename_i v ax0
    cases mi_go hs
    have hk := k rfl ls hl
    rw [List.map_cons] at hk
    cases ax0 with
    | nil => cases hnd
    | cons p0 r0 =>
      cases hnd
      exact lv_ldcw hx hb hown (hw _ List.mem_cons_self) hd hk
  · rename_i v ax0
    cases mi_go hs
    have hk := k rfl ls hl
    rw [List.map_cons] at hk
    obtain ⟨q, tx, e1, e2⟩ := hE.2.2.1 _ _ _ (of_decide_eq_true hr)
    rw [mm_dn_some e1] at hk
    exact mh_ldcSW hx hb hown e2 hd hk
  · cases hs
theorem mh_ldc2_w (hX : mm_Xok X) (hF : mm_Fx p s m args c cc own G X) {x : Nat} (hI : mm_okI own mn N cc (pc, .ldc2_w x, nx, ax) = true) (hW : mm_W G h H) (hS : va_S (mm_Ar G) s.heap H locs) (hl : mm_LH G ls L) (hs : mm_stp X h L st (pc, .ldc2_w x, nx, ax) = some (.inl (pc', L', st', op)))
    (k : op = none → ∀ ls', mm_LH G ls' L' → W p l e R s m args below meth c H locs cells slots Q (F0 m pc' ls' (st'.map (mm_dn G)))) : W p l e R s m args below meth c H locs cells slots Q (F0 m pc ls (st.map (mm_dn G))) := by
  obtain ⟨hd, hn⟩ := mm_okI_dec hI (fun _ _ _ _ q => by cases q)
  subst hn
  obtain ⟨lw, hnd⟩ := mm_okI_need hI
  have hw := mm_need_wd hF hI hnd
  obtain ⟨hx, hb, hown, hts, hE, hXf⟩ := hF
  simp only [mm_stp] at hs
  split at hs
  · rename_i v ax0
    cases mi_go hs
    have hk := k rfl ls hl
    rw [List.map_cons] at hk
    cases ax0 with
    | nil => cases hnd
    | cons p0 r0 =>
      cases hnd
      exact lv_ldc2 hx hb hown (hw _ List.mem_cons_self) hd hk
  · cases hs
theorem mh_iaload (hX : mm_Xok X) (hF : mm_Fx p s m args c cc own G X) (hI : mm_okI own mn N cc (pc, .iaload, nx, ax) = true) (hW : mm_W G h H) (hS : va_S (mm_Ar G) s.heap H locs) (hl : mm_LH G ls L) (hs : mm_stp X h L st (pc, .iaload, nx, ax) = some (.inl (pc', L', st', op)))
    (k : op = none → ∀ ls', mm_LH G ls' L' → W p l e R s m args below meth c H locs cells slots Q (F0 m pc' ls' (st'.map (mm_dn G)))) : W p l e R s m args below meth c H locs cells slots Q (F0 m pc ls (st.map (mm_dn G))) := by
  obtain ⟨hd, hn⟩ := mm_okI_dec hI (fun _ _ _ _ q => by cases q)
  subst hn
  obtain ⟨hx, hb, hown, hts, hE, hXf⟩ := hF
  simp only [mm_stp] at hs
  split at hs
  · rename_i i a r
    rw [List.map_cons, List.map_cons]
    show W p l e R s m args below meth c H locs cells slots Q (F0 m pc ls (.int i :: mm_dn G (.ref a) :: List.map (mm_dn G) r))
    split at hs
    · rename_i ha
      rw [Nat.beq_eq] at ha
      subst ha
      split at hs
      · rename_i hin
        obtain ⟨h1, h2, h3⟩ := mm_in_ok hin
        split at hs
        · rename_i x hx0
          cases mi_go hs
          have hk := k rfl ls hl
          obtain ⟨b, xs, c1, c2, c3, c4, c5⟩ := hE.2.2.2.2.1
          rw [mm_dn_some c1]
          refine va_sld hx hb c2 c3 c4 hS h1 hd ?_
          rw [h2, c5 _ _ hx0]
          exact hk
        · cases hs
      · cases hs
    · split at hs
      · rename_i n M ho
        have ho := mm_prim_eq ho
        split at hs
        · rename_i hin
          obtain ⟨h1, h2, h3⟩ := mm_in_ok hin
          rw [mm_fI_eq] at hs
          cases mi_go hs
          have hk := k rfl ls hl
          rw [List.map_cons] at hk
          by_cases ha : 64 ≤ a
          · rw [mm_rd_own ha] at ho
            rw [mm_dn_own ha]
            refine va_iald (D := G.2.2.1) (cl := mm_cl) (tys := mm_tys G) (ws := mm_ws G h) hx hb hE.1 hW.1 (a - 64) 0 (cA := G.2.2.2 0) (n := n) (f := fun j => Int32.ofNat (mm_ag 32 M j)) (mm_own_at ho) rfl h1 hd ?_
            rw [h2]
            exact hk
          · rw [mm_rd_ext ha] at ho
            obtain ⟨q, e1, hT⟩ := hE.2.2.2.1 a _ (hX.1 _ _ ho) ho
            rw [mm_dn_some e1]
            rcases hT with ⟨-, hT⟩ | ⟨z, -⟩
            · exact va_ti hx hb hT hS h1 (by rw [h2]; rfl) hd hk
            · cases z
        · cases hs
      · cases hs
  · cases hs
theorem mh_baload (hX : mm_Xok X) (hF : mm_Fx p s m args c cc own G X) (hI : mm_okI own mn N cc (pc, .baload, nx, ax) = true) (hW : mm_W G h H) (hS : va_S (mm_Ar G) s.heap H locs) (hl : mm_LH G ls L) (hs : mm_stp X h L st (pc, .baload, nx, ax) = some (.inl (pc', L', st', op)))
    (k : op = none → ∀ ls', mm_LH G ls' L' → W p l e R s m args below meth c H locs cells slots Q (F0 m pc' ls' (st'.map (mm_dn G)))) : W p l e R s m args below meth c H locs cells slots Q (F0 m pc ls (st.map (mm_dn G))) := by
  obtain ⟨hd, hn⟩ := mm_okI_dec hI (fun _ _ _ _ q => by cases q)
  subst hn
  obtain ⟨hx, hb, hown, hts, hE, hXf⟩ := hF
  simp only [mm_stp] at hs
  split at hs
  · rename_i i a r
    rw [List.map_cons, List.map_cons]
    show W p l e R s m args below meth c H locs cells slots Q (F0 m pc ls (.int i :: mm_dn G (.ref a) :: List.map (mm_dn G) r))
    split at hs
    · rename_i n M ho
      have ho := mm_prim_eq ho
      split at hs
      · rename_i hin
        obtain ⟨h1, h2, h3⟩ := mm_in_ok hin
        rw [mm_fI_eq] at hs
        cases mi_go hs
        have hk := k rfl ls hl
        rw [List.map_cons] at hk
        by_cases ha : 64 ≤ a
        · rw [mm_rd_own ha] at ho
          rw [mm_dn_own ha]
          refine va_bald (D := G.2.2.1) (cl := mm_cl) (tys := mm_tys G) (ws := mm_ws G h) hx hb hE.1 hW.1 (a - 64) 2 (cA := G.2.2.2 2) (n := n) (f := fun j => Int32.ofNat (mm_ag 32 M j)) (mm_own_at ho) rfl h1 hd ?_
          rw [h2]
          exact hk
        · rw [mm_rd_ext ha] at ho
          obtain ⟨q, e1, hT⟩ := hE.2.2.2.1 a _ (hX.1 _ _ ho) ho
          rw [mm_dn_some e1]
          rcases hT with ⟨z, -⟩ | ⟨-, hT⟩
          · cases z
          · exact va_tb hx hb hT hS h1 (by rw [h2]; rfl) hd hk
      · cases hs
    · cases hs
  · cases hs
theorem mh_laload (hX : mm_Xok X) (hF : mm_Fx p s m args c cc own G X) (hI : mm_okI own mn N cc (pc, .laload, nx, ax) = true) (hW : mm_W G h H) (hS : va_S (mm_Ar G) s.heap H locs) (hl : mm_LH G ls L) (hs : mm_stp X h L st (pc, .laload, nx, ax) = some (.inl (pc', L', st', op)))
    (k : op = none → ∀ ls', mm_LH G ls' L' → W p l e R s m args below meth c H locs cells slots Q (F0 m pc' ls' (st'.map (mm_dn G)))) : W p l e R s m args below meth c H locs cells slots Q (F0 m pc ls (st.map (mm_dn G))) := by
  obtain ⟨hd, hn⟩ := mm_okI_dec hI (fun _ _ _ _ q => by cases q)
  subst hn
  obtain ⟨hx, hb, hown, hts, hE, hXf⟩ := hF
  simp only [mm_stp] at hs
  split at hs
  · rename_i i a r
    rw [List.map_cons, List.map_cons]
    show W p l e R s m args below meth c H locs cells slots Q (F0 m pc ls (.int i :: mm_dn G (.ref a) :: List.map (mm_dn G) r))
    split at hs
    · rename_i n M ho
      have ho := mm_prim_eq ho
      split at hs
      · rename_i hin
        rw [Bool.and_eq_true, Nat.ble_eq] at hin
        obtain ⟨hin, ha⟩ := hin
        obtain ⟨h1, h2, h3⟩ := mm_in_ok hin
        rw [mm_fL_eq] at hs
        cases mi_go hs
        have hk := k rfl ls hl
        rw [List.map_cons] at hk
        rw [mm_rd_own ha] at ho
        rw [mm_dn_own ha]
        refine va_lald (D := G.2.2.1) (cl := mm_cl) (tys := mm_tys G) (ws := mm_ws G h) hx hb hE.1 hW.1 (a - 64) 1 (cA := G.2.2.2 1) (n := n) (f := fun j => Int64.ofNat (mm_ag 64 M j)) (mm_own_at ho) rfl h1 hd ?_
        rw [h2]
        exact hk
      · cases hs
    · cases hs
  · cases hs
theorem mm_tys_at {t : Nat} (ht : t ≤ 4) : ∃ ty, (mm_tys G)[t]? = some (G.2.2.2 t, ty) := by
  rcases (show t = 0 ∨ t = 1 ∨ t = 2 ∨ t = 3 ∨ t = 4 by omega) with rfl | rfl | rfl | rfl | rfl <;> exact ⟨_, rfl⟩
theorem mm_tys_q {t : Nat} (ht : 3 ≤ t ∧ t ≤ 4) : ∃ C, (mm_tys G)[t]? = some (G.2.2.2 t, .object C) := by
  rcases (show t = 3 ∨ t = 4 by omega) with rfl | rfl <;> exact ⟨_, rfl⟩
theorem mh_aaload (hX : mm_Xok X) (hF : mm_Fx p s m args c cc own G X) (hI : mm_okI own mn N cc (pc, .aaload, nx, ax) = true) (hW : mm_W G h H) (hS : va_S (mm_Ar G) s.heap H locs) (hl : mm_LH G ls L) (hs : mm_stp X h L st (pc, .aaload, nx, ax) = some (.inl (pc', L', st', op)))
    (k : op = none → ∀ ls', mm_LH G ls' L' → W p l e R s m args below meth c H locs cells slots Q (F0 m pc' ls' (st'.map (mm_dn G)))) : W p l e R s m args below meth c H locs cells slots Q (F0 m pc ls (st.map (mm_dn G))) := by
  obtain ⟨hd, hn⟩ := mm_okI_dec hI (fun _ _ _ _ q => by cases q)
  subst hn
  obtain ⟨hx, hb, hown, hts, hE, hXf⟩ := hF
  simp only [mm_stp] at hs
  split at hs
  · rename_i i a r
    rw [List.map_cons, List.map_cons]
    show W p l e R s m args below meth c H locs cells slots Q (F0 m pc ls (.int i :: mm_dn G (.ref a) :: List.map (mm_dn G) r))
    split at hs
    · rename_i ha
      rw [Nat.ble_eq] at ha
      rw [mm_dn_own ha]
      split at hs
      · rename_i t rs ho
        rw [mm_rd_own ha] at ho
        split at hs
        · rename_i hin
          rw [Bool.and_eq_true, Bool.and_eq_true, Nat.ble_eq, Nat.ble_eq] at hin
          obtain ⟨hin, ht⟩ := hin
          obtain ⟨h1, h2, h3⟩ := mm_in_ok hin
          obtain ⟨C, hC⟩ := mm_tys_q (G := G) ht
          split at hs
          · rename_i q hq
            cases mi_go hs
            have hk := k rfl ls hl
            rw [List.map_cons] at hk
            refine va_aldq (D := G.2.2.1) (cl := mm_cl) (tys := mm_tys G) (ws := mm_ws G h) hx hb hE.1 hW.1 (a - 64) t (cA := G.2.2.2 t) (n := rs.length) (f := fun j => (rs.getD j none).bind (mm_ad G)) (mm_own_at ho) hC h1 hd ?_
            rw [h2, List.getD_eq_getElem?_getD, hq]
            exact hk
          · rename_i hq
            cases mi_go hs
            have hk := k rfl ls hl
            rw [List.map_cons] at hk
            refine va_aldq (D := G.2.2.1) (cl := mm_cl) (tys := mm_tys G) (ws := mm_ws G h) hx hb hE.1 hW.1 (a - 64) t (cA := G.2.2.2 t) (n := rs.length) (f := fun j => (rs.getD j none).bind (mm_ad G)) (mm_own_at ho) hC h1 hd ?_
            rw [h2, List.getD_eq_getElem?_getD, hq]
            exact hk
          · cases hs
        · cases hs
      · cases hs
    · cases hs
  · cases hs
theorem mh_alen (hX : mm_Xok X) (hF : mm_Fx p s m args c cc own G X) (hI : mm_okI own mn N cc (pc, .arraylength, nx, ax) = true) (hW : mm_W G h H) (hS : va_S (mm_Ar G) s.heap H locs) (hl : mm_LH G ls L) (hs : mm_stp X h L st (pc, .arraylength, nx, ax) = some (.inl (pc', L', st', op)))
    (k : op = none → ∀ ls', mm_LH G ls' L' → W p l e R s m args below meth c H locs cells slots Q (F0 m pc' ls' (st'.map (mm_dn G)))) : W p l e R s m args below meth c H locs cells slots Q (F0 m pc ls (st.map (mm_dn G))) := by
  obtain ⟨hd, hn⟩ := mm_okI_dec hI (fun _ _ _ _ q => by cases q)
  subst hn
  obtain ⟨hx, hb, hown, hts, hE, hXf⟩ := hF
  simp only [mm_stp] at hs
  split at hs
  · rename_i a r
    rw [List.map_cons]
    split at hs
    · rename_i ha
      rw [Nat.beq_eq] at ha
      subst ha
      cases mi_go hs
      obtain ⟨b, xs, c1, c2, c3, c4, c5⟩ := hE.2.2.2.2.1
      rw [mm_dn_some c1]
      exact va_slen hx hb c2 c3 c4 hS hd (k rfl ls hl)
    · split at hs
      · rename_i t n M ho
        split at hs
        · rename_i ht
          rw [Nat.ble_eq] at ht
          cases mi_go hs
          have hk := k rfl ls hl
          rw [List.map_cons] at hk
          by_cases ha : 64 ≤ a
          · rw [mm_rd_own ha] at ho
            rw [mm_dn_own ha]
            obtain ⟨ty, hty⟩ := mm_tys_at (G := G) ht
            exact va_alen (D := G.2.2.1) (cl := mm_cl) (tys := mm_tys G) (ws := mm_ws G h) hx hb hE.1 hW.1 (a - 64) t (mm_own_at ho) hty rfl hd hk
          · rw [mm_rd_ext ha] at ho
            obtain ⟨q, e1, hT⟩ := hE.2.2.2.1 a _ (hX.1 _ _ ho) ho
            rw [mm_dn_some e1]
            rcases hT with ⟨-, hT⟩ | ⟨-, hT⟩
            · exact va_tlen hx hb hT hS rfl hd hk
            · exact va_tlen hx hb hT hS rfl hd hk
        · cases hs
      · rename_i t rs ho
        split at hs
        · rename_i ht
          rw [Bool.and_eq_true, Nat.ble_eq, Nat.ble_eq] at ht
          cases mi_go hs
          have hk := k rfl ls hl
          rw [List.map_cons] at hk
          rw [mm_rd_own ht.2] at ho
          rw [mm_dn_own ht.2]
          obtain ⟨ty, hty⟩ := mm_tys_at (G := G) ht.1
          exact va_alen (D := G.2.2.1) (cl := mm_cl) (tys := mm_tys G) (ws := mm_ws G h) hx hb hE.1 hW.1 (a - 64) t (mm_own_at ho) hty rfl hd hk
        · cases hs
      · cases hs
  · cases hs
theorem mm_nn {X : mm_X} {a : Nat} (hE : mm_Ev G X s) (ha : ¬ a = 63) : ∃ q, mm_ad G a = some q := by
  by_cases h : a < 63
  · exact hE.2.2.2.2.2.2.2 a h
  · exact ⟨_, by unfold mm_ad; rw [if_neg (by omega)]⟩
theorem mh_ifnull (hX : mm_Xok X) (hF : mm_Fx p s m args c cc own G X) {off : Int} (hI : mm_okI own mn N cc (pc, .ifnull off, nx, ax) = true) (hW : mm_W G h H) (hS : va_S (mm_Ar G) s.heap H locs) (hl : mm_LH G ls L) (hs : mm_stp X h L st (pc, .ifnull off, nx, ax) = some (.inl (pc', L', st', op)))
    (k : op = none → ∀ ls', mm_LH G ls' L' → W p l e R s m args below meth c H locs cells slots Q (F0 m pc' ls' (st'.map (mm_dn G)))) : W p l e R s m args below meth c H locs cells slots Q (F0 m pc ls (st.map (mm_dn G))) := by
  obtain ⟨hd, hn⟩ := mm_okI_dec hI (fun _ _ _ _ q => by cases q)
  subst hn
  have hr := mm_okI_rest hI
  obtain ⟨hx, hb, hown, hts, hE, hXf⟩ := hF
  simp only [mm_stp] at hs
  split at hs
  · obtain ⟨t, rfl, hq⟩ := mi_br hs
    rcases hq with ⟨-, hq⟩ | ⟨z, -⟩
    · cases hq
      exact lv_ifnullN hx hb hd (of_decide_eq_true hr) (k rfl ls hl)
    · cases z
  · rename_i a r
    split at hs
    · cases hs
    · rename_i ha
      rw [← Bool.not_eq_true, Nat.beq_eq] at ha
      obtain ⟨q, e1⟩ := mm_nn hE ha
      obtain ⟨t, rfl, hq⟩ := mi_br hs
      rcases hq with ⟨z, -⟩ | ⟨-, hq⟩
      · cases z
      · cases hq
        rw [List.map_cons, mm_dn_some e1]
        exact lv_ifnull hx hb hd (k rfl ls hl)
  · cases hs
theorem mh_ifnonnull (hX : mm_Xok X) (hF : mm_Fx p s m args c cc own G X) {off : Int} (hI : mm_okI own mn N cc (pc, .ifnonnull off, nx, ax) = true) (hW : mm_W G h H) (hS : va_S (mm_Ar G) s.heap H locs) (hl : mm_LH G ls L) (hs : mm_stp X h L st (pc, .ifnonnull off, nx, ax) = some (.inl (pc', L', st', op)))
    (k : op = none → ∀ ls', mm_LH G ls' L' → W p l e R s m args below meth c H locs cells slots Q (F0 m pc' ls' (st'.map (mm_dn G)))) : W p l e R s m args below meth c H locs cells slots Q (F0 m pc ls (st.map (mm_dn G))) := by
  obtain ⟨hd, hn⟩ := mm_okI_dec hI (fun _ _ _ _ q => by cases q)
  subst hn
  have hr := mm_okI_rest hI
  obtain ⟨hx, hb, hown, hts, hE, hXf⟩ := hF
  simp only [mm_stp] at hs
  split at hs
  · obtain ⟨t, rfl, hq⟩ := mi_br hs
    rcases hq with ⟨z, -⟩ | ⟨-, hq⟩
    · cases z
    · cases hq
      exact lv_ifnonnullN hx hb hd (k rfl ls hl)
  · rename_i a r
    split at hs
    · cases hs
    · rename_i ha
      rw [← Bool.not_eq_true, Nat.beq_eq] at ha
      obtain ⟨q, e1⟩ := mm_nn hE ha
      obtain ⟨t, rfl, hq⟩ := mi_br hs
      rcases hq with ⟨-, hq⟩ | ⟨z, -⟩
      · cases hq
        rw [List.map_cons, mm_dn_some e1]
        exact lv_ifnonnull hx hb hd (of_decide_eq_true hr) (k rfl ls hl)
      · cases z
  · cases hs
theorem mh_tsw (hX : mm_Xok X) (hF : mm_Fx p s m args c cc own G X) {df lo hi : Int} {offs : Array Int} (hI : mm_okI own mn N cc (pc, .tableswitch df lo hi offs, nx, ax) = true) (hW : mm_W G h H) (hS : va_S (mm_Ar G) s.heap H locs) (hl : mm_LH G ls L) (hs : mm_stp X h L st (pc, .tableswitch df lo hi offs, nx, ax) = some (.inl (pc', L', st', op)))
    (k : op = none → ∀ ls', mm_LH G ls' L' → W p l e R s m args below meth c H locs cells slots Q (F0 m pc' ls' (st'.map (mm_dn G)))) : W p l e R s m args below meth c H locs cells slots Q (F0 m pc ls (st.map (mm_dn G))) := by
  have hd := mm_okI_sw hI
  have hr := mm_okI_rest hI
  obtain ⟨hx, hb, hown, hts, hE, hXf⟩ := hF
  simp only [mm_stp] at hs
  split at hs
  · rename_i x r d ts
    split at hs
    · rename_i l0
      simp only [mm_rest, Bool.and_eq_true, decide_eq_true_eq] at hr
      obtain ⟨r1, r2, r3, r4⟩ := hr
      rw [List.map_cons]
      show W p l e R s m args below meth c H locs cells slots Q (F0 m pc ls (.int x :: List.map (mm_dn G) r))
      split at hs
      · rename_i hc
        simp only [Bool.and_eq_true, Nat.ble_eq] at hc
        obtain ⟨c1, c2, c3⟩ := hc
        obtain ⟨n1, n2, n3⟩ := mm_nonneg (x := x) (by omega)
        split at hs
        · rename_i t ht
          cases mi_go hs
          have hlt : mm_un x - l0 < offs.size := by omega
          have hz : (List.zip ts offs.toList)[mm_un x - l0]? = some (pc', offs[mm_un x - l0]) := by
            rw [List.getElem?_zip_eq_some]
            exact ⟨ht, by rw [Array.getElem?_toList, Array.getElem?_eq_getElem hlt]⟩
          have h4 := List.all_eq_true.mp r4 _ (List.mem_of_getElem? hz)
          have e0 : (Int.ofNat l0 : Int) = (l0 : Int) := rfl
          rw [e0] at r2
          refine lv_tableIn (off := offs[mm_un x - l0]) hx hb hd (by rw [n3, e0]; omega) (by rw [n3, r2]; omega) ?_ (of_decide_eq_true h4) (k rfl ls hl)
          rw [n3, e0, show ((mm_un x : Int) - (l0 : Int)).toNat = mm_un x - l0 by omega, Array.getElem?_eq_getElem hlt]
        · cases hs
      · rename_i hc
        cases mi_go hs
        refine lv_tableOut hx hb hd ?_ r1 (k rfl ls hl)
        have e0 : (Int.ofNat l0 : Int) = (l0 : Int) := rfl
        rw [e0] at r2 ⊢
        rw [r2]
        have h1 := mm_toInt x
        rw [← Bool.not_eq_true] at hc
        simp only [Bool.and_eq_true, Nat.ble_eq] at hc
        by_cases c1 : mm_un x < 2147483648
        · rw [if_pos c1] at h1
          rw [h1]
          by_cases c2 : l0 ≤ mm_un x
          · refine Or.inr ?_
            have : ¬ (mm_un x - l0 + 1 ≤ ts.length) := fun q => hc ⟨by omega, c2, q⟩
            omega
          · exact Or.inl (by omega)
        · rw [if_neg c1] at h1
          have := mm_un_lt x
          exact Or.inl (by omega)
    · cases hs
  · cases hs
end MH
