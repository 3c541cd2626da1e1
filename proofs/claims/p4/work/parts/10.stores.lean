/-! ===== one instruction: stores, new cells, natives ===== -/
/-- words of the natives and of arrays' classes, that any method may use -/
def mm_Sys : Prop := Jvm.Cond.native arraycopyName ∈ mt_g ∧ Jvm.Cond.static arraycopyName ∈ mt_g ∧ Jvm.Cond.initialized "java/lang/System" ∈ mt_g ∧ Jvm.Cond.instanceMethod Lib.objectInit ∈ mt_g ∧ Jvm.Cond.code Lib.objectInit ⟨#[0xb1]⟩ 1 none ∈ mt_g ∧
  (Jvm.Cond.arrayClass .int ∈ mt_g ∧ Jvm.Cond.arrayClass .long ∈ mt_g ∧ Jvm.Cond.arrayClass .byte ∈ mt_g) ∧ (∃ i : Nat, mt_tbl[i]? = some (Jvm.Cond.arrayOver (.object "WhoKnows$State"))) ∧ (∃ i : Nat, mt_tbl[i]? = some (Jvm.Cond.arrayOver (.object "WhoKnows$Order"))) ∧
  Jvm.Cond.initialized "java/lang/Math" ∈ mt_g ∧ (Jvm.Cond.static Lib.Math.max.name ∈ mt_g ∧ Jvm.Cond.code Lib.Math.max.name Lib.Math.max.code 2 (some .int) ∈ mt_g) ∧ Jvm.Cond.static Lib.Math.min.name ∈ mt_g ∧ Jvm.Cond.code Lib.Math.min.name Lib.Math.min.code 2 (some .int) ∈ mt_g
theorem mm_fit_ok {G : mm_G} {ty : FieldType} {v : Value} (h : mm_fit ty v = true) : narrow ty (mm_dn G v) = mm_dn G v ∧ fits ty (mm_dn G v) = true := by
  unfold mm_fit at h
  split at h
  · exact ⟨rfl, rfl⟩
  · rename_i x
    rw [Nat.ble_eq] at h
    have h1 : x = 0 ∨ x = 1 := by
      rcases (show mm_un x = 0 ∨ mm_un x = 1 by omega) with q | q
      · exact Or.inl ((mm_eq_iff x 0).mp (by unfold mm_eq; rw [Nat.beq_eq, q]; rfl))
      · exact Or.inr ((mm_eq_iff x 1).mp (by unfold mm_eq; rw [Nat.beq_eq, q]; rfl))
    rcases h1 with rfl | rfl <;> exact ⟨rfl, rfl⟩
  · rename_i x
    rw [mm_eq_iff] at h
    show narrow .byte (.int x) = .int x ∧ fits .byte (.int x) = true
    rw [← h]
    exact ⟨pk_nb x, pk_fb x⟩
  · rename_i a
    show narrow _ (va_rf (mm_ad G a)) = va_rf (mm_ad G a) ∧ _
    show _ ∧ fits _ (va_rf (mm_ad G a)) = true
    cases mm_ad G a <;> exact ⟨rfl, rfl⟩
  · exact ⟨rfl, rfl⟩
  · rename_i a
    show narrow _ (va_rf (mm_ad G a)) = va_rf (mm_ad G a) ∧ _
    show _ ∧ fits _ (va_rf (mm_ad G a)) = true
    cases mm_ad G a <;> exact ⟨rfl, rfl⟩
  · exact ⟨rfl, rfl⟩
  · cases h
theorem mm_ofNat_un (x : Int32) : Int32.ofNat (mm_un x % 2 ^ 32) = x := by
  apply Int32.toBitVec_inj.mp
  show BitVec.ofNat 32 (x.toBitVec.toNat % 2 ^ 32) = x.toBitVec
  exact BitVec.eq_of_toNat_eq (by simp; exact x.toBitVec.isLt)
theorem mm_ofNat_ul (x : Int64) : Int64.ofNat (x.toUInt64.toNat % 2 ^ 64) = x := by
  apply Int64.toBitVec_inj.mp
  show BitVec.ofNat 64 (x.toBitVec.toNat % 2 ^ 64) = x.toBitVec
  exact BitVec.eq_of_toNat_eq (by simp; exact x.toBitVec.isLt)
theorem mm_fn_i (t N i : Nat) (x : Int32) (ht : t ≠ 1) : mm_fn t (mm_as 32 N i (mm_un x)) = .inl (upd (fun j => Int32.ofNat (mm_ag 32 N j)) i x) := by
  have h1 : ∀ M, mm_fn t M = .inl (fun j => Int32.ofNat (mm_ag 32 M j)) := fun M => by
    unfold mm_fn
    split
    · exact absurd rfl ht
    · rfl
  rw [h1]
  congr 1
  funext j
  rw [mm_ag_as _ _ _ _ _ (by decide)]
  unfold upd
  by_cases e : j = i
  · rw [if_pos e, if_pos e, mm_ofNat_un]
  · rw [if_neg e, if_neg e]
theorem mm_fn_l (N i : Nat) (x : Int64) : mm_fn 1 (mm_as 64 N i x.toUInt64.toNat) = .inr (.inl (vp_updL (fun j => Int64.ofNat (mm_ag 64 N j)) i x)) := by
  show Sum.inr (Sum.inl _) = _
  congr 2
  funext j
  rw [mm_ag_as _ _ _ _ _ (by decide)]
  unfold vp_updL
  by_cases e : j = i
  · rw [if_pos e, if_pos e, mm_ofNat_ul]
  · rw [if_neg e, if_neg e]
theorem mm_rest8 (st : List Value) (hr : st.length ≤ 4) : (st.map fun v => v.category).sum ≤ 8 := by
  have h : ∀ l : List Value, (l.map fun v => v.category).sum ≤ 2 * l.length := by
    intro l
    induction l with
    | nil => exact Nat.le_refl _
    | cons v r ih =>
      rw [List.map_cons, List.sum_cons, List.length_cons]
      have := lv_cat v
      omega
  have := h st
  omega
theorem mm_map_cat (G : mm_G) (r : List Value) : (r.map (mm_dn G)).map (fun v => v.category) = r.map fun v => v.category := by
  rw [List.map_map]
  congr 1
  funext v
  exact mm_cat G v
section MS
variable {p : Program} {l : Launch} {e : Env} {R : Room} {s : State} {m : MethodId} {args : Array Value} {below : List Frame} {meth : Method} {c : Code} {H : Heap} {locs : List Loc} {cells slots : Nat} {Q : State → Prop}
variable {cc : ByteArray} {pc : Nat} {ls : Array Slot} {G : mm_G} {X : mm_X} {h : mm_H} {L L' : mm_L} {st st' : List Value} {nx pc' : Nat} {ax : List Nat} {op : Option ((Nat × mm_C) ⊕ mm_C)} {own mn : String} {N : Nat → Option mm_N}
theorem mi_wr {a : Nat} {c0 : mm_C} {q : mm_A} (h : mm_wr nx L st a c0 = some q) : 64 ≤ a ∧ q = .inl (nx, L, st, some (.inl (a - 64, c0))) := by
  unfold mm_wr at h
  split at h
  · rename_i hb
    exact ⟨Nat.ble_eq.mp hb, (Option.some.inj h).symm⟩
  · cases h
theorem ms_fin {k : Nat} {c0 : mm_C} {H1 : Heap} {locs1 : List Loc} {g : JFrame} (hG : G.1 ≤ s.heap.size) (hZ : s.heap.size + cells = G.1 + h.length) (hP : va_P G.2.2.1 mm_cl ((mm_ws G h).set k (G.1 + k, mm_dE G c0)) H1) (hS : va_S (mm_Ar G) s.heap H1 locs1)
    (kk : mm_W G (h.set k c0) H1 → W p l e R s m args below meth c H1 locs1 cells slots Q g) : W p l e R s m args below meth c H1 locs1 cells slots Q g := by
  refine mm_bound fun hb => kk (mm_Wof (by rw [mm_ws_set]; exact hP) (by rw [List.length_set]; omega) (Nat.le_trans hG hS.1))
theorem mh_putfield (hC : mm_Cok) (hF : mm_Fx p s m args c cc own G X) (hmn : meth.name = mn) {x : Nat} (hI : mm_okI own mn N cc (pc, .putfield x, nx, ax) = true) (hG : G.1 ≤ s.heap.size) (hZ : s.heap.size + cells = G.1 + h.length) (hW : mm_W G h H) (hS : va_S (mm_Ar G) s.heap H locs) (hl : mm_LH G ls L) (hs : mm_stp X h L st (pc, .putfield x, nx, ax) = some (.inl (pc', L', st', op)))
    (k : ∀ i c', op = some (.inl (i, c')) → L' = L → ∀ H' locs', mm_W G (h.set i c') H' → va_S (mm_Ar G) s.heap H' locs' → W p l e R s m args below meth c H' locs' cells slots Q (F0 m pc' ls (st'.map (mm_dn G)))) : W p l e R s m args below meth c H locs cells slots Q (F0 m pc ls (st.map (mm_dn G))) := by
  obtain ⟨hd, hn⟩ := mm_okI_dec hI (fun _ _ _ _ q => by cases q)
  subst hn
  have hr := mm_okI_rest hI
  simp only [mm_stp] at hs
  split at hs
  · rename_i v a r nest ci kf ax0
    split at hs
    · rename_i fs ho
      split at hs
      · rename_i v0 hv0
        split at hs
        · rename_i ty hty
          split at hs
          · rename_i hft
            obtain ⟨ha, hq⟩ := mi_wr hs
            cases hq
            obtain ⟨q, f, hq, hf, hlk⟩ := mm_fieldlink hF (Or.inr rfl) hI
            have hfl : kf < q.2.length := (List.getElem?_eq_some_iff.mp hf).1
            have hT := mm_T_get hf
            have ho := mm_obj_eq ho
            rw [mm_rd_own ha] at ho
            obtain ⟨n1, n2⟩ := mm_fit_ok (G := G) hft
            obtain ⟨hx, hb, hown, hts, hE, hXf⟩ := hF
            rw [hXf] at hty
            obtain ⟨k1, k2, k3, k4⟩ := hC ci q hq
            rw [List.map_cons, List.map_cons, mm_dn_own ha]
            have he := mm_own_at (G := G) ho
            simp only [mm_rest, hq, hf] at hr
            have hty0 : ∀ k, k < q.2.length → parseFieldDescriptor (mm_T q.2 k).2.2.1 = some ((mm_fty ci).getD k .int) := fun k hk => by
              refine k4 k _ ?_
              rw [List.getD_eq_getElem?_getD, List.getElem?_eq_getElem (by omega)]
              rfl
            have hlen : kf < (fs.map (mm_dn G)).length := by rw [List.length_map]; exact (List.getElem?_eq_some_iff.mp hv0).1
            have kk : ∀ (H1 : Heap) (locs1 : List Loc), va_P G.2.2.1 mm_cl ((mm_ws G h).set (a - 64) (G.1 + (a - 64), .inr (ci, (fs.map (mm_dn G)).set kf (mm_dn G v)))) H1 → va_D (mm_Ar G) ((mm_ws G h).set (a - 64) (G.1 + (a - 64), .inr (ci, (fs.map (mm_dn G)).set kf (mm_dn G v)))) → va_S (mm_Ar G) s.heap H1 locs1 → W p l e R s m args below meth c H1 locs1 cells slots Q (F0 m (pc + 3) ls (st'.map (mm_dn G))) := by
              intro H1 locs1 hP1 _ hS1
              refine ms_fin (k := a - 64) (c0 := .inr (.inr (ci, fs.set kf v))) hG hZ (by show va_P _ _ ((mm_ws G h).set (a - 64) (G.1 + (a - 64), .inr (ci, (fs.set kf v).map (mm_dn G)))) H1; rw [List.map_set]; exact hP1) hS1 (fun hW1 => k _ _ rfl rfl H1 locs1 hW1 hS1)
            cases hfin : f.2.2.2 with
              | true =>
                rw [hfin] at hr
                simp only [Bool.not_true, Bool.false_or, Bool.and_eq_true, decide_eq_true_eq] at hr
                obtain ⟨r1, r2, r3⟩ := hr
                rcases hlk with ⟨-, hlk⟩ | ⟨hn0, hx0, hlk⟩
                · exact va_putF (D := G.2.2.1) (cl := mm_cl) (tys := mm_tys G) (ws := mm_ws G h) (ci := ci) (C := q.1) (T := mm_T q.2) (N := q.2.length) (ref := f.1) hx hb hts k1 _ hty0 k2 hown hE.1 hW.1 (mm_D G h) hS (a - 64) he (mm_cl_get hq) kf hfl (by rw [hT]; exact hlk) (by rw [hT]; exact fun _ z => z) (by rw [hT]; exact hfin) (hmn.trans r1) (by rw [hT]; exact r2) (k4 _ _ hty) n1 n2 hlen hd kk
                · exact absurd r3 hn0
              | false =>
                rcases hlk with ⟨-, hlk⟩ | ⟨hn0, hx0, hlk⟩
                · exact va_put (D := G.2.2.1) (cl := mm_cl) (tys := mm_tys G) (ws := mm_ws G h) (ci := ci) (C := q.1) (T := mm_T q.2) (N := q.2.length) (ref := f.1) hx hb hts k1 _ hty0 k2 hown hE.1 hW.1 (mm_D G h) hS (a - 64) he (mm_cl_get hq) kf hfl (by rw [hT]; exact hlk) (by rw [hT]; exact fun _ z => z) (by rw [hT]; exact hfin) (k4 _ _ hty) n1 n2 hlen hd kk
                · exact va_putN (D := G.2.2.1) (cl := mm_cl) (tys := mm_tys G) (ws := mm_ws G h) (ci := ci) (C := q.1) (T := mm_T q.2) (N := q.2.length) (ref := f.1) (host := hx0) hx hb hts k1 _ hty0 k2 hown hE.1 hW.1 (mm_D G h) hS (a - 64) he (mm_cl_get hq) kf hfl (by rw [hT]; exact hlk) (by rw [hT]; exact fun _ z => z) (by rw [hT]; exact hfin) (k4 _ _ hty) n1 n2 hlen hd kk
          · cases hs
        · cases hs
      · cases hs
    · cases hs
  · cases hs
theorem mh_iastore (hF : mm_Fx p s m args c cc own G X) (hI : mm_okI own mn N cc (pc, .iastore, nx, ax) = true) (hG : G.1 ≤ s.heap.size) (hZ : s.heap.size + cells = G.1 + h.length) (hW : mm_W G h H) (hS : va_S (mm_Ar G) s.heap H locs) (hl : mm_LH G ls L) (hs : mm_stp X h L st (pc, .iastore, nx, ax) = some (.inl (pc', L', st', op)))
    (k : ∀ i c', op = some (.inl (i, c')) → L' = L → ∀ H' locs', mm_W G (h.set i c') H' → va_S (mm_Ar G) s.heap H' locs' → W p l e R s m args below meth c H' locs' cells slots Q (F0 m pc' ls (st'.map (mm_dn G)))) : W p l e R s m args below meth c H locs cells slots Q (F0 m pc ls (st.map (mm_dn G))) := by
  obtain ⟨hd, hn⟩ := mm_okI_dec hI (fun _ _ _ _ q => by cases q)
  subst hn
  obtain ⟨hx, hb, hown, hts, hE, hXf⟩ := hF
  simp only [mm_stp] at hs
  split at hs
  · rename_i x i a r
    rw [List.map_cons, List.map_cons, List.map_cons]
    show W p l e R s m args below meth c H locs cells slots Q (F0 m pc ls (.int x :: .int i :: mm_dn G (.ref a) :: List.map (mm_dn G) r))
    split at hs
    · rename_i n M ho
      have ho := mm_prim_eq ho
      split at hs
      · rename_i hin
        obtain ⟨h1, h2, h3⟩ := mm_in_ok hin
        rw [mm_fN_eq] at hs
        obtain ⟨ha, hq⟩ := mi_wr hs
        cases hq
        rw [mm_rd_own ha] at ho
        rw [mm_dn_own ha]
        refine va_iast (D := G.2.2.1) (cl := mm_cl) (tys := mm_tys G) (ws := mm_ws G h) hx hb hE.1 hW.1 (mm_D G h) hS (a - 64) 0 (cA := G.2.2.2 0) (n := n) (f := (fun j => Int32.ofNat (mm_ag 32 M j))) (mm_own_at ho) rfl h1 hd (fun H1 locs1 hP1 _ hS1 => ?_)
        refine ms_fin (k := a - 64) (c0 := .inl (0, n, _)) hG hZ (by show va_P _ _ ((mm_ws G h).set (a - 64) (G.1 + (a - 64), .inl (G.2.2.2 0, (n, mm_fn 0 _)))) H1; rw [mm_fn_i 0 _ _ _ (by decide), ← h2]; exact hP1) hS1 (fun hW1 => k _ _ rfl rfl H1 locs1 hW1 hS1)
      · cases hs
    · cases hs
  · cases hs
theorem mh_bastore (hF : mm_Fx p s m args c cc own G X) (hI : mm_okI own mn N cc (pc, .bastore, nx, ax) = true) (hG : G.1 ≤ s.heap.size) (hZ : s.heap.size + cells = G.1 + h.length) (hW : mm_W G h H) (hS : va_S (mm_Ar G) s.heap H locs) (hl : mm_LH G ls L) (hs : mm_stp X h L st (pc, .bastore, nx, ax) = some (.inl (pc', L', st', op)))
    (k : ∀ i c', op = some (.inl (i, c')) → L' = L → ∀ H' locs', mm_W G (h.set i c') H' → va_S (mm_Ar G) s.heap H' locs' → W p l e R s m args below meth c H' locs' cells slots Q (F0 m pc' ls (st'.map (mm_dn G)))) : W p l e R s m args below meth c H locs cells slots Q (F0 m pc ls (st.map (mm_dn G))) := by
  obtain ⟨hd, hn⟩ := mm_okI_dec hI (fun _ _ _ _ q => by cases q)
  subst hn
  obtain ⟨hx, hb, hown, hts, hE, hXf⟩ := hF
  simp only [mm_stp] at hs
  split at hs
  · rename_i x i a r
    rw [List.map_cons, List.map_cons, List.map_cons]
    show W p l e R s m args below meth c H locs cells slots Q (F0 m pc ls (.int x :: .int i :: mm_dn G (.ref a) :: List.map (mm_dn G) r))
    split at hs
    · rename_i n M ho
      have ho := mm_prim_eq ho
      split at hs
      · rename_i hin
        obtain ⟨h1, h2, h3⟩ := mm_in_ok hin
        rw [mm_fN_eq] at hs
        obtain ⟨ha, hq⟩ := mi_wr hs
        cases hq
        rw [mm_rd_own ha] at ho
        rw [mm_dn_own ha]
        refine va_bast (D := G.2.2.1) (cl := mm_cl) (tys := mm_tys G) (ws := mm_ws G h) hx hb hE.1 hW.1 (mm_D G h) hS (a - 64) 2 (cA := G.2.2.2 2) (n := n) (f := (fun j => Int32.ofNat (mm_ag 32 M j))) (mm_own_at ho) rfl h1 hd (fun H1 locs1 hP1 _ hS1 => ?_)
        refine ms_fin (k := a - 64) (c0 := .inl (2, n, _)) hG hZ (by show va_P _ _ ((mm_ws G h).set (a - 64) (G.1 + (a - 64), .inl (G.2.2.2 2, (n, mm_fn 2 _)))) H1; rw [mm_fn_i 2 _ _ _ (by decide), ← h2]; rw [vp_nar_byte] at hP1; exact hP1) hS1 (fun hW1 => k _ _ rfl rfl H1 locs1 hW1 hS1)
      · cases hs
    · cases hs
  · cases hs
theorem mh_lastore (hF : mm_Fx p s m args c cc own G X) (hI : mm_okI own mn N cc (pc, .lastore, nx, ax) = true) (hG : G.1 ≤ s.heap.size) (hZ : s.heap.size + cells = G.1 + h.length) (hW : mm_W G h H) (hS : va_S (mm_Ar G) s.heap H locs) (hl : mm_LH G ls L) (hs : mm_stp X h L st (pc, .lastore, nx, ax) = some (.inl (pc', L', st', op)))
    (k : ∀ i c', op = some (.inl (i, c')) → L' = L → ∀ H' locs', mm_W G (h.set i c') H' → va_S (mm_Ar G) s.heap H' locs' → W p l e R s m args below meth c H' locs' cells slots Q (F0 m pc' ls (st'.map (mm_dn G)))) : W p l e R s m args below meth c H locs cells slots Q (F0 m pc ls (st.map (mm_dn G))) := by
  obtain ⟨hd, hn⟩ := mm_okI_dec hI (fun _ _ _ _ q => by cases q)
  subst hn
  obtain ⟨hx, hb, hown, hts, hE, hXf⟩ := hF
  simp only [mm_stp] at hs
  split at hs
  · rename_i x i a r
    rw [List.map_cons, List.map_cons, List.map_cons]
    show W p l e R s m args below meth c H locs cells slots Q (F0 m pc ls (.long x :: .int i :: mm_dn G (.ref a) :: List.map (mm_dn G) r))
    split at hs
    · rename_i n M ho
      have ho := mm_prim_eq ho
      split at hs
      · rename_i hin
        obtain ⟨h1, h2, h3⟩ := mm_in_ok hin
        rw [mm_fN_eq] at hs
        obtain ⟨ha, hq⟩ := mi_wr hs
        cases hq
        rw [mm_rd_own ha] at ho
        rw [mm_dn_own ha]
        refine va_last (D := G.2.2.1) (cl := mm_cl) (tys := mm_tys G) (ws := mm_ws G h) hx hb hE.1 hW.1 (mm_D G h) hS (a - 64) 1 (cA := G.2.2.2 1) (n := n) (f := (fun j => Int64.ofNat (mm_ag 64 M j))) (mm_own_at ho) rfl h1 hd (fun H1 locs1 hP1 _ hS1 => ?_)
        refine ms_fin (k := a - 64) (c0 := .inl (1, n, _)) hG hZ (by show va_P _ _ ((mm_ws G h).set (a - 64) (G.1 + (a - 64), .inl (G.2.2.2 1, (n, mm_fn 1 _)))) H1; rw [mm_fn_l _ _ _, ← h2]; exact hP1) hS1 (fun hW1 => k _ _ rfl rfl H1 locs1 hW1 hS1)
      · cases hs
    · cases hs
  · cases hs
theorem mm_recv_own {v ci : Nat} (hv : 64 ≤ v) (h1 : mm_recv X h (some (.ref v)) ci = true) : ∃ fs, h[v - 64]? = some (.inr (.inr (ci, fs))) := by
  unfold mm_recv at h1
  dsimp only at h1
  split at h1
  · rename_i fs ho
    have ho := mm_obj_eq ho
    rw [mm_rd_own hv] at ho
    exact ⟨fs, ho⟩
  · cases h1
theorem mh_aastore (hF : mm_Fx p s m args c cc own G X) (hI : mm_okI own mn N cc (pc, .aastore, nx, ax) = true) (hG : G.1 ≤ s.heap.size) (hZ : s.heap.size + cells = G.1 + h.length) (hW : mm_W G h H) (hS : va_S (mm_Ar G) s.heap H locs) (hl : mm_LH G ls L) (hs : mm_stp X h L st (pc, .aastore, nx, ax) = some (.inl (pc', L', st', op)))
    (k : ∀ i c', op = some (.inl (i, c')) → L' = L → ∀ H' locs', mm_W G (h.set i c') H' → va_S (mm_Ar G) s.heap H' locs' → W p l e R s m args below meth c H' locs' cells slots Q (F0 m pc' ls (st'.map (mm_dn G)))) : W p l e R s m args below meth c H locs cells slots Q (F0 m pc ls (st.map (mm_dn G))) := by
  obtain ⟨hd, hn⟩ := mm_okI_dec hI (fun _ _ _ _ q => by cases q)
  subst hn
  obtain ⟨hx, hb, hown, hts, hE, hXf⟩ := hF
  simp only [mm_stp] at hs
  split at hs
  · rename_i v i a r
    rw [List.map_cons, List.map_cons, List.map_cons]
    show W p l e R s m args below meth c H locs cells slots Q (F0 m pc ls (mm_dn G (.ref v) :: .int i :: mm_dn G (.ref a) :: List.map (mm_dn G) r))
    split at hs
    · rename_i t rs ho
      split at hs
      · rename_i hin
        simp only [Bool.and_eq_true, Bool.or_eq_true, Nat.ble_eq, Nat.beq_eq] at hin
        obtain ⟨hin, ha, hv, hk⟩ := hin
        obtain ⟨h1, h2, h3⟩ := mm_in_ok hin
        obtain ⟨-, hq⟩ := mi_wr hs
        cases hq
        rw [mm_rd_own ha] at ho
        rw [mm_dn_own ha, mm_dn_own hv]
        have hfun : (fun j => ((rs.set (mm_un i) (some v)).getD j none).bind (mm_ad G)) = va_up (fun j => (rs.getD j none).bind (mm_ad G)) (mm_un i) (some (G.1 + (v - 64))) := by
          funext j
          unfold va_up
          rw [List.getD_eq_getElem?_getD, List.getElem?_set]
          by_cases e : j = mm_un i
          · rw [if_pos e, if_pos e.symm, if_pos h3]
            show mm_ad G v = _
            unfold mm_ad
            rw [if_neg (by omega)]
          · rw [if_neg e, if_neg (fun z => e z.symm)]
            show _ = (rs.getD j none).bind (mm_ad G)
            rw [List.getD_eq_getElem?_getD]
        have fin : ∀ (H1 : Heap) (locs1 : List Loc), va_P G.2.2.1 mm_cl ((mm_ws G h).set (a - 64) (G.1 + (a - 64), .inl (G.2.2.2 t, rs.length, .inr (.inr (.inr (.inr (va_up (fun j => (rs.getD j none).bind (mm_ad G)) i.toNatClampNeg (some (G.1 + (v - 64)))))))))) H1 → va_S (mm_Ar G) s.heap H1 locs1 → W p l e R s m args below meth c H1 locs1 cells slots Q (F0 m (pc + 1) ls (List.map (mm_dn G) st')) := by
          intro H1 locs1 hP1 hS1
          refine ms_fin (k := a - 64) (c0 := .inr (.inl (t, rs.set (mm_un i) (some v)))) hG hZ (by show va_P _ _ ((mm_ws G h).set (a - 64) (G.1 + (a - 64), .inl (G.2.2.2 t, ((rs.set (mm_un i) (some v)).length, .inr (.inr (.inr (.inr (fun j => ((rs.set (mm_un i) (some v)).getD j none).bind (mm_ad G))))))))) H1; rw [hfun, List.length_set, ← h2]; exact hP1) hS1 (fun hW1 => k _ _ rfl rfl H1 locs1 hW1 hS1)
        rcases hk with ⟨ht, hk⟩ | ⟨ht, hk⟩
        · obtain ⟨fs, hf⟩ := mm_recv_own hv hk
          subst ht
          obtain ⟨qc, e1, e2⟩ : ∃ qc, mm_cls[12]? = some qc ∧ qc.1 = "WhoKnows$State" := ⟨_, rfl, rfl⟩
          have hcl := mm_cl_get e1
          rw [e2] at hcl
          exact va_astq (D := G.2.2.1) (cl := mm_cl) (tys := mm_tys G) (ws := mm_ws G h) (r := ("WhoKnows$State", mm_T qc.2, qc.2.length)) hx hb hE.1 hW.1 (mm_D G h) hS (a - 64) 3 (v - 64) 12 (mm_own_at ho) rfl (mm_own_at hf) hcl h1 hd (fun H1 locs1 hP1 _ hS1 => fin H1 locs1 hP1 hS1)
        · obtain ⟨fs, hf⟩ := mm_recv_own hv hk
          subst ht
          obtain ⟨qc, e1, e2⟩ : ∃ qc, mm_cls[8]? = some qc ∧ qc.1 = "WhoKnows$Order" := ⟨_, rfl, rfl⟩
          have hcl := mm_cl_get e1
          rw [e2] at hcl
          exact va_astq (D := G.2.2.1) (cl := mm_cl) (tys := mm_tys G) (ws := mm_ws G h) (r := ("WhoKnows$Order", mm_T qc.2, qc.2.length)) hx hb hE.1 hW.1 (mm_D G h) hS (a - 64) 4 (v - 64) 8 (mm_own_at ho) rfl (mm_own_at hf) hcl h1 hd (fun H1 locs1 hP1 _ hS1 => fin H1 locs1 hP1 hS1)
      · cases hs
    · cases hs
  · cases hs
theorem ms_new {q : Nat} {c0 : mm_C} {ev : va_E} {H1 : Heap} {g : Nat → JFrame} {sl : Nat} (hG : G.1 ≤ s.heap.size) (hZ : s.heap.size + cells = G.1 + h.length) (he : mm_dE G c0 = ev) (hP : va_P G.2.2.1 mm_cl (mm_ws G h ++ [(q, ev)]) H1) (hD : va_D (mm_Ar G) (mm_ws G h ++ [(q, ev)])) (hS : va_S (mm_Ar G) s.heap H1 locs)
    (kk : mm_W G (h ++ [c0]) H1 → W p l e R s m args below meth c H1 locs (cells + 1) sl Q (g (G.1 + h.length))) : W p l e R s m args below meth c H1 locs (cells + 1) sl Q (g q) := by
  refine mm_bound fun hb => ?_
  have hlen : (mm_ws G h).length = h.length := by simp [mm_ws]
  have hlast : (mm_ws G h ++ [(q, ev)])[h.length]? = some (q, ev) := by rw [List.getElem?_append_right (by omega), hlen, Nat.sub_self]; rfl
  have h1 : q < H1.size := (hP _ _ hlast).lt
  have h2 : G.1 ≤ q := hD.2 _ _ hlast
  have h3 : ∀ i, i < h.length → q ≠ G.1 + i := by
    intro i hi e
    have hi' : (mm_ws G h ++ [(q, ev)])[i]? = some (G.1 + i, mm_dE G h[i]) := by rw [List.getElem?_append_left (by omega), mm_ws_get, List.getElem?_eq_getElem hi]; rfl
    have := hD.1 _ _ _ _ hlast hi' e
    omega
  have hq : q = G.1 + h.length := by
    rcases Nat.lt_or_ge (q - G.1) h.length with z | z
    · exact absurd (show q = G.1 + (q - G.1) by omega) (h3 _ z)
    · omega
  subst hq
  exact kk (mm_Wof (by rw [mm_ws_push, he]; exact hP) (by rw [List.length_append, List.length_singleton]; omega) (Nat.le_trans hG hS.1))
theorem mm_dflt_eq (ty : FieldType) : mm_dn G (mm_dflt ty) = defaultValue ty := by cases ty <;> rfl
theorem mm_dn_top : mm_dn G (.ref (64 + h.length)) = .ref (G.1 + h.length) := by
  rw [mm_dn_own (by omega), show 64 + h.length - 64 = h.length by omega]
theorem mm_AA (hG : G.1 ≤ s.heap.size) : ∀ q, s.heap.size ≤ q → mm_Ar G q := fun q hq => Nat.le_trans hG hq
theorem mh_new (hC : mm_Cok) (hF : mm_Fx p s m args c cc own G X) {x : Nat} (hI : mm_okI own mn N cc (pc, .new x, nx, ax) = true) (hG : G.1 ≤ s.heap.size) (hZ : s.heap.size + cells = G.1 + h.length) (hW : mm_W G h H) (hS : va_S (mm_Ar G) s.heap H locs) (hl : mm_LH G ls L) (hs : mm_stp X h L st (pc, .new x, nx, ax) = some (.inl (pc', L', st', op)))
    (hR : ∀ c', op = some (.inr c') → cells + 1 ≤ R.cells ∧ slots + mm_sl c' ≤ R.slots)
    (k : ∀ c', op = some (.inr c') → L' = L → ∀ H', mm_W G (h ++ [c']) H' → va_S (mm_Ar G) s.heap H' locs → W p l e R s m args below meth c H' locs (cells + 1) (slots + mm_sl c') Q (F0 m pc' ls (st'.map (mm_dn G)))) : W p l e R s m args below meth c H locs cells slots Q (F0 m pc ls (st.map (mm_dn G))) := by
  obtain ⟨hd, hn⟩ := mm_okI_dec hI (fun _ _ _ _ q => by cases q)
  subst hn
  obtain ⟨lw, hnd⟩ := mm_okI_need hI
  have hw := mm_need_wd hF hI hnd
  obtain ⟨hx, hb, hown, hts, hE, hXf⟩ := hF
  simp only [mm_stp] at hs
  split at hs
  · rename_i ci ax0
    cases hs
    obtain ⟨r1, r2⟩ := hR _ rfl
    have hk := k _ rfl rfl
    rw [hXf] at hk r2
    match ax0, hnd with
    | [p0, q0, r0], hnd =>
      simp only [mm_need] at hnd
      split at hnd
      · rename_i q hq
        cases hnd
        obtain ⟨k1, k2, k3, k4⟩ := hC ci q hq
        have hty0 : ∀ k, k < q.2.length → parseFieldDescriptor (mm_T q.2 k).2.2.1 = some ((mm_fty ci).getD k .int) := fun k hk => by
          refine k4 k _ ?_
          rw [List.getD_eq_getElem?_getD, List.getElem?_eq_getElem (by omega)]
          rfl
        have hsl : mm_sl (.inr (.inr (ci, (mm_fty ci).map mm_dflt))) = q.2.length ∨ 15 ≤ ci := by
          by_cases z : 15 ≤ ci
          · exact Or.inr z
          · refine Or.inl ?_
            simp only [mm_sl]
            rw [show Nat.ble 15 ci = false from by rw [← Bool.not_eq_true, Nat.ble_eq]; exact z]
            show ((mm_fty ci).map mm_dflt).length = _
            rw [List.length_map, k3]
        have hsl2 : q.2.length ≤ mm_sl (.inr (.inr (ci, (mm_fty ci).map mm_dflt))) := by
          rcases hsl with z | z
          · omega
          · have : (mm_fty ci).length = 0 := by
              unfold mm_fty
              split <;> first | (exfalso; omega) | rfl
            omega
        refine va_new (D := G.2.2.1) (cl := mm_cl) (tys := mm_tys G) (ws := mm_ws G h) (ci := ci) (C := q.1) (T := mm_T q.2) (N := q.2.length) (fs := ((mm_fty ci).map mm_dflt).map (mm_dn G)) hx hb hts k1 _ hty0 hown (hw _ List.mem_cons_self) (hw _ (List.mem_cons_of_mem _ List.mem_cons_self)) (hw _ (List.mem_cons_of_mem _ (List.mem_cons_of_mem _ List.mem_cons_self))) hE.1 hW.1 (mm_D G h) hS (mm_AA hG) (mm_cl_get hq) (fun j hj => ?_) r1 (by omega) hd (fun q1 H1 hP1 hD1 hS1 => ?_)
        · unfold vp_V
          have hj2 : j < (mm_fty ci).length := by omega
          rw [List.map_map]
          simp only [List.getD_eq_getElem?_getD, List.getElem?_map, List.getElem?_eq_getElem hj2]
          exact (mm_dflt_eq _).symm
        · refine W.widen (k := cells + 1) (n := slots + mm_sl (.inr (.inr (ci, (mm_fty ci).map mm_dflt)))) (Nat.le_refl _) (by omega) ?_
          refine ms_new (g := fun q => F0 m (pc + 3) ls (.ref q :: List.map (mm_dn G) st)) (c0 := .inr (.inr (ci, (mm_fty ci).map mm_dflt))) hG hZ rfl hP1 hD1 hS1 (fun hW1 => ?_)
          have hk := hk H1 hW1 hS1
          rw [List.map_cons, mm_dn_top] at hk
          exact hk
      · cases hnd
    | [], hnd => cases hnd
    | [_], hnd => cases hnd
    | [_, _], hnd => cases hnd
    | _ :: _ :: _ :: _ :: _, hnd => cases hnd
  · split at hs <;> cases hs
  · cases hs
theorem ms_cA {t : Nat} {ty : FieldType} {cA : ClassId} (hK : va_K G.2.2.1 mm_cl (mm_tys G) s) (ht : (mm_tys G)[t]? = some (G.2.2.2 t, ty)) (hK2 : va_K G.2.2.1 mm_cl (mm_tys G ++ [(cA, ty)]) s) (hp : va_RA s cA ty → va_RA s (G.2.2.2 t) ty → cA = G.2.2.2 t) : cA = G.2.2.2 t := by
  have h2 := (hK2.2 5 (cA, ty) rfl).2
  exact hp h2 (hK.2 t _ ht).2
theorem ms_fn0 (t : Nat) (ht : t = 0 ∨ t = 2) : mm_fn t 0 = .inl (fun _ => 0) := by
  have h1 : (fun j => Int32.ofNat (mm_ag 32 0 j)) = fun _ => (0 : Int32) := by
    funext j
    rw [mm_ag_0]
    rfl
  rcases ht with rfl | rfl
  · show Sum.inl (fun j => Int32.ofNat (mm_ag 32 0 j)) = _
    rw [h1]
  · show Sum.inl (fun j => Int32.ofNat (mm_ag 32 0 j)) = _
    rw [h1]
theorem ms_fn1 : mm_fn 1 0 = .inr (.inl (fun _ => 0)) := by
  have h1 : (fun j => Int64.ofNat (mm_ag 64 0 j)) = fun _ => (0 : Int64) := by
    funext j
    rw [mm_ag_0]
    rfl
  show Sum.inr (Sum.inl (fun j => Int64.ofNat (mm_ag 64 0 j))) = _
  rw [h1]
theorem mh_newarray (hY : mm_Sys) (hF : mm_Fx p s m args c cc own G X) {a : ArrayType} (hI : mm_okI own mn N cc (pc, .newarray a, nx, ax) = true) (hG : G.1 ≤ s.heap.size) (hZ : s.heap.size + cells = G.1 + h.length) (hW : mm_W G h H) (hS : va_S (mm_Ar G) s.heap H locs) (hl : mm_LH G ls L) (hs : mm_stp X h L st (pc, .newarray a, nx, ax) = some (.inl (pc', L', st', op)))
    (hR : ∀ c', op = some (.inr c') → cells + 1 ≤ R.cells ∧ slots + mm_sl c' ≤ R.slots)
    (k : ∀ c', op = some (.inr c') → L' = L → ∀ H', mm_W G (h ++ [c']) H' → va_S (mm_Ar G) s.heap H' locs → W p l e R s m args below meth c H' locs (cells + 1) (slots + mm_sl c') Q (F0 m pc' ls (st'.map (mm_dn G)))) : W p l e R s m args below meth c H locs cells slots Q (F0 m pc ls (st.map (mm_dn G))) := by
  obtain ⟨hd, hn⟩ := mm_okI_dec hI (fun _ _ _ _ q => by cases q)
  subst hn
  have hr := mm_okI_rest hI
  obtain ⟨hx, hb, hown, hts, hE, hXf⟩ := hF
  simp only [mm_stp] at hs
  split at hs
  · rename_i n r t
    split at hs
    · rename_i hn
      rw [Nat.ble_eq] at hn
      cases hs
      obtain ⟨r1, r2⟩ := hR _ rfl
      have r2 : slots + mm_un n ≤ R.slots := r2
      have hk := k _ rfl rfl
      obtain ⟨n1, n2, n3⟩ := mm_nonneg (x := n) (by omega)
      rw [List.map_cons]
      show W p l e R s m args below meth c H locs cells slots Q (F0 m pc ls (.int n :: List.map (mm_dn G) r))
      rcases (of_decide_eq_true hr : (a = .int ∧ t = 0) ∨ (a = .long ∧ t = 1) ∨ (a = .byte ∧ t = 2)) with ⟨rfl, rfl⟩ | ⟨rfl, rfl⟩ | ⟨rfl, rfl⟩
      · refine va_newa (D := G.2.2.1) (cl := mm_cl) (tys := mm_tys G) (ws := mm_ws G h) (atype := .int) (ty := .int) (N' := mm_un n) (a0 := (mm_un n, mm_fn 0 0)) hx hb (hts _ hY.2.2.2.2.2.1.1) rfl hE.1 hW.1 (mm_D G h) hS (mm_AA hG) (fun cA => by rw [ms_fn0 0 (Or.inl rfl)]; rfl) n1 n2 (by show mm_un n * 4 ≤ _; omega) r1 r2 hd (fun q1 cA H1 hK1 hP1 hD1 hS1 => ?_)
        have e9 := ms_cA (t := 0) hE.1 rfl hK1 (fun x y => Option.some.inj ((show s.vm.findClass _ = some cA from x).symm.trans y))
        subst e9
        refine ms_new (g := fun q => F0 m (pc + 2) ls (.ref q :: List.map (mm_dn G) r)) (c0 := .inl (0, mm_un n, 0)) hG hZ rfl hP1 hD1 hS1 (fun hW1 => ?_)
        have hk := hk H1 hW1 hS1
        rw [List.map_cons, mm_dn_top] at hk
        exact hk
      · refine va_newa (D := G.2.2.1) (cl := mm_cl) (tys := mm_tys G) (ws := mm_ws G h) (atype := .long) (ty := .long) (N' := mm_un n) (a0 := (mm_un n, mm_fn 1 0)) hx hb (hts _ hY.2.2.2.2.2.1.2.1) rfl hE.1 hW.1 (mm_D G h) hS (mm_AA hG) (fun cA => by rw [ms_fn1]; rfl) n1 n2 (by show mm_un n * 8 ≤ _; omega) r1 r2 hd (fun q1 cA H1 hK1 hP1 hD1 hS1 => ?_)
        have e9 := ms_cA (t := 1) hE.1 rfl hK1 (fun x y => Option.some.inj ((show s.vm.findClass _ = some cA from x).symm.trans y))
        subst e9
        refine ms_new (g := fun q => F0 m (pc + 2) ls (.ref q :: List.map (mm_dn G) r)) (c0 := .inl (1, mm_un n, 0)) hG hZ rfl hP1 hD1 hS1 (fun hW1 => ?_)
        have hk := hk H1 hW1 hS1
        rw [List.map_cons, mm_dn_top] at hk
        exact hk
      · refine va_newa (D := G.2.2.1) (cl := mm_cl) (tys := mm_tys G) (ws := mm_ws G h) (atype := .byte) (ty := .byte) (N' := mm_un n) (a0 := (mm_un n, mm_fn 2 0)) hx hb (hts _ hY.2.2.2.2.2.1.2.2) rfl hE.1 hW.1 (mm_D G h) hS (mm_AA hG) (fun cA => by rw [ms_fn0 2 (Or.inr rfl)]; rfl) n1 n2 (by show mm_un n * 1 ≤ _; omega) r1 r2 hd (fun q1 cA H1 hK1 hP1 hD1 hS1 => ?_)
        have e9 := ms_cA (t := 2) hE.1 rfl hK1 (fun x y => Option.some.inj ((show s.vm.findClass _ = some cA from x).symm.trans y))
        subst e9
        refine ms_new (g := fun q => F0 m (pc + 2) ls (.ref q :: List.map (mm_dn G) r)) (c0 := .inl (2, mm_un n, 0)) hG hZ rfl hP1 hD1 hS1 (fun hW1 => ?_)
        have hk := hk H1 hW1 hS1
        rw [List.map_cons, mm_dn_top] at hk
        exact hk
    · cases hs
  · cases hs
theorem mh_anewarray (hY : mm_Sys) (hF : mm_Fx p s m args c cc own G X) {x : Nat} (hI : mm_okI own mn N cc (pc, .anewarray x, nx, ax) = true) (hG : G.1 ≤ s.heap.size) (hZ : s.heap.size + cells = G.1 + h.length) (hW : mm_W G h H) (hS : va_S (mm_Ar G) s.heap H locs) (hl : mm_LH G ls L) (hs : mm_stp X h L st (pc, .anewarray x, nx, ax) = some (.inl (pc', L', st', op)))
    (hR : ∀ c', op = some (.inr c') → cells + 1 ≤ R.cells ∧ slots + mm_sl c' ≤ R.slots)
    (k : ∀ c', op = some (.inr c') → L' = L → ∀ H', mm_W G (h ++ [c']) H' → va_S (mm_Ar G) s.heap H' locs → W p l e R s m args below meth c H' locs (cells + 1) (slots + mm_sl c') Q (F0 m pc' ls (st'.map (mm_dn G)))) : W p l e R s m args below meth c H locs cells slots Q (F0 m pc ls (st.map (mm_dn G))) := by
  obtain ⟨hd, hn⟩ := mm_okI_dec hI (fun _ _ _ _ q => by cases q)
  subst hn
  have hr := mm_okI_rest hI
  obtain ⟨lw, hnd⟩ := mm_okI_need hI
  have hw := mm_need_wd hF hI hnd
  have hF0 := hF
  obtain ⟨hx, hb, hown, hts, hE, hXf⟩ := hF
  simp only [mm_stp] at hs
  split at hs
  · rename_i n r t ax0
    split at hs
    · rename_i hn
      rw [Nat.ble_eq] at hn
      cases hs
      obtain ⟨r1, r2⟩ := hR _ rfl
      have r9 : slots + (List.replicate (mm_un n) (none : Option Nat)).length ≤ R.slots := r2
      rw [List.length_replicate] at r9
      have hk := k _ rfl rfl
      obtain ⟨n1, n2, n3⟩ := mm_nonneg (x := n) (by omega)
      rw [List.map_cons]
      show W p l e R s m args below meth c H locs cells slots Q (F0 m pc ls (.int n :: List.map (mm_dn G) r))
      have hfun : (fun j => ((List.replicate (mm_un n) (none : Option Nat)).getD j none).bind (mm_ad G)) = fun _ => none := by
        funext j
        rw [List.getD_eq_getElem?_getD, List.getElem?_replicate]
        split <;> rfl
      match ax0, hnd, hr with
      | [ci, p0], hnd, hr =>
        simp only [mm_need] at hnd
        split at hnd
        · rename_i q hq
          cases hnd
          have hcl := hw _ List.mem_cons_self
          have hr := (of_decide_eq_true hr : (t = 3 ∧ ci = 12) ∨ (t = 4 ∧ ci = 8))
          have fin : ∀ (q1 : Nat) (H1 : Heap), va_P G.2.2.1 mm_cl (mm_ws G h ++ [(q1, .inl (G.2.2.2 t, mm_un n, .inr (.inr (.inr (.inr (fun _ => none))))))]) H1 → va_D (mm_Ar G) (mm_ws G h ++ [(q1, .inl (G.2.2.2 t, mm_un n, .inr (.inr (.inr (.inr (fun _ => none))))))]) → va_S (mm_Ar G) s.heap H1 locs → W p l e R s m args below meth c H1 locs (cells + 1) (slots + mm_un n) Q (F0 m (pc + 3) ls (.ref q1 :: List.map (mm_dn G) r)) := by
            intro q1 H1 hP1 hD1 hS1
            refine ms_new (g := fun q => F0 m (pc + 3) ls (.ref q :: List.map (mm_dn G) r)) (c0 := .inr (.inl (t, List.replicate (mm_un n) none))) hG hZ (by show Sum.inl (G.2.2.2 t, ((List.replicate (mm_un n) (none : Option Nat)).length, _)) = _; rw [hfun, List.length_replicate]) hP1 hD1 hS1 (fun hW1 => ?_)
            have hk := hk H1 hW1 hS1
            rw [List.map_cons, mm_dn_top] at hk
            have e8 : slots + mm_sl (.inr (.inl (t, List.replicate (mm_un n) none))) = slots + mm_un n := by show slots + (List.replicate (mm_un n) (none : Option Nat)).length = _; rw [List.length_replicate]
            rw [e8] at hk
            exact hk
          rcases hr with ⟨rfl, rfl⟩ | ⟨rfl, rfl⟩
          · obtain ⟨qc, e1, e2⟩ : ∃ qc, mm_cls[12]? = some qc ∧ qc.1 = "WhoKnows$State" := ⟨_, rfl, rfl⟩
            cases hq.symm.trans e1
            rw [e2] at hcl
            obtain ⟨j9, hj9⟩ := hY.2.2.2.2.2.2.1
            have hao : va_AO "WhoKnows$State" s := va_AO.of (mm_wd hF0 (by rfl) hj9)
            refine va_newq (D := G.2.2.1) (cl := mm_cl) (tys := mm_tys G) (ws := mm_ws G h) hx hb hown hcl hao hE.1 hW.1 (mm_D G h) hS (mm_AA hG) n1 n2 (by omega) r1 r9 hd (fun q1 cA H1 hK1 hP1 hD1 hS1 => ?_)
            have e9 := ms_cA (t := 3) hE.1 rfl hK1 (fun x y => by obtain ⟨_, _, -, -, -, x4⟩ := x; obtain ⟨_, _, -, -, -, y4⟩ := y; exact Option.some.inj (x4.symm.trans y4))
            subst e9
            exact fin q1 H1 hP1 hD1 hS1
          · obtain ⟨qc, e1, e2⟩ : ∃ qc, mm_cls[8]? = some qc ∧ qc.1 = "WhoKnows$Order" := ⟨_, rfl, rfl⟩
            cases hq.symm.trans e1
            rw [e2] at hcl
            obtain ⟨j9, hj9⟩ := hY.2.2.2.2.2.2.2.1
            have hao : va_AO "WhoKnows$Order" s := va_AO.of (mm_wd hF0 (by rfl) hj9)
            refine va_newq (D := G.2.2.1) (cl := mm_cl) (tys := mm_tys G) (ws := mm_ws G h) hx hb hown hcl hao hE.1 hW.1 (mm_D G h) hS (mm_AA hG) n1 n2 (by omega) r1 r9 hd (fun q1 cA H1 hK1 hP1 hD1 hS1 => ?_)
            have e9 := ms_cA (t := 4) hE.1 rfl hK1 (fun x y => by obtain ⟨_, _, -, -, -, x4⟩ := x; obtain ⟨_, _, -, -, -, y4⟩ := y; exact Option.some.inj (x4.symm.trans y4))
            subst e9
            exact fin q1 H1 hP1 hD1 hS1
        · cases hnd
      | [], hnd, _ => cases hnd
      | [_], hnd, _ => cases hnd
      | _ :: _ :: _ :: _, hnd, _ => cases hnd
    · cases hs
  · cases hs
theorem ms_cpy (N M sp dp n t : Nat) (ht : t ≠ 1) : mm_fn t (mm_cpy 32 N sp M dp n) = .inl (va_cpy (fun j => Int32.ofNat (mm_ag 32 N j)) (fun j => Int32.ofNat (mm_ag 32 M j)) sp dp n) := by
  have h1 : ∀ M, mm_fn t M = .inl (fun j => Int32.ofNat (mm_ag 32 M j)) := fun M => by
    unfold mm_fn
    split
    · exact absurd rfl ht
    · rfl
  rw [h1]
  congr 1
  funext j
  rw [mm_cpy_ag _ _ (by decide)]
  unfold va_cpy
  split <;> rfl
theorem mm_prim_02 {c : Option mm_C} {q : Nat × Nat} (h : mm_prim c 0 = some q) : mm_prim c 2 = none := by
  obtain ⟨n, N⟩ := q
  rw [mm_prim_eq h]
  rfl
theorem mm_f8_ok {G : mm_G} {N : Nat} : ∀ {k p : Nat}, mm_f8 N p k = true → ∀ i, i < k → fits .byte (.int (Int32.ofNat (mm_ag 32 N (p + i)))) = true
  | 0, _, _, _, hi => absurd hi (Nat.not_lt_zero _)
  | k + 1, p, h, i, hi => by
    have h : (mm_fit .byte (.int (Int32.ofNat (mm_ag 32 N p))) && mm_f8 N (p + 1) k) = true := h
    rw [Bool.and_eq_true] at h
    cases i with
    | zero => exact (mm_fit_ok (G := G) h.1).2
    | succ i =>
      have := mm_f8_ok (G := G) h.2 i (by omega)
      rw [show p + 1 + i = p + (i + 1) by omega] at this
      exact this
theorem va_copyT {p : Program} {l : Launch} {e : Env} {R : Room} {s : State} {m : MethodId} {args : Array Value} {below : List Frame} {meth : Method} {c : Code} {H : Heap} {locs : List Loc} {cells slots : Nat} {Q : State → Prop} {pc : Nat} {ls : Array Slot} {rest : List Value} {D : va_G} {cl : List vw_C} {A : Nat → Prop} {a : Nat} {tys : List (ClassId × FieldType)} {ws : va_W} {cc : ByteArray} (hexec : p.tables.exec = Jvm.exec) (hb : c.code = cc) (hml : c.maxLocals = ls.size) {own : String} {index : Nat} (hown : s.vm.findClass own = some m.cls) (hlink : (Cond.methodLink own index arraycopyName).before args s = true) (hnat : (Cond.native arraycopyName).before args s = true) (hstat : (Cond.static arraycopyName).before args s = true) (hini : (Cond.initialized "java/lang/System").before args s = true)
    (hK : va_K D cl tys s) (hP : va_P D cl ws H) (hD : va_D A ws) (hS : va_S A s.heap H locs) {b0 n0 : Nat} {f : Nat → Int32} (hX : va_T .byte b0 n0 (fun j => .int (f j)) A s s.heap) (q1 t1 : Nat) {c1 : ClassId} {n1 : Nat} {g : Nat → Int32} (ha1 : ws[q1]? = some (a, .inl (c1, n1, .inl g))) (ht1 : tys[t1]? = some (c1, .byte))
    {sp dp n : Int32} (h1 : ¬ sp < 0) (h2 : ¬ dp < 0) (h3 : ¬ n < 0) (h4 : sp.toNatClampNeg + n.toNatClampNeg ≤ n0) (h5 : dp.toNatClampNeg + n.toNatClampNeg ≤ n1) (hfit : ∀ i, i < n.toNatClampNeg → fits .byte (.int (f (sp.toNatClampNeg + i))) = true)
    (hframes : 1 ≤ R.frames) (hlocals : (rest.map fun v => v.category).sum + (nativeFrameWords "java/lang/System" "arraycopy" 5 + 11) ≤ R.locals) (hdg : decode cc pc = .ok (.invokestatic index, 3))
    (kk : ∀ (H1 : Heap) (locs1 : List Loc), va_P D cl (ws.set q1 (a, .inl (c1, n1, .inl (va_cpy f g sp.toNatClampNeg dp.toNatClampNeg n.toNatClampNeg)))) H1 → va_D A (ws.set q1 (a, .inl (c1, n1, .inl (va_cpy f g sp.toNatClampNeg dp.toNatClampNeg n.toNatClampNeg)))) → va_S A s.heap H1 locs1 → W p l e R s m args below meth c H1 locs1 cells slots Q (F0 m (pc + 3) ls rest)) : W p l e R s m args below meth c H locs cells slots Q (F0 m pc ls (.int n :: .int dp :: .ref a :: .int sp :: .ref b0 :: rest)) := by
  have nn : ∀ z : Int32, ¬ z < 0 → z.toInt = (z.toNatClampNeg : Int) := by
    intro z hz
    have hz0 : (0 : Int) ≤ z.toInt := by
      have := Int32.not_lt.mp hz
      simpa using Int32.le_iff_toInt_le.mp this
    show z.toInt = ((z.toInt.toNat : Nat) : Int)
    omega
  intro T hT X
  obtain ⟨scr, hs1, ⟨hs2, k0, hk0, cm0, hkk0⟩, hs3, hs4, -, hs5, hs7⟩ := hX
  have hc0 : H[b0]? = some scr := by rw [hS.2.1 b0 (Array.getElem?_eq_some_iff.mp hs1).1 hs7]; exact hs1
  have hc1 : H[a]? = some (vp_cell c1 (n1, .inl g)) := hP q1 _ ha1
  obtain ⟨-, k1, hk1, cm1, hkk1⟩ := (hK.2 t1 _ ht1).1 n1 (fun j => .int (g j))
  obtain ⟨vm', X', step⟩ := X.arraycopy hexec hown hlink hnat hstat hini (src := b0) (dst := a) (cs := scr) (cd := vp_cell c1 (n1, .inl g)) (srcPos := sp) (destPos := dp) (n := n) (by rw [hT]; exact hc0) (by rw [hT]; exact hc1)
    hs2 (fun _ h => by cases h) hs3 (fun h => by cases h) hk0 hk1 hkk0 hkk1 (by simp [refKind]) h1 h2 h3
    (by rw [nn sp h1, nn n h3]; omega)
    (by rw [nn dp h2, nn n h3]; show ¬ _ > ((arrV c1 n1 (fun j => .int (g j))).slots.size : Int); rw [arrV_size]; omega)
    (fun vm₁ _ i hi => by
      have e : scr.slots.getD (sp.toNatClampNeg + i) .null = .int (f (sp.toNatClampNeg + i)) := by
        rw [Array.getD_eq_getD_getElem?, hs5 _ (by omega)]
        rfl
      refine ⟨?_, ?_⟩
      · rw [e]
        exact hfit i hi
      · rw [e]
        exact trivial)
    (g := F0 m pc ls (.int n :: .int dp :: .ref a :: .int sp :: .ref b0 :: rest)) rfl (by rw [hml]) (rest := rest) rfl (by rw [hb]; exact hdg) hframes (by show 2 * 0 + _ + _ ≤ _; omega)
  have e1 : copied scr (vp_cell c1 (n1, .inl g)) sp dp n = vp_cell c1 (n1, .inl (va_cpy f g sp.toNatClampNeg dp.toNatClampNeg n.toNatClampNeg)) := va_copiedX (fun z => .int z) scr c1 f g hs5 h4
  rw [e1] at X' step
  have hl : a < H.size := (Array.getElem?_eq_some_iff.mp hc1).1
  have hheap : ((T.setVm vm').setCell a (vp_cell c1 (n1, .inl (va_cpy f g sp.toNatClampNeg dp.toNatClampNeg n.toNatClampNeg)))).heap = H.setIfInBounds a (vp_cell c1 (n1, .inl (va_cpy f g sp.toNatClampNeg dp.toNatClampNeg n.toNatClampNeg))) := by rw [← hT]; rfl
  have oq : ∀ q : Nat, q ≠ a → (H.setIfInBounds a (vp_cell c1 (n1, .inl (va_cpy f g sp.toNatClampNeg dp.toNatClampNeg n.toNatClampNeg))))[q]? = H[q]? := fun q hq => by simp [Array.getElem?_setIfInBounds, Ne.symm hq]
  obtain ⟨t, a1, b1⟩ := kk _ _ (hP.set hD ha1 (show (H.setIfInBounds a _)[a]? = some _ by simp [Array.getElem?_setIfInBounds, hl]) oq) (hD.set ha1) ⟨by simp; exact hS.1, fun q g1 g2 => by
      rw [oq q (fun e => g2 (by rw [e]; exact hD.2 q1 _ ha1))]
      exact hS.2.1 q g1 g2, fun q hq => by
      rcases List.mem_append.mp hq with h | h
      · exact hS.2.2 q h
      · obtain ⟨z, -, hz⟩ := List.mem_map.mp h
        rw [← hz]
        exact hD.2 q1 _ ha1⟩ _ hheap X'
  exact ⟨t, step t a1, b1⟩
theorem mh_copyi (hY : mm_Sys) (hF : mm_Fx p s m args c cc own G X) {x p0 : Nat} (hI : mm_okI own mn N cc (pc, .invokestatic x, nx, [10, p0]) = true) (hG : G.1 ≤ s.heap.size) (hZ : s.heap.size + cells = G.1 + h.length) (hW : mm_W G h H) (hS : va_S (mm_Ar G) s.heap H locs) (hl : mm_LH G ls L) (hml : c.maxLocals = L.length) (hRf : 1 ≤ R.frames) (hRl : 200 ≤ R.locals) (hs : mm_copyi X h nx L st = some (.inl (pc', L', st', op)))
    (k : ∀ i c', op = some (.inl (i, c')) → L' = L → ∀ H' locs', mm_W G (h.set i c') H' → va_S (mm_Ar G) s.heap H' locs' → W p l e R s m args below meth c H' locs' cells slots Q (F0 m pc' ls (st'.map (mm_dn G)))) : W p l e R s m args below meth c H locs cells slots Q (F0 m pc ls (st.map (mm_dn G))) := by
  obtain ⟨hd, hn⟩ := mm_okI_dec hI (fun _ _ _ _ q => by cases q)
  subst hn
  obtain ⟨lw, hnd⟩ := mm_okI_need hI
  have hw := mm_need_wd hF hI hnd
  cases hnd
  obtain ⟨hx, hb, hown, hts, hE, hXf⟩ := hF
  unfold mm_copyi at hs
  split at hs
  · rename_i n dp a sp a0 r
    split at hs
    · rename_i n0 M0 n1 M1 ho0 ho1
      have ho0 := mm_prim_eq ho0
      have ho1 := mm_prim_eq ho1
      split at hs
      · rename_i hc
        simp only [Bool.and_eq_true, Nat.ble_eq] at hc
        obtain ⟨c0, c1, c2, c3, c4, c5, c6⟩ := hc
        rw [mm_fN_eq] at hs
        obtain ⟨ha, hq⟩ := mi_wr hs
        cases hq
        rw [mm_rd_own c4] at ho0
        rw [mm_rd_own ha] at ho1
        obtain ⟨a1, a2, a3⟩ := mm_nonneg (x := n) (by omega)
        obtain ⟨b1, b2, b3⟩ := mm_nonneg (x := dp) (by omega)
        obtain ⟨d1, d2, d3⟩ := mm_nonneg (x := sp) (by omega)
        rw [List.map_cons, List.map_cons, List.map_cons, List.map_cons, List.map_cons, mm_dn_own ha, mm_dn_own c4]
        have hcat : ((st'.map (mm_dn G)).map fun v => v.category).sum ≤ 8 := by rw [mm_map_cat]; exact mm_rest8 st' c0
        have hnw : nativeFrameWords "java/lang/System" "arraycopy" 5 = 7 := by decide +kernel
        refine va_copyi (D := G.2.2.1) (cl := mm_cl) (tys := mm_tys G) (ws := mm_ws G h) (ty := .int) hx hb (hml.trans hl.1.symm) hown (hw _ List.mem_cons_self) (hts _ hY.1) (hts _ hY.2.1) (hts _ hY.2.2.1) hE.1 hW.1 (mm_D G h) hS (a0 - 64) (a - 64) 0 0 (c0 := G.2.2.2 0) (c1 := G.2.2.2 0) (n0 := n0) (n1 := n1) (f := fun j => Int32.ofNat (mm_ag 32 M0 j)) (g := fun j => Int32.ofNat (mm_ag 32 M1 j)) (mm_own_at ho0) (mm_own_at ho1) rfl rfl rfl d1 b1 a1 (by rw [d2, a2]; exact c5) (by rw [b2, a2]; exact c6) (fun _ _ => rfl) hRf (by rw [hnw]; omega) hd (fun H1 locs1 hP1 _ hS1 => ?_)
        rw [d2, b2, a2] at hP1
        refine ms_fin (k := a - 64) (c0 := .inl (0, n1, mm_cpy 32 M0 (mm_un sp) M1 (mm_un dp) (mm_un n))) hG hZ (by show va_P _ _ ((mm_ws G h).set (a - 64) (G.1 + (a - 64), .inl (G.2.2.2 0, (n1, mm_fn 0 _)))) H1; rw [ms_cpy _ _ _ _ _ _ (by decide)]; exact hP1) hS1 (fun hW1 => k _ _ rfl rfl H1 locs1 hW1 hS1)
      · cases hs
    · cases hs
  · cases hs
theorem mh_copyb (hY : mm_Sys) (hF : mm_Fx p s m args c cc own G X) {x p0 : Nat} (hI : mm_okI own mn N cc (pc, .invokestatic x, nx, [10, p0]) = true) (hG : G.1 ≤ s.heap.size) (hZ : s.heap.size + cells = G.1 + h.length) (hW : mm_W G h H) (hS : va_S (mm_Ar G) s.heap H locs) (hl : mm_LH G ls L) (hml : c.maxLocals = L.length) (hRf : 1 ≤ R.frames) (hRl : 200 ≤ R.locals) (hs : mm_copyb X h nx L st = some (.inl (pc', L', st', op)))
    (k : ∀ i c', op = some (.inl (i, c')) → L' = L → ∀ H' locs', mm_W G (h.set i c') H' → va_S (mm_Ar G) s.heap H' locs' → W p l e R s m args below meth c H' locs' cells slots Q (F0 m pc' ls (st'.map (mm_dn G)))) : W p l e R s m args below meth c H locs cells slots Q (F0 m pc ls (st.map (mm_dn G))) := by
  obtain ⟨hd, hn⟩ := mm_okI_dec hI (fun _ _ _ _ q => by cases q)
  subst hn
  obtain ⟨lw, hnd⟩ := mm_okI_need hI
  have hw := mm_need_wd hF hI hnd
  cases hnd
  obtain ⟨hx, hb, hown, hts, hE, hXf⟩ := hF
  unfold mm_copyb at hs
  split at hs
  · rename_i n dp a sp a0 r
    split at hs
    · rename_i n0 M0 n1 M1 ho0 ho1
      have ho0 := mm_prim_eq ho0
      have ho1 := mm_prim_eq ho1
      split at hs
      · rename_i hc
        simp only [Bool.and_eq_true, Nat.ble_eq] at hc
        obtain ⟨c0, c1, c2, c3, c4, c5, c6⟩ := hc
        rw [mm_fN_eq] at hs
        obtain ⟨ha, hq⟩ := mi_wr hs
        cases hq
        rw [mm_rd_own ha] at ho1
        obtain ⟨a1, a2, a3⟩ := mm_nonneg (x := n) (by omega)
        obtain ⟨b1, b2, b3⟩ := mm_nonneg (x := dp) (by omega)
        obtain ⟨d1, d2, d3⟩ := mm_nonneg (x := sp) (by omega)
        rw [List.map_cons, List.map_cons, List.map_cons, List.map_cons, List.map_cons, mm_dn_own ha]
        have hcat : ((st'.map (mm_dn G)).map fun v => v.category).sum ≤ 8 := by rw [mm_map_cat]; exact mm_rest8 st' c0
        have hnw : nativeFrameWords "java/lang/System" "arraycopy" 5 = 7 := by decide +kernel
        by_cases hq0 : 64 ≤ a0
        · rw [mm_rd_own hq0] at ho0
          rw [mm_dn_own hq0]
          refine va_copyi (D := G.2.2.1) (cl := mm_cl) (tys := mm_tys G) (ws := mm_ws G h) (ty := .byte) hx hb (hml.trans hl.1.symm) hown (hw _ List.mem_cons_self) (hts _ hY.1) (hts _ hY.2.1) (hts _ hY.2.2.1) hE.1 hW.1 (mm_D G h) hS (a0 - 64) (a - 64) 2 2 (c0 := G.2.2.2 2) (c1 := G.2.2.2 2) (n0 := n0) (n1 := n1) (f := fun j => Int32.ofNat (mm_ag 32 M0 j)) (g := fun j => Int32.ofNat (mm_ag 32 M1 j)) (mm_own_at ho0) (mm_own_at ho1) rfl rfl rfl d1 b1 a1 (by rw [d2, a2]; exact c5) (by rw [b2, a2]; exact c6) (fun i hi => by rw [d2]; exact mm_f8_ok (G := G) c4 i (by rw [a2] at hi; exact hi)) hRf (by rw [hnw]; omega) hd (fun H1 locs1 hP1 _ hS1 => ?_)
          rw [d2, b2, a2] at hP1
          refine ms_fin (k := a - 64) (c0 := .inl (2, n1, mm_cpy 32 M0 (mm_un sp) M1 (mm_un dp) (mm_un n))) hG hZ (by show va_P _ _ ((mm_ws G h).set (a - 64) (G.1 + (a - 64), .inl (G.2.2.2 2, (n1, mm_fn 2 _)))) H1; rw [ms_cpy _ _ _ _ _ _ (by decide)]; exact hP1) hS1 (fun hW1 => k _ _ rfl rfl H1 locs1 hW1 hS1)
        · rw [mm_rd_ext hq0] at ho0
          obtain ⟨q, e1, hT⟩ := hE.2.2.2.1 a0 _ (Nat.lt_of_not_le hq0) ho0
          rw [mm_dn_some e1]
          rcases hT with ⟨z, -⟩ | ⟨-, hT⟩
          · cases z
          · refine va_copyT (D := G.2.2.1) (cl := mm_cl) (tys := mm_tys G) (ws := mm_ws G h) hx hb (hml.trans hl.1.symm) hown (hw _ List.mem_cons_self) (hts _ hY.1) (hts _ hY.2.1) (hts _ hY.2.2.1) hE.1 hW.1 (mm_D G h) hS hT (a - 64) 2 (c1 := G.2.2.2 2) (n1 := n1) (g := fun j => Int32.ofNat (mm_ag 32 M1 j)) (mm_own_at ho1) rfl d1 b1 a1 (by rw [d2, a2]; exact c5) (by rw [b2, a2]; exact c6) (fun i hi => by rw [d2]; exact mm_f8_ok (G := G) c4 i (by rw [a2] at hi; exact hi)) hRf (by rw [hnw]; omega) hd (fun H1 locs1 hP1 _ hS1 => ?_)
            rw [d2, b2, a2] at hP1
            refine ms_fin (k := a - 64) (c0 := .inl (2, n1, mm_cpy 32 M0 (mm_un sp) M1 (mm_un dp) (mm_un n))) hG hZ (by show va_P _ _ ((mm_ws G h).set (a - 64) (G.1 + (a - 64), .inl (G.2.2.2 2, (n1, mm_fn 2 _)))) H1; rw [ms_cpy _ _ _ _ _ _ (by decide)]; exact hP1) hS1 (fun hW1 => k _ _ rfl rfl H1 locs1 hW1 hS1)
      · cases hs
    · cases hs
  · cases hs
theorem mh_copy (hY : mm_Sys) (hF : mm_Fx p s m args c cc own G X) {x p0 : Nat} (hI : mm_okI own mn N cc (pc, .invokestatic x, nx, [10, p0]) = true) (hG : G.1 ≤ s.heap.size) (hZ : s.heap.size + cells = G.1 + h.length) (hW : mm_W G h H) (hS : va_S (mm_Ar G) s.heap H locs) (hl : mm_LH G ls L) (hml : c.maxLocals = L.length) (hRf : 1 ≤ R.frames) (hRl : 200 ≤ R.locals) (hs : mm_copy X h nx L st = some (.inl (pc', L', st', op)))
    (k : ∀ i c', op = some (.inl (i, c')) → L' = L → ∀ H' locs', mm_W G (h.set i c') H' → va_S (mm_Ar G) s.heap H' locs' → W p l e R s m args below meth c H' locs' cells slots Q (F0 m pc' ls (st'.map (mm_dn G)))) : W p l e R s m args below meth c H locs cells slots Q (F0 m pc ls (st.map (mm_dn G))) := by
  have hs0 := hs
  unfold mm_copy at hs
  split at hs
  · split at hs
    · exact mh_copyb hY hF hI hG hZ hW hS hl hml hRf hRl hs k
    · exact mh_copyi hY hF hI hG hZ hW hS hl hml hRf hRl hs k
  · cases hs
theorem mh_objinit (hY : mm_Sys) (hF : mm_Fx p s m args c cc own G X) {x p0 : Nat} (hI : mm_okI own mn N cc (pc, .invokespecial x, nx, [9, p0]) = true) (hG : G.1 ≤ s.heap.size) (hZ : s.heap.size + cells = G.1 + h.length) (hW : mm_W G h H) (hS : va_S (mm_Ar G) s.heap H locs) (hl : mm_LH G ls L) (hml : c.maxLocals = L.length) (hRf : 1 ≤ R.frames) (hRl : 200 ≤ R.locals) (hs : mm_stp X h L st (pc, .invokespecial x, nx, [9, p0]) = some (.inl (pc', L', st', op)))
    (k : op = none → ∀ ls', mm_LH G ls' L' → W p l e R s m args below meth c H locs cells slots Q (F0 m pc' ls' (st'.map (mm_dn G)))) : W p l e R s m args below meth c H locs cells slots Q (F0 m pc ls (st.map (mm_dn G))) := by
  obtain ⟨hd, hn⟩ := mm_okI_dec hI (fun _ _ _ _ q => by cases q)
  subst hn
  obtain ⟨lw, hnd⟩ := mm_okI_need hI
  have hw := mm_need_wd hF hI hnd
  cases hnd
  obtain ⟨hx, hb, hown, hts, hE, hXf⟩ := hF
  simp only [mm_stp] at hs
  split at hs
  · rename_i a r
    split at hs
    · rename_i hc
      simp only [Bool.and_eq_true, Nat.ble_eq] at hc
      cases mi_go hs
      rw [List.map_cons, mm_dn_own hc.1]
      have hcat : ((st'.map (mm_dn G)).map fun v => v.category).sum ≤ 8 := by rw [mm_map_cat]; exact mm_rest8 st' hc.2
      have hk := k rfl ls hl
      exact W.objInit hx hb hown (hw _ List.mem_cons_self) (hts _ hY.2.2.2.1) (hts _ hY.2.2.2.2.1) rfl (hl.1.trans hml.symm) rfl hd hRf (by show 0 + _ + 12 ≤ _; omega) hk
    · cases hs
  · cases hs
def mm_mxv (mx : Bool) (x y : Int32) : Int32 := if mx = true then (if x < y then y else x) else (if y < x then y else x)
theorem mi_math {mx : Bool} {a : mm_A} (h0 : mm_math nx L st mx = some a) : ∃ x y r, st = .int y :: .int x :: r ∧ r.length ≤ 4 ∧ a = .inl (nx, L, .int (mm_mxv mx x y) :: r, none) := by
  unfold mm_math at h0
  split at h0
  · rename_i y x r
    split at h0
    · rename_i hb
      refine ⟨x, y, r, rfl, Nat.ble_eq.mp hb, ?_⟩
      unfold mm_mxv
      cases mx with
      | true =>
        rw [if_pos rfl]
        cases hl : mm_lt x y with
        | true =>
          rw [if_pos ((mm_lt_iff x y).mp hl)]
          rw [hl] at h0
          dsimp only at h0
          rw [mm_fI_eq] at h0
          exact mi_go h0
        | false =>
          rw [if_neg (fun z => by rw [(mm_lt_iff x y).mpr z] at hl; cases hl)]
          rw [hl] at h0
          dsimp only at h0
          rw [mm_fI_eq] at h0
          exact mi_go h0
      | false =>
        rw [if_neg (by decide)]
        cases hl : mm_lt y x with
        | true =>
          rw [if_pos ((mm_lt_iff y x).mp hl)]
          rw [hl] at h0
          dsimp only at h0
          rw [mm_fI_eq] at h0
          exact mi_go h0
        | false =>
          rw [if_neg (fun z => by rw [(mm_lt_iff y x).mpr z] at hl; cases hl)]
          rw [hl] at h0
          dsimp only at h0
          rw [mm_fI_eq] at h0
          exact mi_go h0
    · cases h0
  · cases h0
theorem mh_math (hY : mm_Sys) (hF : mm_Fx p s m args c cc own G X) {x p0 kd : Nat} (hk : kd = 11 ∨ kd = 12) (hI : mm_okI own mn N cc (pc, .invokestatic x, nx, [kd, p0]) = true) (hl : mm_LH G ls L) (hml : c.maxLocals = L.length) (hRf : 1 ≤ R.frames) (hRl : 200 ≤ R.locals) (hc : cells ≤ R.cells) (hsl : slots ≤ R.slots) (hs : mm_math nx L st (kd == 11) = some (.inl (pc', L', st', op)))
    (k : op = none → ∀ ls', mm_LH G ls' L' → W p l e R s m args below meth c H locs cells slots Q (F0 m pc' ls' (st'.map (mm_dn G)))) : W p l e R s m args below meth c H locs cells slots Q (F0 m pc ls (st.map (mm_dn G))) := by
  obtain ⟨hd, hn⟩ := mm_okI_dec hI (fun _ _ _ _ q => by cases q)
  subst hn
  obtain ⟨lw, hnd⟩ := mm_okI_need hI
  have hw := mm_need_wd hF hI hnd
  obtain ⟨hx, hb, hown, hts, hE, hXf⟩ := hF
  obtain ⟨a, b, r, rfl, hr, hq⟩ := mi_math hs
  have hcat : ((r.map (mm_dn G)).map fun v => v.category).sum ≤ 8 := by rw [mm_map_cat]; exact mm_rest8 r hr
  rcases hk with rfl | rfl
  · cases hnd
    cases hq
    exact va_mmax hx hb (hml.trans hl.1.symm) hown (hw _ List.mem_cons_self) (hts _ hY.2.2.2.2.2.2.2.2.2.1.1) (hts _ hY.2.2.2.2.2.2.2.2.1) (hts _ hY.2.2.2.2.2.2.2.2.2.1.2) hRf (by omega) hc hsl hd (k rfl ls hl)
  · cases hnd
    cases hq
    exact va_mmin hx hb (hml.trans hl.1.symm) hown (hw _ List.mem_cons_self) (hts _ hY.2.2.2.2.2.2.2.2.2.2.1) (hts _ hY.2.2.2.2.2.2.2.2.1) (hts _ hY.2.2.2.2.2.2.2.2.2.2.2) hRf (by omega) hc hsl hd (k rfl ls hl)
end MS
