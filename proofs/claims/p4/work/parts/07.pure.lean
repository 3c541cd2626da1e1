/-! ===== one instruction of the mini machine is one of the machine: those without heap and links ===== -/
theorem mi_go {nx : Nat} {L : mm_L} {st : List Value} {a : mm_A} (h : mm_go nx L st = some a) : a = .inl (nx, L, st, none) := (Option.some.inj h).symm
theorem mi_ld {nx : Nat} {L : mm_L} {st : List Value} {i : Nat} {ok : Value → Bool} {a : mm_A} (h : mm_ld nx L st i ok = some a) : ∃ v, mm_get L i = some v ∧ ok v = true ∧ a = .inl (nx, L, v :: st, none) := by
  unfold mm_ld at h
  split at h
  · rename_i v hv
    split at h
    · rename_i hok
      exact ⟨v, hv, hok, mi_go h⟩
    · cases h
  · cases h
theorem mi_s1 {nx : Nat} {L : mm_L} {st : List Value} {i : Nat} {ok : Value → Bool} {a : mm_A} (h : mm_s1 nx L st i ok = some a) : ∃ v r L', st = v :: r ∧ ok v = true ∧ mm_set1 L i v = some L' ∧ a = .inl (nx, L', r, none) := by
  unfold mm_s1 at h
  split at h
  · rename_i v r
    split at h
    · rename_i hok
      split at h
      · rename_i L' hL
        exact ⟨v, r, L', rfl, hok, hL, mi_go h⟩
      · cases h
    · cases h
  · cases h
theorem mi_s2 {nx : Nat} {L : mm_L} {st : List Value} {i : Nat} {ok : Value → Bool} {a : mm_A} (h : mm_s2 nx L st i ok = some a) : ∃ v r L', st = v :: r ∧ ok v = true ∧ mm_set2 L i v = some L' ∧ a = .inl (nx, L', r, none) := by
  unfold mm_s2 at h
  split at h
  · rename_i v r
    split at h
    · rename_i hok
      split at h
      · rename_i L' hL
        exact ⟨v, r, L', rfl, hok, hL, mi_go h⟩
      · cases h
    · cases h
  · cases h
theorem mi_i2 {nx : Nat} {L : mm_L} {st : List Value} {f : Int32 → Int32 → Int32} {a : mm_A} (h : mm_i2 nx L st f = some a) : ∃ x y r, st = .int y :: .int x :: r ∧ a = .inl (nx, L, .int (f x y) :: r, none) := by
  unfold mm_i2 at h
  split at h
  · rename_i y x r
    rw [mm_fI_eq] at h
    exact ⟨x, y, r, rfl, mi_go h⟩
  · cases h
theorem mi_i1 {nx : Nat} {L : mm_L} {st : List Value} {f : Int32 → Int32} {a : mm_A} (h : mm_i1 nx L st f = some a) : ∃ x r, st = .int x :: r ∧ a = .inl (nx, L, .int (f x) :: r, none) := by
  unfold mm_i1 at h
  split at h
  · rename_i x r
    rw [mm_fI_eq] at h
    exact ⟨x, r, rfl, mi_go h⟩
  · cases h
theorem mi_br {nx : Nat} {L : mm_L} {ax : List Nat} {r : List Value} {b : Bool} {a : mm_A} (h : mm_br nx L ax r b = some a) : ∃ t, ax = [t] ∧ ((b = true ∧ a = .inl (t, L, r, none)) ∨ (b = false ∧ a = .inl (nx, L, r, none))) := by
  unfold mm_br at h
  split at h
  · rename_i t
    cases b with
    | true => exact ⟨t, rfl, Or.inl ⟨rfl, mi_go h⟩⟩
    | false => exact ⟨t, rfl, Or.inr ⟨rfl, mi_go h⟩⟩
  · cases h
theorem mi_isI {v : Value} (h : mm_isI v = true) : ∃ x, v = .int x := by
  cases v <;> first | exact ⟨_, rfl⟩ | cases h
theorem mi_isL {v : Value} (h : mm_isL v = true) : ∃ x, v = .long x := by
  cases v <;> first | exact ⟨_, rfl⟩ | cases h
theorem mi_isD {v : Value} (h : mm_isD v = true) : ∃ x, v = .double x := by
  cases v <;> first | exact ⟨_, rfl⟩ | cases h
theorem mi_isA {G : mm_G} {v : Value} (h : mm_isA v = true) : ∃ o, mm_dn G v = va_rf o := by
  cases v with
  | ref k => exact ⟨_, rfl⟩
  | null => exact ⟨none, rfl⟩
  | _ => cases h
theorem mi_c1 {G : mm_G} {v : Value} (h : ¬ mm_cat2 v = true) : (mm_dn G v).category = 1 := by
  rw [mm_cat]
  rcases lv_cat v with q | q
  · exact q
  · exact absurd ((mm_cat2_iff v).mpr q) h
section MP
variable {p : Program} {l : Launch} {e : Env} {R : Room} {s : State} {m : MethodId} {args : Array Value} {below : List Frame} {meth : Method} {c : Code} {H : Heap} {locs : List Loc} {cells slots : Nat} {Q : State → Prop}
variable {cc : ByteArray} {pc : Nat} {ls : Array Slot} {G : mm_G} {X : mm_X} {h : mm_H} {L L' : mm_L} {st st' : List Value} {nx pc' : Nat} {ax : List Nat} {op : Option ((Nat × mm_C) ⊕ mm_C)}
theorem mp_iload (hx : p.tables.exec = Jvm.exec) (hb : c.code = cc) {j : Nat} (hd : decode cc pc = .ok ((Instr.iload j), mm_ln (Instr.iload j))) (hl : mm_LH G ls L) (hs : mm_stp X h L st (pc, (Instr.iload j), pc + mm_ln (Instr.iload j), ax) = some (.inl (pc', L', st', op)))
    (k : op = none → ∀ ls', mm_LH G ls' L' → W p l e R s m args below meth c H locs cells slots Q (F0 m pc' ls' (st'.map (mm_dn G)))) : W p l e R s m args below meth c H locs cells slots Q (F0 m pc ls (st.map (mm_dn G))) := by
  obtain ⟨v, hv, hok, hq⟩ := mi_ld (show mm_ld _ L st j _ = some _ from hs)
  obtain ⟨x, rfl⟩ := mi_isI hok
  cases hq
  exact lv_iload hx hb hd (mm_get_at hl hv) (k rfl ls hl)
theorem mp_iload_n (hx : p.tables.exec = Jvm.exec) (hb : c.code = cc) {j : Fin 4} (hd : decode cc pc = .ok ((Instr.iload_n j), mm_ln (Instr.iload_n j))) (hl : mm_LH G ls L) (hs : mm_stp X h L st (pc, (Instr.iload_n j), pc + mm_ln (Instr.iload_n j), ax) = some (.inl (pc', L', st', op)))
    (k : op = none → ∀ ls', mm_LH G ls' L' → W p l e R s m args below meth c H locs cells slots Q (F0 m pc' ls' (st'.map (mm_dn G)))) : W p l e R s m args below meth c H locs cells slots Q (F0 m pc ls (st.map (mm_dn G))) := by
  obtain ⟨v, hv, hok, hq⟩ := mi_ld (show mm_ld _ L st j.val _ = some _ from hs)
  obtain ⟨x, rfl⟩ := mi_isI hok
  cases hq
  exact lv_iload_n hx hb hd rfl (mm_get_at hl hv) (k rfl ls hl)
theorem mp_lload (hx : p.tables.exec = Jvm.exec) (hb : c.code = cc) {j : Nat} (hd : decode cc pc = .ok ((Instr.lload j), mm_ln (Instr.lload j))) (hl : mm_LH G ls L) (hs : mm_stp X h L st (pc, (Instr.lload j), pc + mm_ln (Instr.lload j), ax) = some (.inl (pc', L', st', op)))
    (k : op = none → ∀ ls', mm_LH G ls' L' → W p l e R s m args below meth c H locs cells slots Q (F0 m pc' ls' (st'.map (mm_dn G)))) : W p l e R s m args below meth c H locs cells slots Q (F0 m pc ls (st.map (mm_dn G))) := by
  obtain ⟨v, hv, hok, hq⟩ := mi_ld (show mm_ld _ L st j _ = some _ from hs)
  obtain ⟨x, rfl⟩ := mi_isL hok
  cases hq
  exact lv_lload hx hb hd (mm_get_at hl hv) (k rfl ls hl)
theorem mp_lload_n (hx : p.tables.exec = Jvm.exec) (hb : c.code = cc) {j : Fin 4} (hd : decode cc pc = .ok ((Instr.lload_n j), mm_ln (Instr.lload_n j))) (hl : mm_LH G ls L) (hs : mm_stp X h L st (pc, (Instr.lload_n j), pc + mm_ln (Instr.lload_n j), ax) = some (.inl (pc', L', st', op)))
    (k : op = none → ∀ ls', mm_LH G ls' L' → W p l e R s m args below meth c H locs cells slots Q (F0 m pc' ls' (st'.map (mm_dn G)))) : W p l e R s m args below meth c H locs cells slots Q (F0 m pc ls (st.map (mm_dn G))) := by
  obtain ⟨v, hv, hok, hq⟩ := mi_ld (show mm_ld _ L st j.val _ = some _ from hs)
  obtain ⟨x, rfl⟩ := mi_isL hok
  cases hq
  exact lv_lload_n hx hb hd rfl (mm_get_at hl hv) (k rfl ls hl)
theorem mp_dload (hx : p.tables.exec = Jvm.exec) (hb : c.code = cc) {j : Nat} (hd : decode cc pc = .ok ((Instr.dload j), mm_ln (Instr.dload j))) (hl : mm_LH G ls L) (hs : mm_stp X h L st (pc, (Instr.dload j), pc + mm_ln (Instr.dload j), ax) = some (.inl (pc', L', st', op)))
    (k : op = none → ∀ ls', mm_LH G ls' L' → W p l e R s m args below meth c H locs cells slots Q (F0 m pc' ls' (st'.map (mm_dn G)))) : W p l e R s m args below meth c H locs cells slots Q (F0 m pc ls (st.map (mm_dn G))) := by
  obtain ⟨v, hv, hok, hq⟩ := mi_ld (show mm_ld _ L st j _ = some _ from hs)
  obtain ⟨x, rfl⟩ := mi_isD hok
  cases hq
  exact lv_dload hx hb hd (mm_get_at hl hv) (k rfl ls hl)
theorem mp_dload_n (hx : p.tables.exec = Jvm.exec) (hb : c.code = cc) {j : Fin 4} (hd : decode cc pc = .ok ((Instr.dload_n j), mm_ln (Instr.dload_n j))) (hl : mm_LH G ls L) (hs : mm_stp X h L st (pc, (Instr.dload_n j), pc + mm_ln (Instr.dload_n j), ax) = some (.inl (pc', L', st', op)))
    (k : op = none → ∀ ls', mm_LH G ls' L' → W p l e R s m args below meth c H locs cells slots Q (F0 m pc' ls' (st'.map (mm_dn G)))) : W p l e R s m args below meth c H locs cells slots Q (F0 m pc ls (st.map (mm_dn G))) := by
  obtain ⟨v, hv, hok, hq⟩ := mi_ld (show mm_ld _ L st j.val _ = some _ from hs)
  obtain ⟨x, rfl⟩ := mi_isD hok
  cases hq
  exact lv_dload_n hx hb hd rfl (mm_get_at hl hv) (k rfl ls hl)
theorem mp_aload (hx : p.tables.exec = Jvm.exec) (hb : c.code = cc) {j : Nat} (hd : decode cc pc = .ok ((Instr.aload j), mm_ln (Instr.aload j))) (hl : mm_LH G ls L) (hs : mm_stp X h L st (pc, (Instr.aload j), pc + mm_ln (Instr.aload j), ax) = some (.inl (pc', L', st', op)))
    (k : op = none → ∀ ls', mm_LH G ls' L' → W p l e R s m args below meth c H locs cells slots Q (F0 m pc' ls' (st'.map (mm_dn G)))) : W p l e R s m args below meth c H locs cells slots Q (F0 m pc ls (st.map (mm_dn G))) := by
  obtain ⟨v, hv, hok, hq⟩ := mi_ld (show mm_ld _ L st j _ = some _ from hs)
  obtain ⟨o, ho⟩ := mi_isA (G := G) hok
  cases hq
  have h1 := mm_get_at hl hv
  have h2 := k rfl ls hl
  rw [List.map_cons] at h2
  rw [ho] at h1 h2
  cases o with
  | none => exact lv_aloadN hx hb hd h1 h2
  | some q => exact lv_aload hx hb hd h1 h2
theorem mp_aload_n (hx : p.tables.exec = Jvm.exec) (hb : c.code = cc) {j : Fin 4} (hd : decode cc pc = .ok ((Instr.aload_n j), mm_ln (Instr.aload_n j))) (hl : mm_LH G ls L) (hs : mm_stp X h L st (pc, (Instr.aload_n j), pc + mm_ln (Instr.aload_n j), ax) = some (.inl (pc', L', st', op)))
    (k : op = none → ∀ ls', mm_LH G ls' L' → W p l e R s m args below meth c H locs cells slots Q (F0 m pc' ls' (st'.map (mm_dn G)))) : W p l e R s m args below meth c H locs cells slots Q (F0 m pc ls (st.map (mm_dn G))) := by
  obtain ⟨v, hv, hok, hq⟩ := mi_ld (show mm_ld _ L st j.val _ = some _ from hs)
  obtain ⟨o, ho⟩ := mi_isA (G := G) hok
  cases hq
  have h1 := mm_get_at hl hv
  have h2 := k rfl ls hl
  rw [List.map_cons] at h2
  rw [ho] at h1 h2
  cases o with
  | none => exact lv_aload_nN hx hb hd rfl h1 h2
  | some q => exact lv_aload_n hx hb hd rfl h1 h2
theorem mp_istore (hx : p.tables.exec = Jvm.exec) (hb : c.code = cc) {j : Nat} (hd : decode cc pc = .ok ((Instr.istore j), mm_ln (Instr.istore j))) (hl : mm_LH G ls L) (hs : mm_stp X h L st (pc, (Instr.istore j), pc + mm_ln (Instr.istore j), ax) = some (.inl (pc', L', st', op)))
    (k : op = none → ∀ ls', mm_LH G ls' L' → W p l e R s m args below meth c H locs cells slots Q (F0 m pc' ls' (st'.map (mm_dn G)))) : W p l e R s m args below meth c H locs cells slots Q (F0 m pc ls (st.map (mm_dn G))) := by
  obtain ⟨v, r, L1, rfl, hok, hS, hq⟩ := mi_s1 (show mm_s1 _ L st j _ = some _ from hs)
  obtain ⟨x, rfl⟩ := mi_isI hok
  cases hq
  exact lv_istore hx hb hd hl (mm_set1_keep hS).1 rfl (fun ls' h' => k rfl ls' (mm_LH1 hS h'))
theorem mp_istore_n (hx : p.tables.exec = Jvm.exec) (hb : c.code = cc) {j : Fin 4} (hd : decode cc pc = .ok ((Instr.istore_n j), mm_ln (Instr.istore_n j))) (hl : mm_LH G ls L) (hs : mm_stp X h L st (pc, (Instr.istore_n j), pc + mm_ln (Instr.istore_n j), ax) = some (.inl (pc', L', st', op)))
    (k : op = none → ∀ ls', mm_LH G ls' L' → W p l e R s m args below meth c H locs cells slots Q (F0 m pc' ls' (st'.map (mm_dn G)))) : W p l e R s m args below meth c H locs cells slots Q (F0 m pc ls (st.map (mm_dn G))) := by
  obtain ⟨v, r, L1, rfl, hok, hS, hq⟩ := mi_s1 (show mm_s1 _ L st j.val _ = some _ from hs)
  obtain ⟨x, rfl⟩ := mi_isI hok
  cases hq
  exact lv_istore_n hx hb hd rfl hl (mm_set1_keep hS).1 rfl (fun ls' h' => k rfl ls' (mm_LH1 hS h'))
theorem mp_lstore (hx : p.tables.exec = Jvm.exec) (hb : c.code = cc) {j : Nat} (hd : decode cc pc = .ok ((Instr.lstore j), mm_ln (Instr.lstore j))) (hl : mm_LH G ls L) (hs : mm_stp X h L st (pc, (Instr.lstore j), pc + mm_ln (Instr.lstore j), ax) = some (.inl (pc', L', st', op)))
    (k : op = none → ∀ ls', mm_LH G ls' L' → W p l e R s m args below meth c H locs cells slots Q (F0 m pc' ls' (st'.map (mm_dn G)))) : W p l e R s m args below meth c H locs cells slots Q (F0 m pc ls (st.map (mm_dn G))) := by
  obtain ⟨v, r, L1, rfl, hok, hS, hq⟩ := mi_s2 (show mm_s2 _ L st j _ = some _ from hs)
  obtain ⟨x, rfl⟩ := mi_isL hok
  cases hq
  exact lv_lstore hx hb hd hl (mm_set2_keep hS).1 rfl (fun ls' h' => k rfl ls' (mm_LH2 hS h'))
theorem mp_dstore (hx : p.tables.exec = Jvm.exec) (hb : c.code = cc) {j : Nat} (hd : decode cc pc = .ok ((Instr.dstore j), mm_ln (Instr.dstore j))) (hl : mm_LH G ls L) (hs : mm_stp X h L st (pc, (Instr.dstore j), pc + mm_ln (Instr.dstore j), ax) = some (.inl (pc', L', st', op)))
    (k : op = none → ∀ ls', mm_LH G ls' L' → W p l e R s m args below meth c H locs cells slots Q (F0 m pc' ls' (st'.map (mm_dn G)))) : W p l e R s m args below meth c H locs cells slots Q (F0 m pc ls (st.map (mm_dn G))) := by
  obtain ⟨v, r, L1, rfl, hok, hS, hq⟩ := mi_s2 (show mm_s2 _ L st j _ = some _ from hs)
  obtain ⟨x, rfl⟩ := mi_isD hok
  cases hq
  exact lv_dstore hx hb hd hl (mm_set2_keep hS).1 rfl (fun ls' h' => k rfl ls' (mm_LH2 hS h'))
theorem mp_astore (hx : p.tables.exec = Jvm.exec) (hb : c.code = cc) {j : Nat} (hd : decode cc pc = .ok ((Instr.astore j), mm_ln (Instr.astore j))) (hl : mm_LH G ls L) (hs : mm_stp X h L st (pc, (Instr.astore j), pc + mm_ln (Instr.astore j), ax) = some (.inl (pc', L', st', op)))
    (k : op = none → ∀ ls', mm_LH G ls' L' → W p l e R s m args below meth c H locs cells slots Q (F0 m pc' ls' (st'.map (mm_dn G)))) : W p l e R s m args below meth c H locs cells slots Q (F0 m pc ls (st.map (mm_dn G))) := by
  obtain ⟨v, r, L1, rfl, hok, hS, hq⟩ := mi_s1 (show mm_s1 _ L st j _ = some _ from hs)
  obtain ⟨o, ho⟩ := mi_isA (G := G) hok
  cases hq
  have h2 := fun ls' (h' : lv_has ls' L.length ((j, mm_dn G v) :: (mm_al G 0 L).filter (fun q => !(q.1 == j) && !(q.1 + 1 == j && q.2.category == 2)))) => k rfl ls' (mm_LH1 hS h')
  rw [List.map_cons]
  rw [ho] at h2 ⊢
  cases o with
  | none => exact lv_astoreN hx hb hd hl (mm_set1_keep hS).1 rfl h2
  | some q => exact lv_astore hx hb hd hl (mm_set1_keep hS).1 rfl h2
theorem mp_astore_n (hx : p.tables.exec = Jvm.exec) (hb : c.code = cc) {j : Fin 4} (hd : decode cc pc = .ok ((Instr.astore_n j), mm_ln (Instr.astore_n j))) (hl : mm_LH G ls L) (hs : mm_stp X h L st (pc, (Instr.astore_n j), pc + mm_ln (Instr.astore_n j), ax) = some (.inl (pc', L', st', op)))
    (k : op = none → ∀ ls', mm_LH G ls' L' → W p l e R s m args below meth c H locs cells slots Q (F0 m pc' ls' (st'.map (mm_dn G)))) : W p l e R s m args below meth c H locs cells slots Q (F0 m pc ls (st.map (mm_dn G))) := by
  obtain ⟨v, r, L1, rfl, hok, hS, hq⟩ := mi_s1 (show mm_s1 _ L st j.val _ = some _ from hs)
  obtain ⟨o, ho⟩ := mi_isA (G := G) hok
  cases hq
  have h2 := fun ls' (h' : lv_has ls' L.length ((j.val, mm_dn G v) :: (mm_al G 0 L).filter (fun q => !(q.1 == j.val) && !(q.1 + 1 == j.val && q.2.category == 2)))) => k rfl ls' (mm_LH1 hS h')
  rw [List.map_cons]
  rw [ho] at h2 ⊢
  cases o with
  | none => exact lv_astore_nN hx hb hd rfl hl (mm_set1_keep hS).1 rfl h2
  | some q => exact lv_astore_n hx hb hd rfl hl (mm_set1_keep hS).1 rfl h2
theorem mp_iconst (hx : p.tables.exec = Jvm.exec) (hb : c.code = cc) {n : Int} (hd : decode cc pc = .ok ((Instr.iconst n), mm_ln (Instr.iconst n))) (hl : mm_LH G ls L) (hs : mm_stp X h L st (pc, (Instr.iconst n), pc + mm_ln (Instr.iconst n), ax) = some (.inl (pc', L', st', op)))
    (k : op = none → ∀ ls', mm_LH G ls' L' → W p l e R s m args below meth c H locs cells slots Q (F0 m pc' ls' (st'.map (mm_dn G)))) : W p l e R s m args below meth c H locs cells slots Q (F0 m pc ls (st.map (mm_dn G))) := by
  have hs := (show mm_fI (Int32.ofInt n) (fun z => mm_go _ L (.int z :: st)) = some _ from hs)
  rw [mm_fI_eq] at hs
  cases mi_go hs
  exact lv_iconst hx hb hd rfl (k rfl ls hl)
theorem mp_bipush (hx : p.tables.exec = Jvm.exec) (hb : c.code = cc) {n : Int} (hd : decode cc pc = .ok ((Instr.bipush n), mm_ln (Instr.bipush n))) (hl : mm_LH G ls L) (hs : mm_stp X h L st (pc, (Instr.bipush n), pc + mm_ln (Instr.bipush n), ax) = some (.inl (pc', L', st', op)))
    (k : op = none → ∀ ls', mm_LH G ls' L' → W p l e R s m args below meth c H locs cells slots Q (F0 m pc' ls' (st'.map (mm_dn G)))) : W p l e R s m args below meth c H locs cells slots Q (F0 m pc ls (st.map (mm_dn G))) := by
  have hs := (show mm_fI ((Int8.ofInt n).toInt32) (fun z => mm_go _ L (.int z :: st)) = some _ from hs)
  rw [mm_fI_eq] at hs
  cases mi_go hs
  exact lv_bipush hx hb hd rfl (k rfl ls hl)
theorem mp_sipush (hx : p.tables.exec = Jvm.exec) (hb : c.code = cc) {n : Int} (hd : decode cc pc = .ok ((Instr.sipush n), mm_ln (Instr.sipush n))) (hl : mm_LH G ls L) (hs : mm_stp X h L st (pc, (Instr.sipush n), pc + mm_ln (Instr.sipush n), ax) = some (.inl (pc', L', st', op)))
    (k : op = none → ∀ ls', mm_LH G ls' L' → W p l e R s m args below meth c H locs cells slots Q (F0 m pc' ls' (st'.map (mm_dn G)))) : W p l e R s m args below meth c H locs cells slots Q (F0 m pc ls (st.map (mm_dn G))) := by
  have hs := (show mm_fI ((Int16.ofInt n).toInt32) (fun z => mm_go _ L (.int z :: st)) = some _ from hs)
  rw [mm_fI_eq] at hs
  cases mi_go hs
  exact lv_sipush hx hb hd rfl (k rfl ls hl)
theorem mp_lconst (hx : p.tables.exec = Jvm.exec) (hb : c.code = cc) {n : Fin 2} (hd : decode cc pc = .ok ((Instr.lconst n), mm_ln (Instr.lconst n))) (hl : mm_LH G ls L) (hs : mm_stp X h L st (pc, (Instr.lconst n), pc + mm_ln (Instr.lconst n), ax) = some (.inl (pc', L', st', op)))
    (k : op = none → ∀ ls', mm_LH G ls' L' → W p l e R s m args below meth c H locs cells slots Q (F0 m pc' ls' (st'.map (mm_dn G)))) : W p l e R s m args below meth c H locs cells slots Q (F0 m pc ls (st.map (mm_dn G))) := by
  cases mi_go (show mm_go _ L _ = some _ from hs)
  exact lv_lconst hx hb hd rfl (k rfl ls hl)
theorem mp_null (hx : p.tables.exec = Jvm.exec) (hb : c.code = cc) (hd : decode cc pc = .ok (Instr.aconst_null, mm_ln Instr.aconst_null)) (hl : mm_LH G ls L) (hs : mm_stp X h L st (pc, Instr.aconst_null, pc + mm_ln Instr.aconst_null, ax) = some (.inl (pc', L', st', op)))
    (k : op = none → ∀ ls', mm_LH G ls' L' → W p l e R s m args below meth c H locs cells slots Q (F0 m pc' ls' (st'.map (mm_dn G)))) : W p l e R s m args below meth c H locs cells slots Q (F0 m pc ls (st.map (mm_dn G))) := by
  cases mi_go (show mm_go _ L _ = some _ from hs)
  exact lv_null hx hb hd (k rfl ls hl)
theorem mp_fconst0 (hx : p.tables.exec = Jvm.exec) (hb : c.code = cc) (hd : decode cc pc = .ok ((Instr.fconst 0), mm_ln (Instr.fconst 0))) (hl : mm_LH G ls L) (hs : mm_stp X h L st (pc, (Instr.fconst 0), pc + mm_ln (Instr.fconst 0), ax) = some (.inl (pc', L', st', op)))
    (k : op = none → ∀ ls', mm_LH G ls' L' → W p l e R s m args below meth c H locs cells slots Q (F0 m pc' ls' (st'.map (mm_dn G)))) : W p l e R s m args below meth c H locs cells slots Q (F0 m pc ls (st.map (mm_dn G))) := by
  cases mi_go (show mm_go _ L _ = some _ from hs)
  exact lv_fconst0 hx hb hd (k rfl ls hl)
theorem mp_dconst0 (hx : p.tables.exec = Jvm.exec) (hb : c.code = cc) (hd : decode cc pc = .ok ((Instr.dconst 0), mm_ln (Instr.dconst 0))) (hl : mm_LH G ls L) (hs : mm_stp X h L st (pc, (Instr.dconst 0), pc + mm_ln (Instr.dconst 0), ax) = some (.inl (pc', L', st', op)))
    (k : op = none → ∀ ls', mm_LH G ls' L' → W p l e R s m args below meth c H locs cells slots Q (F0 m pc' ls' (st'.map (mm_dn G)))) : W p l e R s m args below meth c H locs cells slots Q (F0 m pc ls (st.map (mm_dn G))) := by
  cases mi_go (show mm_go _ L _ = some _ from hs)
  exact lv_dconst0 hx hb hd (k rfl ls hl)
theorem mp_iadd (hx : p.tables.exec = Jvm.exec) (hb : c.code = cc) (hd : decode cc pc = .ok (Instr.iadd, mm_ln Instr.iadd)) (hl : mm_LH G ls L) (hs : mm_stp X h L st (pc, Instr.iadd, pc + mm_ln Instr.iadd, ax) = some (.inl (pc', L', st', op)))
    (k : op = none → ∀ ls', mm_LH G ls' L' → W p l e R s m args below meth c H locs cells slots Q (F0 m pc' ls' (st'.map (mm_dn G)))) : W p l e R s m args below meth c H locs cells slots Q (F0 m pc ls (st.map (mm_dn G))) := by
  obtain ⟨x, y, r, rfl, hq⟩ := mi_i2 (show mm_i2 _ L st _ = some _ from hs)
  cases hq
  exact lv_iadd hx hb hd (k rfl ls hl)
theorem mp_isub (hx : p.tables.exec = Jvm.exec) (hb : c.code = cc) (hd : decode cc pc = .ok (Instr.isub, mm_ln Instr.isub)) (hl : mm_LH G ls L) (hs : mm_stp X h L st (pc, Instr.isub, pc + mm_ln Instr.isub, ax) = some (.inl (pc', L', st', op)))
    (k : op = none → ∀ ls', mm_LH G ls' L' → W p l e R s m args below meth c H locs cells slots Q (F0 m pc' ls' (st'.map (mm_dn G)))) : W p l e R s m args below meth c H locs cells slots Q (F0 m pc ls (st.map (mm_dn G))) := by
  obtain ⟨x, y, r, rfl, hq⟩ := mi_i2 (show mm_i2 _ L st _ = some _ from hs)
  cases hq
  exact lv_isub hx hb hd (k rfl ls hl)
theorem mp_imul (hx : p.tables.exec = Jvm.exec) (hb : c.code = cc) (hd : decode cc pc = .ok (Instr.imul, mm_ln Instr.imul)) (hl : mm_LH G ls L) (hs : mm_stp X h L st (pc, Instr.imul, pc + mm_ln Instr.imul, ax) = some (.inl (pc', L', st', op)))
    (k : op = none → ∀ ls', mm_LH G ls' L' → W p l e R s m args below meth c H locs cells slots Q (F0 m pc' ls' (st'.map (mm_dn G)))) : W p l e R s m args below meth c H locs cells slots Q (F0 m pc ls (st.map (mm_dn G))) := by
  obtain ⟨x, y, r, rfl, hq⟩ := mi_i2 (show mm_i2 _ L st _ = some _ from hs)
  cases hq
  exact lv_imul hx hb hd (k rfl ls hl)
theorem mp_iand (hx : p.tables.exec = Jvm.exec) (hb : c.code = cc) (hd : decode cc pc = .ok (Instr.iand, mm_ln Instr.iand)) (hl : mm_LH G ls L) (hs : mm_stp X h L st (pc, Instr.iand, pc + mm_ln Instr.iand, ax) = some (.inl (pc', L', st', op)))
    (k : op = none → ∀ ls', mm_LH G ls' L' → W p l e R s m args below meth c H locs cells slots Q (F0 m pc' ls' (st'.map (mm_dn G)))) : W p l e R s m args below meth c H locs cells slots Q (F0 m pc ls (st.map (mm_dn G))) := by
  obtain ⟨x, y, r, rfl, hq⟩ := mi_i2 (show mm_i2 _ L st _ = some _ from hs)
  cases hq
  exact lv_iand hx hb hd (k rfl ls hl)
theorem mp_ior (hx : p.tables.exec = Jvm.exec) (hb : c.code = cc) (hd : decode cc pc = .ok (Instr.ior, mm_ln Instr.ior)) (hl : mm_LH G ls L) (hs : mm_stp X h L st (pc, Instr.ior, pc + mm_ln Instr.ior, ax) = some (.inl (pc', L', st', op)))
    (k : op = none → ∀ ls', mm_LH G ls' L' → W p l e R s m args below meth c H locs cells slots Q (F0 m pc' ls' (st'.map (mm_dn G)))) : W p l e R s m args below meth c H locs cells slots Q (F0 m pc ls (st.map (mm_dn G))) := by
  obtain ⟨x, y, r, rfl, hq⟩ := mi_i2 (show mm_i2 _ L st _ = some _ from hs)
  cases hq
  exact lv_ior hx hb hd (k rfl ls hl)
theorem mp_ixor (hx : p.tables.exec = Jvm.exec) (hb : c.code = cc) (hd : decode cc pc = .ok (Instr.ixor, mm_ln Instr.ixor)) (hl : mm_LH G ls L) (hs : mm_stp X h L st (pc, Instr.ixor, pc + mm_ln Instr.ixor, ax) = some (.inl (pc', L', st', op)))
    (k : op = none → ∀ ls', mm_LH G ls' L' → W p l e R s m args below meth c H locs cells slots Q (F0 m pc' ls' (st'.map (mm_dn G)))) : W p l e R s m args below meth c H locs cells slots Q (F0 m pc ls (st.map (mm_dn G))) := by
  obtain ⟨x, y, r, rfl, hq⟩ := mi_i2 (show mm_i2 _ L st _ = some _ from hs)
  cases hq
  exact lv_ixor hx hb hd (k rfl ls hl)
theorem mp_ishl (hx : p.tables.exec = Jvm.exec) (hb : c.code = cc) (hd : decode cc pc = .ok (Instr.ishl, mm_ln Instr.ishl)) (hl : mm_LH G ls L) (hs : mm_stp X h L st (pc, Instr.ishl, pc + mm_ln Instr.ishl, ax) = some (.inl (pc', L', st', op)))
    (k : op = none → ∀ ls', mm_LH G ls' L' → W p l e R s m args below meth c H locs cells slots Q (F0 m pc' ls' (st'.map (mm_dn G)))) : W p l e R s m args below meth c H locs cells slots Q (F0 m pc ls (st.map (mm_dn G))) := by
  obtain ⟨x, y, r, rfl, hq⟩ := mi_i2 (show mm_i2 _ L st _ = some _ from hs)
  cases hq
  exact lv_ishl hx hb hd (k rfl ls hl)
theorem mp_ishr (hx : p.tables.exec = Jvm.exec) (hb : c.code = cc) (hd : decode cc pc = .ok (Instr.ishr, mm_ln Instr.ishr)) (hl : mm_LH G ls L) (hs : mm_stp X h L st (pc, Instr.ishr, pc + mm_ln Instr.ishr, ax) = some (.inl (pc', L', st', op)))
    (k : op = none → ∀ ls', mm_LH G ls' L' → W p l e R s m args below meth c H locs cells slots Q (F0 m pc' ls' (st'.map (mm_dn G)))) : W p l e R s m args below meth c H locs cells slots Q (F0 m pc ls (st.map (mm_dn G))) := by
  obtain ⟨x, y, r, rfl, hq⟩ := mi_i2 (show mm_i2 _ L st _ = some _ from hs)
  cases hq
  exact lv_ishr hx hb hd (k rfl ls hl)
theorem mp_iushr (hx : p.tables.exec = Jvm.exec) (hb : c.code = cc) (hd : decode cc pc = .ok (Instr.iushr, mm_ln Instr.iushr)) (hl : mm_LH G ls L) (hs : mm_stp X h L st (pc, Instr.iushr, pc + mm_ln Instr.iushr, ax) = some (.inl (pc', L', st', op)))
    (k : op = none → ∀ ls', mm_LH G ls' L' → W p l e R s m args below meth c H locs cells slots Q (F0 m pc' ls' (st'.map (mm_dn G)))) : W p l e R s m args below meth c H locs cells slots Q (F0 m pc ls (st.map (mm_dn G))) := by
  obtain ⟨x, y, r, rfl, hq⟩ := mi_i2 (show mm_i2 _ L st _ = some _ from hs)
  cases hq
  exact lv_iushr hx hb hd rfl (k rfl ls hl)
theorem mp_idiv (hx : p.tables.exec = Jvm.exec) (hb : c.code = cc) (hd : decode cc pc = .ok (Instr.idiv, mm_ln Instr.idiv)) (hl : mm_LH G ls L) (hs : mm_stp X h L st (pc, Instr.idiv, pc + mm_ln Instr.idiv, ax) = some (.inl (pc', L', st', op)))
    (k : op = none → ∀ ls', mm_LH G ls' L' → W p l e R s m args below meth c H locs cells slots Q (F0 m pc' ls' (st'.map (mm_dn G)))) : W p l e R s m args below meth c H locs cells slots Q (F0 m pc ls (st.map (mm_dn G))) := by
  simp only [mm_stp] at hs
  split at hs
  · rename_i y r0
    split at hs
    · cases hs
    · rename_i hz
      obtain ⟨x, y2, r, he, hq⟩ := mi_i2 hs
      cases he
      cases hq
      exact lv_idiv hx hb hd (fun q => by rw [(mm_eq_iff y 0).mpr q] at hz; cases hz) (k rfl ls hl)
  · cases hs
theorem mp_irem (hx : p.tables.exec = Jvm.exec) (hb : c.code = cc) (hd : decode cc pc = .ok (Instr.irem, mm_ln Instr.irem)) (hl : mm_LH G ls L) (hs : mm_stp X h L st (pc, Instr.irem, pc + mm_ln Instr.irem, ax) = some (.inl (pc', L', st', op)))
    (k : op = none → ∀ ls', mm_LH G ls' L' → W p l e R s m args below meth c H locs cells slots Q (F0 m pc' ls' (st'.map (mm_dn G)))) : W p l e R s m args below meth c H locs cells slots Q (F0 m pc ls (st.map (mm_dn G))) := by
  simp only [mm_stp] at hs
  split at hs
  · rename_i y r0
    split at hs
    · cases hs
    · rename_i hz
      obtain ⟨x, y2, r, he, hq⟩ := mi_i2 hs
      cases he
      cases hq
      exact lv_irem hx hb hd (fun q => by rw [(mm_eq_iff y 0).mpr q] at hz; cases hz) (k rfl ls hl)
  · cases hs
theorem mp_ineg (hx : p.tables.exec = Jvm.exec) (hb : c.code = cc) (hd : decode cc pc = .ok (Instr.ineg, mm_ln Instr.ineg)) (hl : mm_LH G ls L) (hs : mm_stp X h L st (pc, Instr.ineg, pc + mm_ln Instr.ineg, ax) = some (.inl (pc', L', st', op)))
    (k : op = none → ∀ ls', mm_LH G ls' L' → W p l e R s m args below meth c H locs cells slots Q (F0 m pc' ls' (st'.map (mm_dn G)))) : W p l e R s m args below meth c H locs cells slots Q (F0 m pc ls (st.map (mm_dn G))) := by
  obtain ⟨x, r, rfl, hq⟩ := mi_i1 (show mm_i1 _ L st _ = some _ from hs)
  cases hq
  exact lv_ineg hx hb hd (k rfl ls hl)
theorem mp_i2b (hx : p.tables.exec = Jvm.exec) (hb : c.code = cc) (hd : decode cc pc = .ok (Instr.i2b, mm_ln Instr.i2b)) (hl : mm_LH G ls L) (hs : mm_stp X h L st (pc, Instr.i2b, pc + mm_ln Instr.i2b, ax) = some (.inl (pc', L', st', op)))
    (k : op = none → ∀ ls', mm_LH G ls' L' → W p l e R s m args below meth c H locs cells slots Q (F0 m pc' ls' (st'.map (mm_dn G)))) : W p l e R s m args below meth c H locs cells slots Q (F0 m pc ls (st.map (mm_dn G))) := by
  obtain ⟨x, r, rfl, hq⟩ := mi_i1 (show mm_i1 _ L st _ = some _ from hs)
  cases hq
  exact lv_i2b hx hb hd rfl (k rfl ls hl)
theorem mp_i2c (hx : p.tables.exec = Jvm.exec) (hb : c.code = cc) (hd : decode cc pc = .ok (Instr.i2c, mm_ln Instr.i2c)) (hl : mm_LH G ls L) (hs : mm_stp X h L st (pc, Instr.i2c, pc + mm_ln Instr.i2c, ax) = some (.inl (pc', L', st', op)))
    (k : op = none → ∀ ls', mm_LH G ls' L' → W p l e R s m args below meth c H locs cells slots Q (F0 m pc' ls' (st'.map (mm_dn G)))) : W p l e R s m args below meth c H locs cells slots Q (F0 m pc ls (st.map (mm_dn G))) := by
  obtain ⟨x, r, rfl, hq⟩ := mi_i1 (show mm_i1 _ L st _ = some _ from hs)
  cases hq
  exact lv_i2c hx hb hd rfl (k rfl ls hl)
theorem mp_i2l (hx : p.tables.exec = Jvm.exec) (hb : c.code = cc) (hd : decode cc pc = .ok (Instr.i2l, mm_ln Instr.i2l)) (hl : mm_LH G ls L) (hs : mm_stp X h L st (pc, Instr.i2l, pc + mm_ln Instr.i2l, ax) = some (.inl (pc', L', st', op)))
    (k : op = none → ∀ ls', mm_LH G ls' L' → W p l e R s m args below meth c H locs cells slots Q (F0 m pc' ls' (st'.map (mm_dn G)))) : W p l e R s m args below meth c H locs cells slots Q (F0 m pc ls (st.map (mm_dn G))) := by
  simp only [mm_stp] at hs
  split at hs
  · rw [mm_fL_eq] at hs
    cases mi_go hs
    exact lv_i2l hx hb hd rfl (k rfl ls hl)
  · cases hs
theorem mp_lcmp (hx : p.tables.exec = Jvm.exec) (hb : c.code = cc) (hd : decode cc pc = .ok (Instr.lcmp, mm_ln Instr.lcmp)) (hl : mm_LH G ls L) (hs : mm_stp X h L st (pc, Instr.lcmp, pc + mm_ln Instr.lcmp, ax) = some (.inl (pc', L', st', op)))
    (k : op = none → ∀ ls', mm_LH G ls' L' → W p l e R s m args below meth c H locs cells slots Q (F0 m pc' ls' (st'.map (mm_dn G)))) : W p l e R s m args below meth c H locs cells slots Q (F0 m pc ls (st.map (mm_dn G))) := by
  simp only [mm_stp] at hs
  split at hs
  · rw [mm_fI_eq, mm_lcmp_eq] at hs
    cases mi_go hs
    exact W.lcmp hx hb hd (k rfl ls hl)
  · cases hs
theorem mp_i2f (hx : p.tables.exec = Jvm.exec) (hb : c.code = cc) (hd : decode cc pc = .ok (Instr.i2f, mm_ln Instr.i2f)) (hl : mm_LH G ls L) (hs : mm_stp X h L st (pc, Instr.i2f, pc + mm_ln Instr.i2f, ax) = some (.inl (pc', L', st', op)))
    (k : op = none → ∀ ls', mm_LH G ls' L' → W p l e R s m args below meth c H locs cells slots Q (F0 m pc' ls' (st'.map (mm_dn G)))) : W p l e R s m args below meth c H locs cells slots Q (F0 m pc ls (st.map (mm_dn G))) := by
  simp only [mm_stp] at hs
  split at hs
  · cases mi_go hs
    exact lv_i2f hx hb hd (k rfl ls hl)
  · cases hs
theorem mp_i2d (hx : p.tables.exec = Jvm.exec) (hb : c.code = cc) (hd : decode cc pc = .ok (Instr.i2d, mm_ln Instr.i2d)) (hl : mm_LH G ls L) (hs : mm_stp X h L st (pc, Instr.i2d, pc + mm_ln Instr.i2d, ax) = some (.inl (pc', L', st', op)))
    (k : op = none → ∀ ls', mm_LH G ls' L' → W p l e R s m args below meth c H locs cells slots Q (F0 m pc' ls' (st'.map (mm_dn G)))) : W p l e R s m args below meth c H locs cells slots Q (F0 m pc ls (st.map (mm_dn G))) := by
  simp only [mm_stp] at hs
  split at hs
  · cases mi_go hs
    exact lv_i2d hx hb hd (k rfl ls hl)
  · cases hs
theorem mp_fdiv (hx : p.tables.exec = Jvm.exec) (hb : c.code = cc) (hd : decode cc pc = .ok (Instr.fdiv, mm_ln Instr.fdiv)) (hl : mm_LH G ls L) (hs : mm_stp X h L st (pc, Instr.fdiv, pc + mm_ln Instr.fdiv, ax) = some (.inl (pc', L', st', op)))
    (k : op = none → ∀ ls', mm_LH G ls' L' → W p l e R s m args below meth c H locs cells slots Q (F0 m pc' ls' (st'.map (mm_dn G)))) : W p l e R s m args below meth c H locs cells slots Q (F0 m pc ls (st.map (mm_dn G))) := by
  simp only [mm_stp] at hs
  split at hs
  · split at hs
    · rename_i hn
      cases mi_go hs
      exact lv_fdiv hx hb hd hn (k rfl ls hl)
    · cases hs
  · cases hs
theorem mp_ddiv (hx : p.tables.exec = Jvm.exec) (hb : c.code = cc) (hd : decode cc pc = .ok (Instr.ddiv, mm_ln Instr.ddiv)) (hl : mm_LH G ls L) (hs : mm_stp X h L st (pc, Instr.ddiv, pc + mm_ln Instr.ddiv, ax) = some (.inl (pc', L', st', op)))
    (k : op = none → ∀ ls', mm_LH G ls' L' → W p l e R s m args below meth c H locs cells slots Q (F0 m pc' ls' (st'.map (mm_dn G)))) : W p l e R s m args below meth c H locs cells slots Q (F0 m pc ls (st.map (mm_dn G))) := by
  simp only [mm_stp] at hs
  split at hs
  · split at hs
    · rename_i hn
      cases mi_go hs
      exact lv_ddiv hx hb hd hn (k rfl ls hl)
    · cases hs
  · cases hs
theorem mp_f2d (hx : p.tables.exec = Jvm.exec) (hb : c.code = cc) (hd : decode cc pc = .ok (Instr.f2d, mm_ln Instr.f2d)) (hl : mm_LH G ls L) (hs : mm_stp X h L st (pc, Instr.f2d, pc + mm_ln Instr.f2d, ax) = some (.inl (pc', L', st', op)))
    (k : op = none → ∀ ls', mm_LH G ls' L' → W p l e R s m args below meth c H locs cells slots Q (F0 m pc' ls' (st'.map (mm_dn G)))) : W p l e R s m args below meth c H locs cells slots Q (F0 m pc ls (st.map (mm_dn G))) := by
  simp only [mm_stp] at hs
  split at hs
  · split at hs
    · rename_i hn
      cases mi_go hs
      exact lv_f2d hx hb hd hn (k rfl ls hl)
    · cases hs
  · cases hs
theorem mp_dcmp (hx : p.tables.exec = Jvm.exec) (hb : c.code = cc) {o : CmpOp} (hd : decode cc pc = .ok ((Instr.dcmp o), mm_ln (Instr.dcmp o))) (hl : mm_LH G ls L) (hs : mm_stp X h L st (pc, (Instr.dcmp o), pc + mm_ln (Instr.dcmp o), ax) = some (.inl (pc', L', st', op)))
    (k : op = none → ∀ ls', mm_LH G ls' L' → W p l e R s m args below meth c H locs cells slots Q (F0 m pc' ls' (st'.map (mm_dn G)))) : W p l e R s m args below meth c H locs cells slots Q (F0 m pc ls (st.map (mm_dn G))) := by
  simp only [mm_stp] at hs
  split at hs
  · cases mi_go hs
    exact lv_dcmp hx hb hd (k rfl ls hl)
  · cases hs
theorem mp_dup (hx : p.tables.exec = Jvm.exec) (hb : c.code = cc) (hd : decode cc pc = .ok (Instr.dup, mm_ln Instr.dup)) (hl : mm_LH G ls L) (hs : mm_stp X h L st (pc, Instr.dup, pc + mm_ln Instr.dup, ax) = some (.inl (pc', L', st', op)))
    (k : op = none → ∀ ls', mm_LH G ls' L' → W p l e R s m args below meth c H locs cells slots Q (F0 m pc' ls' (st'.map (mm_dn G)))) : W p l e R s m args below meth c H locs cells slots Q (F0 m pc ls (st.map (mm_dn G))) := by
  simp only [mm_stp] at hs
  split at hs
  · split at hs
    · cases hs
    · rename_i hc
      cases mi_go hs
      exact lv_dup hx hb hd (mi_c1 hc) (k rfl ls hl)
  · cases hs
theorem mp_pop (hx : p.tables.exec = Jvm.exec) (hb : c.code = cc) (hd : decode cc pc = .ok (Instr.pop, mm_ln Instr.pop)) (hl : mm_LH G ls L) (hs : mm_stp X h L st (pc, Instr.pop, pc + mm_ln Instr.pop, ax) = some (.inl (pc', L', st', op)))
    (k : op = none → ∀ ls', mm_LH G ls' L' → W p l e R s m args below meth c H locs cells slots Q (F0 m pc' ls' (st'.map (mm_dn G)))) : W p l e R s m args below meth c H locs cells slots Q (F0 m pc ls (st.map (mm_dn G))) := by
  simp only [mm_stp] at hs
  split at hs
  · split at hs
    · cases hs
    · rename_i hc
      cases mi_go hs
      exact lv_pop hx hb hd (mi_c1 hc) (k rfl ls hl)
  · cases hs
theorem mp_dup_x1 (hx : p.tables.exec = Jvm.exec) (hb : c.code = cc) (hd : decode cc pc = .ok (Instr.dup_x1, mm_ln Instr.dup_x1)) (hl : mm_LH G ls L) (hs : mm_stp X h L st (pc, Instr.dup_x1, pc + mm_ln Instr.dup_x1, ax) = some (.inl (pc', L', st', op)))
    (k : op = none → ∀ ls', mm_LH G ls' L' → W p l e R s m args below meth c H locs cells slots Q (F0 m pc' ls' (st'.map (mm_dn G)))) : W p l e R s m args below meth c H locs cells slots Q (F0 m pc ls (st.map (mm_dn G))) := by
  simp only [mm_stp] at hs
  split at hs
  · split at hs
    · cases hs
    · rename_i hc
      cases mi_go hs
      exact lv_dup_x1 hx hb hd (mi_c1 (fun q => hc (Or.inl q))) (mi_c1 (fun q => hc (Or.inr q))) (k rfl ls hl)
  · cases hs
theorem mp_dup2 (hx : p.tables.exec = Jvm.exec) (hb : c.code = cc) (hd : decode cc pc = .ok (Instr.dup2, mm_ln Instr.dup2)) (hl : mm_LH G ls L) (hs : mm_stp X h L st (pc, Instr.dup2, pc + mm_ln Instr.dup2, ax) = some (.inl (pc', L', st', op)))
    (k : op = none → ∀ ls', mm_LH G ls' L' → W p l e R s m args below meth c H locs cells slots Q (F0 m pc' ls' (st'.map (mm_dn G)))) : W p l e R s m args below meth c H locs cells slots Q (F0 m pc ls (st.map (mm_dn G))) := by
  simp only [mm_stp] at hs
  split at hs
  · split at hs
    · cases hs
    · rename_i hc
      cases mi_go hs
      exact lv_dup2_11 hx hb hd (mi_c1 (fun q => hc (Or.inl q))) (mi_c1 (fun q => hc (Or.inr q))) (k rfl ls hl)
  · cases hs
theorem mp_iinc (hx : p.tables.exec = Jvm.exec) (hb : c.code = cc) {j : Nat} {n : Int} (hd : decode cc pc = .ok ((Instr.iinc j n), mm_ln (Instr.iinc j n))) (hl : mm_LH G ls L) (hs : mm_stp X h L st (pc, (Instr.iinc j n), pc + mm_ln (Instr.iinc j n), ax) = some (.inl (pc', L', st', op)))
    (k : op = none → ∀ ls', mm_LH G ls' L' → W p l e R s m args below meth c H locs cells slots Q (F0 m pc' ls' (st'.map (mm_dn G)))) : W p l e R s m args below meth c H locs cells slots Q (F0 m pc ls (st.map (mm_dn G))) := by
  simp only [mm_stp] at hs
  split at hs
  · rename_i x hg
    rw [mm_fI_eq] at hs
    split at hs
    · rename_i L1 hS
      cases mi_go hs
      obtain ⟨kk, hk⟩ : ∃ kk : Nat, (mm_al G 0 L)[kk]? = some (j, .int x) := by
        have hm : (j, mm_dn G (.int x)) ∈ mm_al G 0 L := (mm_al_mem G L 0 _).mpr ⟨j, .int x, by rw [Nat.zero_add], by
          unfold mm_get at hg
          cases hL : L[j]? with
          | none => rw [hL] at hg; cases hg
          | some o => rw [hL] at hg; exact congrArg some hg⟩
        exact List.getElem?_of_mem hm
      exact lv_iinc hx hb hd hl hk rfl (mm_set1_keep hS).1 rfl (fun ls' h' => k rfl ls' (mm_LH1 hS h'))
    · cases hs
  · cases hs
theorem mp_ifCond (hx : p.tables.exec = Jvm.exec) (hb : c.code = cc) {o : ClassFile.Cond} {off : Int} {own mn : String} {N : Nat → Option mm_N} (hd : decode cc pc = .ok ((Instr.ifCond o off), mm_ln (Instr.ifCond o off))) (hl : mm_LH G ls L) (hr : mm_rest own mn N cc pc (.ifCond o off) nx ax = true) (hs : mm_stp X h L st (pc, (Instr.ifCond o off), pc + mm_ln (Instr.ifCond o off), ax) = some (.inl (pc', L', st', op)))
    (k : op = none → ∀ ls', mm_LH G ls' L' → W p l e R s m args below meth c H locs cells slots Q (F0 m pc' ls' (st'.map (mm_dn G)))) : W p l e R s m args below meth c H locs cells slots Q (F0 m pc ls (st.map (mm_dn G))) := by
  simp only [mm_stp] at hs
  split at hs
  · rename_i x r
    obtain ⟨t, rfl, hq⟩ := mi_br hs
    have ht : (pc : Int) + off = (t : Int) := of_decide_eq_true hr
    have e := mm_cnd_iff o x 0
    rcases hq with ⟨hc, hq⟩ | ⟨hc, hq⟩
    · cases hq
      have e := e.mp hc
      cases o
      · exact lv_if_eq hx hb hd ht (fun _ => k rfl ls hl) (fun q => absurd e q)
      · exact lv_if_ne hx hb hd ht (fun _ => k rfl ls hl) (fun q => absurd q e)
      · exact lv_if_lt hx hb hd ht (fun _ => k rfl ls hl) (fun q => absurd e q)
      · exact lv_if_ge hx hb hd ht (fun _ => k rfl ls hl) (fun q => absurd (Int32.not_lt.mp e) q)
      · exact lv_if_gt hx hb hd ht (fun _ => k rfl ls hl) (fun q => absurd e q)
      · exact lv_if_le hx hb hd ht (fun _ => k rfl ls hl) (fun q => absurd (Int32.not_lt.mp e) q)
    · cases hq
      have e := fun z => Bool.false_ne_true (hc.symm.trans (e.mpr z))
      cases o
      · exact lv_if_eq hx hb hd ht (fun q => absurd q e) (fun _ => k rfl ls hl)
      · exact lv_if_ne hx hb hd ht (fun q => absurd q e) (fun _ => k rfl ls hl)
      · exact lv_if_lt hx hb hd ht (fun q => absurd q e) (fun _ => k rfl ls hl)
      · exact lv_if_ge hx hb hd ht (fun q => absurd (Int32.not_lt.mpr q) e) (fun _ => k rfl ls hl)
      · exact lv_if_gt hx hb hd ht (fun q => absurd q e) (fun _ => k rfl ls hl)
      · exact lv_if_le hx hb hd ht (fun q => absurd (Int32.not_lt.mpr q) e) (fun _ => k rfl ls hl)
  · cases hs
theorem mp_if_icmp (hx : p.tables.exec = Jvm.exec) (hb : c.code = cc) {o : ClassFile.Cond} {off : Int} {own mn : String} {N : Nat → Option mm_N} (hd : decode cc pc = .ok ((Instr.if_icmp o off), mm_ln (Instr.if_icmp o off))) (hl : mm_LH G ls L) (hr : mm_rest own mn N cc pc (.if_icmp o off) nx ax = true) (hs : mm_stp X h L st (pc, (Instr.if_icmp o off), pc + mm_ln (Instr.if_icmp o off), ax) = some (.inl (pc', L', st', op)))
    (k : op = none → ∀ ls', mm_LH G ls' L' → W p l e R s m args below meth c H locs cells slots Q (F0 m pc' ls' (st'.map (mm_dn G)))) : W p l e R s m args below meth c H locs cells slots Q (F0 m pc ls (st.map (mm_dn G))) := by
  simp only [mm_stp] at hs
  split at hs
  · rename_i y x r
    obtain ⟨t, rfl, hq⟩ := mi_br hs
    have ht : (pc : Int) + off = (t : Int) := of_decide_eq_true hr
    have e := mm_cnd_iff o x y
    rcases hq with ⟨hc, hq⟩ | ⟨hc, hq⟩
    · cases hq
      have e := e.mp hc
      cases o
      · exact lv_icmp_eq hx hb hd ht (fun _ => k rfl ls hl) (fun q => absurd e q)
      · exact lv_icmp_ne hx hb hd ht (fun _ => k rfl ls hl) (fun q => absurd q e)
      · exact lv_icmp_lt hx hb hd ht (fun _ => k rfl ls hl) (fun q => absurd e q)
      · exact lv_icmp_ge hx hb hd ht (fun _ => k rfl ls hl) (fun q => absurd (Int32.not_lt.mp e) q)
      · exact lv_icmp_gt hx hb hd ht (fun _ => k rfl ls hl) (fun q => absurd e q)
      · exact lv_icmp_le hx hb hd ht (fun _ => k rfl ls hl) (fun q => absurd (Int32.not_lt.mp e) q)
    · cases hq
      have e := fun z => Bool.false_ne_true (hc.symm.trans (e.mpr z))
      cases o
      · exact lv_icmp_eq hx hb hd ht (fun q => absurd q e) (fun _ => k rfl ls hl)
      · exact lv_icmp_ne hx hb hd ht (fun q => absurd q e) (fun _ => k rfl ls hl)
      · exact lv_icmp_lt hx hb hd ht (fun q => absurd q e) (fun _ => k rfl ls hl)
      · exact lv_icmp_ge hx hb hd ht (fun q => absurd (Int32.not_lt.mpr q) e) (fun _ => k rfl ls hl)
      · exact lv_icmp_gt hx hb hd ht (fun q => absurd q e) (fun _ => k rfl ls hl)
      · exact lv_icmp_le hx hb hd ht (fun q => absurd (Int32.not_lt.mpr q) e) (fun _ => k rfl ls hl)
  · cases hs
theorem mp_goto (hx : p.tables.exec = Jvm.exec) (hb : c.code = cc) {off : Int} {own mn : String} {N : Nat → Option mm_N} (hd : decode cc pc = .ok ((Instr.goto off), mm_ln (Instr.goto off))) (hl : mm_LH G ls L) (hr : mm_rest own mn N cc pc (.goto off) nx ax = true) (hs : mm_stp X h L st (pc, (Instr.goto off), pc + mm_ln (Instr.goto off), ax) = some (.inl (pc', L', st', op)))
    (k : op = none → ∀ ls', mm_LH G ls' L' → W p l e R s m args below meth c H locs cells slots Q (F0 m pc' ls' (st'.map (mm_dn G)))) : W p l e R s m args below meth c H locs cells slots Q (F0 m pc ls (st.map (mm_dn G))) := by
  simp only [mm_stp] at hs
  split at hs
  · rename_i t
    have ht : (pc : Int) + off = (t : Int) := of_decide_eq_true hr
    cases mi_go hs
    exact lv_goto hx hb hd ht (k rfl ls hl)
  · cases hs
end MP
