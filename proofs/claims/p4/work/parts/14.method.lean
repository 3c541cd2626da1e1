/-! ===== a method of the table meets the contract of its run ===== -/
/-- which returning instruction, which type, for a kind of answer -/
def mm_rkI (t : Nat) (i : Instr) : Bool := match t, i with
  | 0, .return_ => true
  | 1, .ireturn => true
  | 2, .ireturn => true
  | 3, .ireturn => true
  | 4, .ireturn => true
  | 5, .areturn => true
  | 6, .freturn => true
  | 7, .dreturn => true
  | _, _ => false
def mm_rkT (t : Nat) (r : Option FieldType) : Bool := match t, r with
  | 0, none => true
  | 1, some .int => true
  | 2, some .boolean => true
  | 3, some .char => true
  | 4, some .byte => true
  | 5, some (.object _) => true
  | 5, some (.array _) => true
  | 6, some .float => true
  | 7, some .double => true
  | _, _ => false
def mm_hck (own : String) (b : ByteArray) (M : mm_M) (hh : List (Nat × Nat × Nat × Nat)) : Bool := match M.2.2.2, hh with
  | [], [] => true
  | [(a, z, t, k, cx)], [(a', z', hp, ct)] => decide (a = a' ∧ z = z' ∧ ct ≠ 0) && ((match mm_cls[cx]? with
    | some q => decide (Jvm.Cond.classLink own ct q.1 ∈ mt_g) && decide (Jvm.Cond.castable q.1 q.1 ∈ mt_tbl)
    | none => false) && (((Nat.ble k 3 && (decide (decode b hp = .ok (.astore_n (Fin.ofNat 4 k), 1)) && (decide (decode b (hp + 1) = .ok (.iconst 1, 1)) && decide (t = hp + 2)))) || (decide (decode b hp = .ok (.astore k, 2)) && (decide (decode b (hp + 2) = .ok (.iconst 1, 1)) && decide (t = hp + 3)))) && (decide (k < M.2.1) && M.1.any (fun mi => decide (mi = (t, Instr.ireturn, t + 1, []))))))
  | _, _ => false
/-- the whole table of methods -/
def mm_Zok (N : Nat → Option mm_N) (P : Nat → Option mm_M) (hh : Nat → List (Nat × Nat × Nat × Nat)) : Prop := ∀ j y M, N j = some y → P j = some M → (∀ mi ∈ M.1, mm_okI y.1.cls y.1.name N y.2.1 mi = true ∧ (mm_isR mi.2.1 = true → mm_rkI M.2.2.1 mi.2.1 = true)) ∧ mm_rkT M.2.2.1 y.2.2.1 = true ∧ mm_hck y.1.cls y.2.1 M (hh j) = true ∧ (y.2.2.2 = false → hh j = [])
theorem mm_entry_len : ∀ (n : Nat) (as : List Value), mm_cats as ≤ n → (mm_entry n as).length = n
  | n, [], _ => by simp [mm_entry]
  | n, v :: r, h => by
    unfold mm_cats at h
    unfold mm_entry
    split at h
    · rename_i hc
      rw [if_pos hc, List.length_cons, List.length_cons, mm_entry_len (n - 2) r (by omega)]
      omega
    · rename_i hc
      rw [if_neg (by rw [hc]; decide), List.length_cons, mm_entry_len (n - 1) r (by omega)]
      omega
theorem mm_entry_al {G : mm_G} : ∀ (as : List Value) (n k : Nat) (q : Nat × Value), q ∈ mm_al G k (mm_entry n as) → q ∈ lv_args k (as.map (mm_dn G))
  | [], n, k, q, h => by
    have : ∀ (n k : Nat), mm_al G k (List.replicate n (none : Option Value)) = [] := by
      intro n
      induction n with
      | zero => intro k; rfl
      | succ n ih => intro k; exact ih (k + 1)
    rw [mm_entry, this] at h
    cases h
  | v :: r, n, k, q, h => by
    unfold mm_entry at h
    rw [List.map_cons, lv_args]
    split at h
    · rename_i hc
      rw [if_pos (by rw [mm_cat]; exact (mm_cat2_iff v).mp hc)]
      rcases List.mem_cons.mp (show q ∈ (k, mm_dn G v) :: mm_al G (k + 1 + 1) (mm_entry (n - 2) r) from h) with rfl | h
      · exact List.mem_cons_self
      · exact List.mem_cons_of_mem _ (mm_entry_al r _ _ q h)
    · rename_i hc
      rw [if_neg (by rw [mm_cat]; exact fun z => hc ((mm_cat2_iff v).mpr z))]
      rcases List.mem_cons.mp (show q ∈ (k, mm_dn G v) :: mm_al G (k + 1) (mm_entry (n - 1) r) from h) with rfl | h
      · exact List.mem_cons_self
      · exact List.mem_cons_of_mem _ (mm_entry_al r _ _ q h)
theorem mm_sl_len {G : mm_G} : ∀ as : List Value, (lg_sl (as.map (mm_dn G))).length = mm_cats as
  | [] => rfl
  | v :: r => by
    have h1 : lg_sl ((v :: r).map (mm_dn G)) = (if (mm_dn G v).category = 2 then [.val (mm_dn G v), .second] else [.val (mm_dn G v)]) ++ lg_sl (r.map (mm_dn G)) := rfl
    rw [h1, List.length_append, mm_sl_len r, mm_cats, mm_cat]
    by_cases c : mm_cat2 v = true
    · rw [if_pos ((mm_cat2_iff v).mp c), c]; rfl
    · rw [if_neg (fun z => c ((mm_cat2_iff v).mpr z))]
      rw [Bool.not_eq_true] at c
      rw [c]; rfl
theorem mm_entry_LH {G : mm_G} {as : List Value} {n : Nat} (h : mm_cats as ≤ n) : mm_LH G ((lg_sl (as.map (mm_dn G)) ++ List.replicate (n - (lg_sl (as.map (mm_dn G))).length) Slot.unset).toArray) (mm_entry n as) := by
  have h1 := lv_entry (as.map (mm_dn G)) (n := n) (by rw [mm_sl_len]; exact h)
  refine ⟨by rw [mm_entry_len n as h]; exact h1.1, h1.2.1, fun q hq => h1.2.2 q (mm_entry_al as n 0 q hq)⟩
theorem mm_narC {x : Int32} (h : mm_un x ≤ 65535) : narrow .char (.int x) = .int x := by
  have h1 : (nI (mm_un x)) = x := by
    apply Int32.toBitVec_inj.mp
    show BitVec.ofNat 32 (x.toBitVec.toNat) = x.toBitVec
    simp
  have h2 := (pk_charN (q := mm_un x) (by omega)).1
  rw [h1] at h2
  exact h2
section MM
variable {p : Program} {l : Launch} {e : Env} {R : Room} {s : State} {m : MethodId} {args : Array Value} {below : List Frame} {meth : Method} {c : Code} {H : Heap} {locs : List Loc} {cells slots : Nat}
variable {cc : ByteArray} {pc : Nat} {ls : Array Slot} {G : mm_G} {X : mm_X}
/-- a returning instruction, by the kind of the answer -/
theorem mm_retW {t : Nat} {i : Instr} {st : List Value} {v : mm_V} {ret : Option FieldType} {Qc : Array Value → State → Outcome → State → Prop} (hx : p.tables.exec = Jvm.exec) (hb : c.code = cc) (hr : meth.sig.returnType = ret) (hT : mm_rkT t ret = true) (hI : mm_rkI t i = true) (hd : decode cc pc = .ok (i, 1)) (hlocks : meth.locks = false) (ha : mm_ans t st = some v)
    (hq : ∀ w, v = .inl w → ∀ t : State, t.heap = H → s.WarmedH t.vm → Qc args s (.returned (w.map (mm_dn G))) t) (hf : ∀ q ∈ locs, mm_Ar G q.base) : W p l e R s m args below meth c H locs cells slots (MQ below Qc args s cells slots (mm_Ar G)) (F0 m pc ls (st.map (mm_dn G))) := by
  unfold mm_rkI at hI
  split at hI
  · -- void
    simp only [mm_ans] at ha
    split at ha
    · cases ha
      have hr2 : ret = none := by cases ret with
        | none => rfl
        | some ty => cases ty <;> cases hT
      rw [hr2] at hr
      exact W.vret hx hb hr (fun t h1 h2 => hq none rfl t h1 h2) hf hd hlocks
    · cases ha
  · simp only [mm_ans] at ha
    split at ha
    · rename_i v0
      split at ha
      · rename_i hok
        cases ha
        obtain ⟨x, rfl⟩ : ∃ x, v0 = .int x := by cases v0 <;> first | exact ⟨_, rfl⟩ | cases hok
        have hr2 : ret = some .int := by cases ret with
          | none => cases hT
          | some ty => cases ty <;> first | rfl | cases hT
        have hn : narrow .int (.int x) = .int x := rfl
        exact W.zret (v := x) (ty := .int) hx hb (hr.trans hr2) hn (fun t h1 h2 => hq _ rfl t h1 h2) hf hd hlocks
      · cases ha
    · cases ha
  · simp only [mm_ans] at ha
    split at ha
    · rename_i v0
      split at ha
      · rename_i hok
        cases ha
        obtain ⟨x, rfl⟩ : ∃ x, v0 = .int x := by cases v0 <;> first | exact ⟨_, rfl⟩ | cases hok
        have hr2 : ret = some .boolean := by cases ret with
          | none => cases hT
          | some ty => cases ty <;> first | rfl | cases hT
        have hn : narrow .boolean (.int x) = .int x := (mm_fit_ok (G := G) (ty := .boolean) (v := .int x) hok).1
        exact W.zret (v := x) (ty := .boolean) hx hb (hr.trans hr2) hn (fun t h1 h2 => hq _ rfl t h1 h2) hf hd hlocks
      · cases ha
    · cases ha
  · simp only [mm_ans] at ha
    split at ha
    · rename_i v0
      split at ha
      · rename_i hok
        cases ha
        obtain ⟨x, rfl⟩ : ∃ x, v0 = .int x := by cases v0 <;> first | exact ⟨_, rfl⟩ | cases hok
        have hr2 : ret = some .char := by cases ret with
          | none => cases hT
          | some ty => cases ty <;> first | rfl | cases hT
        have hn : narrow .char (.int x) = .int x := mm_narC (Nat.ble_eq.mp hok)
        exact W.zret (v := x) (ty := .char) hx hb (hr.trans hr2) hn (fun t h1 h2 => hq _ rfl t h1 h2) hf hd hlocks
      · cases ha
    · cases ha
  · simp only [mm_ans] at ha
    split at ha
    · rename_i v0
      split at ha
      · rename_i hok
        cases ha
        obtain ⟨x, rfl⟩ : ∃ x, v0 = .int x := by cases v0 <;> first | exact ⟨_, rfl⟩ | cases hok
        have hr2 : ret = some .byte := by cases ret with
          | none => cases hT
          | some ty => cases ty <;> first | rfl | cases hT
        have hn : narrow .byte (.int x) = .int x := (mm_fit_ok (G := G) (ty := .byte) (v := .int x) hok).1
        exact W.zret (v := x) (ty := .byte) hx hb (hr.trans hr2) hn (fun t h1 h2 => hq _ rfl t h1 h2) hf hd hlocks
      · cases ha
    · cases ha
  · simp only [mm_ans] at ha
    split at ha
    · rename_i v0
      split at ha
      · rename_i hok
        cases ha
        obtain ⟨o, ho⟩ : ∃ o, mm_dn G v0 = va_rf o := mi_isA (by cases v0 <;> first | rfl | cases hok)
        have hr2 : ∃ rt, ret = some rt ∧ ((∃ n, rt = .object n) ∨ ∃ t, rt = .array t) := by cases ret with
          | none => cases hT
          | some ty => cases ty <;> first | exact ⟨_, rfl, Or.inl ⟨_, rfl⟩⟩ | exact ⟨_, rfl, Or.inr ⟨_, rfl⟩⟩ | cases hT
        obtain ⟨rt, e1, e2⟩ := hr2
        have hq9 := hq (some v0) rfl
        rw [Option.map_some, ho] at hq9
        rw [List.map_cons, List.map_nil, ho]
        exact W.aret hx hb (hr.trans e1) e2 (by cases o with | none => exact Or.inl rfl | some q => exact Or.inr ⟨q, rfl⟩) hq9 hf hd hlocks
      · cases ha
    · cases ha
  · simp only [mm_ans] at ha
    split at ha
    · rename_i v0
      split at ha
      · rename_i hok
        cases ha
        obtain ⟨x, rfl⟩ : ∃ x, v0 = .float x := by cases v0 <;> first | exact ⟨_, rfl⟩ | cases hok
        have hr2 : ret = some .float := by cases ret with
          | none => cases hT
          | some ty => cases ty <;> first | rfl | cases hT
        exact W.fret hx hb (hr.trans hr2) (fun t h1 h2 => hq _ rfl t h1 h2) hf hd hlocks
      · cases ha
    · cases ha
  · simp only [mm_ans] at ha
    split at ha
    · rename_i v0
      split at ha
      · rename_i hok
        cases ha
        obtain ⟨x, rfl⟩ : ∃ x, v0 = .double x := by cases v0 <;> first | exact ⟨_, rfl⟩ | cases hok
        have hr2 : ret = some .double := by cases ret with
          | none => cases hT
          | some ty => cases ty <;> first | rfl | cases hT
        exact W.dret hx hb (hr.trans hr2) (fun t h1 h2 => hq _ rfl t h1 h2) hf hd hlocks
      · cases ha
    · cases ha
  · cases hI
theorem mm_isR_ln {i : Instr} (h : mm_isR i = true) : mm_ln i = 1 ∧ ∀ a b c d, i ≠ .tableswitch a b c d := by
  cases i <;> first | (cases h; done) | exact ⟨rfl, fun _ _ _ _ q => by cases q⟩
/-- the induction: every run of depth d meets its contract -/
theorem mm_sound (l : Launch) (hst : l.stackTraces = false) (hX : mm_Xok X) (hXf : X.2.2.2 = mm_fty) (hC : mm_Cok) (hYs : mm_Sys) (hTh : mm_Thr) {N : Nat → Option mm_N} {P : Nat → Option mm_M} {hh : Nat → List (Nat × Nat × Nat × Nat)} (hY : mm_Yok N P hh) (hZ : mm_Zok N P hh) (hNP : ∀ j M, P j = some M → ∃ y, N j = some y) (fuel : Nat) : ∀ d, mm_Cc l G X N P hh d (mm_run X P fuel d) := by
  intro d
  induction d with
  | zero => intro j as h v h' y M he; cases he
  | succ d ih =>
    intro j as h v h' y M he hy hM
    have hmono := mm_run_mono _ _ _ _ _ _ he
    simp only [mm_run] at he
    rw [hM] at he
    dsimp only at he
    split at he
    · cases he
    · rename_i hcats
      rw [Nat.ble_eq] at hcats
      obtain ⟨M', hM', hws, hpn, hmh, h70⟩ := hY j y hy
      cases hM.symm.trans hM'
      obtain ⟨z1, z2, z3, z4⟩ := hZ j y M hy hM
      have hcode : ∀ mi ∈ M.1, mm_okI y.1.cls y.1.name N y.2.1 mi = true := fun mi hmi => (z1 mi hmi).1
      -- the body, for both kinds of tables
      have body : ∀ (p : Program) (e : Env) (s : State) (m : MethodId) (args : Array Value) (below : List Frame) (meth : Method) (c : Code) (s₁ : State), BodyLoose p l y.1 (headSpec (mm_wsY y M.2.1 (hh j)) (mm_rm (d + 1) (h'.length - h.length) (mm_sum h' - mm_sum h))) y.2.1 M.2.1 y.2.2.1 e s m args below meth c s₁ → c.maxLocals = M.2.1 → mm_Hok s args c y.2.1 y.1.cls M → mm_Pc G X as h args s →
          W p l e (mm_rm (d + 1) (h'.length - h.length) (mm_sum h' - mm_sum h)) s m args below meth c s.heap [] 0 0 (vx_MQ below (mm_Qc G v h') (mm_XC G v h') args s (h'.length - h.length) (mm_sum h' - mm_sum h) (mm_Ar G)) (entryFrame m args M.2.1) := by
        intro p e s m args below meth c s₁ B hml hH hv
        obtain ⟨rfl, hW, hEv, hG⟩ := hv
        have hts := atoms_spec (ws := mm_wsY y M.2.1 (hh j)) B.pre
        have hF : mm_Fx p s m (as.map (mm_dn G)).toArray c y.2.1 y.1.cls G X := ⟨B.exec, B.bytes, findClass_of_methodNamed B.named, fun w hw => hts w (List.mem_cons_of_mem _ hw), hEv, hXf⟩
        have hmn : meth.name = y.1.name := (name_of_methodNamed B.named B.method).1
        rw [lg_entry_eq]
        have hl := mm_entry_LH (G := G) hcats
        generalize (lg_sl (as.map (mm_dn G)) ++ List.replicate (M.2.1 - (lg_sl (as.map (mm_dn G))).length) Slot.unset).toArray = ls at hl ⊢
        have hE : ∀ res hr9, (mm_exe X P (mm_run X P fuel d) M fuel 0 (mm_entry M.2.1 as) [] h = some (res, h')) → hr9 = h' → mm_End p l e (mm_rm (d + 1) (h'.length - h.length) (mm_sum h' - mm_sum h)) s m (as.map (mm_dn G)).toArray below meth c (vx_MQ below (mm_Qc G v h') (mm_XC G v h') (as.map (mm_dn G)).toArray s (h'.length - h.length) (mm_sum h' - mm_sum h) (mm_Ar G)) G M h.length (mm_sum h) res h' := by
          intro res hr9 hx9 _
          match res, hx9 with
          | .inl (pc', L', st'), hx9 =>
            intro H' locs' ls' i nx ax hW' hS' hl' hmem hri
            rw [hx9] at he
            dsimp only at he
            split at he
            · rename_i v9 ha
              cases he
              obtain ⟨i1, i2⟩ := mm_isR_ln hri
              obtain ⟨hd, -⟩ := mm_okI_dec (hcode _ hmem) i2
              rw [i1] at hd
              refine vx_ret ?_
              exact mm_retW B.exec B.bytes B.returns z2 ((z1 _ hmem).2 hri) hd B.notSynchronized ha (fun w hw t ht hal => ⟨⟨w, hw, rfl⟩, by rw [ht]; exact hW', hS'.F ht⟩) hS'.2.2
            · cases he
          | .inr ci, hx9 =>
            rw [hx9] at he
            cases he
            exact ⟨_, _, rfl, fun q hq t hal hW' hF' => ⟨⟨ci, q, rfl, hq, rfl⟩, hW', hF'⟩⟩
        cases hx9 : mm_exe X P (mm_run X P fuel d) M fuel 0 (mm_entry M.2.1 as) [] h with
        | none => rw [hx9] at he; cases he
        | some r9 =>
          obtain ⟨res, h9⟩ := r9
          have h9e : h9 = h' := by
            rw [hx9] at he
            match res, he with
            | .inl (a, b, st'), he =>
              dsimp only at he
              split at he
              · cases he; rfl
              · cases he
            | .inr ci, he => cases he; rfl
          subst h9e
          have := mm_exe_ok hX hC hYs hTh hY ih (fun j as h v h' => mm_run_mono d j as h v h') hF hmn hcode (fun j9 as9 h8 v8 h8' hc8 => by
            cases d with
            | zero => cases hc8
            | succ d9 =>
              simp only [mm_run] at hc8
              split at hc8
              · cases hc8
              · rename_i M9 hM9
                exact hNP j9 M9 hM9) hml B.notSynchronized hst hH hG (R := mm_rm (d + 1) (h9.length - h.length) (mm_sum h9 - mm_sum h)) (by show d + 9 ≤ d + 1 + 8; omega) (by show 100 * d + 300 ≤ 100 * (d + 1) + 200; omega) (n0 := h.length) (s0 := mm_sum h) hW.2 (hE res h9 hx9 rfl) ⟨Nat.le_refl _, Nat.le_refl _⟩ fuel 0 (mm_entry M.2.1 as) [] h hx9 s.heap [] ls hW va_S.rf hl (mm_entry_len _ _ hcats) (Nat.le_refl _) (Nat.le_refl _)
          rw [Nat.sub_self, Nat.sub_self] at this
          exact this
      have hhd : ∀ (s : State) (args : Array Value) (c : Code), (∀ w ∈ mm_wsY y M.2.1 (hh j), w.before args s = true) → mm_Ev G X s → c.exceptionTable.toList = tableOf (hh j) → mm_Hok s args c y.2.1 y.1.cls M := by
        intro s args c hts hEv htab
        unfold mm_Hok
        unfold mm_hck at z3
        split at z3
        · rename_i e1 e2
          rw [e1]
          dsimp only
          intro x hx
          rw [htab, e2] at hx
          cases hx
        · rename_i a z t k cx a' z' hp ct e1 e2
          rw [e1]
          dsimp only
          simp only [Bool.and_eq_true, Bool.or_eq_true, decide_eq_true_eq, Nat.ble_eq] at z3
          obtain ⟨⟨rfl, rfl, q3⟩, q4, q5, q6, q7⟩ := z3
          split at q4
          · rename_i qx hqx
            rw [Bool.and_eq_true, decide_eq_true_eq, decide_eq_true_eq] at q4
            obtain ⟨q8, q9⟩ := q4
            obtain ⟨mi9, hm9, hm8⟩ := List.any_eq_true.mp q7
            have hm8 := of_decide_eq_true hm8
            subst hm8
            refine ⟨⟨a, z, hp, ct⟩, qx, by rw [htab, e2]; rfl, fun pc h1 h2 => ?_, q3, hqx, hts _ (List.mem_cons_of_mem _ q8), va_tabs rfl rfl (hEv.2.2.2.2.2.2.1 _ q9 rfl), ?_, q6, _, _, hm9⟩
            · simp [covers, h1, h2]
            · rcases q5 with ⟨g1, g2, g3, g4⟩ | ⟨g2, g3, g4⟩
              · refine Or.inl ⟨Fin.ofNat 4 k, ?_, g2, g3, g4⟩
                show k % 4 = k
                omega
              · exact Or.inr ⟨g2, g3, g4⟩
          · cases q4
        · cases z3
      show vx_Met l y.1 (mm_wsY y M.2.1 (hh j)) (mm_rm (d + 1) (h'.length - h.length) (mm_sum h' - mm_sum h)) (mm_Pc G X as h) (mm_Qc G v h') (mm_XC G v h') (h'.length - h.length) (mm_sum h' - mm_sum h) (mm_Ar G)
      cases hw4 : y.2.2.2 with
      | false =>
        refine vx_ofW hpn (mc_wsN hw4) ?_
        intro p e s m args below meth c s₁ B hml htab hv
        refine body p e s m args below meth c s₁ B hml (hhd s args c (atoms_spec (ws := mm_wsY y M.2.1 (hh j)) B.pre) hv.2.2.1 ?_) hv
        rw [z4 hw4]
        cases hc9 : c.exceptionTable.toList with
        | nil => rfl
        | cons a r => exact (htab a (by rw [hc9]; exact List.mem_cons_self)).elim
      | true =>
        refine vx_ofWH hpn (mc_wsW hw4) ?_
        intro p e s m args below meth c s₁ B hml hv
        have hts := atoms_spec (ws := mm_wsY y M.2.1 (hh j)) B.pre
        exact body p e s m args below meth c s₁ B hml (hhd s args c hts hv.2.2.1 (vx_table (x := y.1) B (hts _ (by rw [mc_wsW hw4]; exact List.mem_cons_self)))) hv
end MM
