/-! ===== the walk of a whole body, and of a whole method ===== -/
def mm_nm3 : List String := ["java/lang/RuntimeException", "java/lang/Exception"]
def mm_Thr : Prop := ∀ own ic ci, (own, ic, ci) ∈ mm_thr → ∃ q, mm_cls[ci]? = some q ∧ q.2 = [] ∧ Bundle.fit q.1 = true ∧ 15 ≤ ci ∧ Jvm.Cond.initialized q.1 ∈ mt_g ∧ ∀ w ∈ vx_at0 own ic q.1 mm_nm3, w ∈ mt_tbl ∧ (goodWord w || mm_isN w) = true ∧ vx_ot w = true
def mm_isR (i : Instr) : Bool := match i with
  | .ireturn => true
  | .areturn => true
  | .freturn => true
  | .dreturn => true
  | .return_ => true
  | _ => false
theorem mm_lk_mem : ∀ (c : List mm_I) (pc : Nat) (mi : mm_I), mm_lk c pc = some mi → mi ∈ c ∧ mi.1 = pc
  | [], pc, mi, h => by cases h
  | a :: r, pc, mi, h => by
    simp only [mm_lk] at h
    split at h
    · rename_i hb
      cases h
      exact ⟨List.mem_cons_self, Nat.beq_eq.mp hb⟩
    · obtain ⟨h1, h2⟩ := mm_lk_mem r pc mi h
      exact ⟨List.mem_cons_of_mem _ h1, h2⟩
theorem mm_len_set1 {L L' : mm_L} {i : Nat} {v : Value} (h : mm_set1 L i v = some L') : L'.length = L.length := (mm_set1_keep h).2.1
section MB
variable {p : Program} {l : Launch} {e : Env} {R : Room} {s : State} {m : MethodId} {args : Array Value} {below : List Frame} {meth : Method} {c : Code} {H : Heap} {locs : List Loc} {cells slots : Nat} {Q : State → Prop}
variable {cc : ByteArray} {pc : Nat} {ls : Array Slot} {G : mm_G} {X : mm_X} {h : mm_H} {L L' : mm_L} {st st' : List Value} {nx pc' : Nat} {ax : List Nat} {op : Option ((Nat × mm_C) ⊕ mm_C)} {own mn : String} {N : Nat → Option mm_N}
/-- a caught throw: the local is set to what was thrown -/
theorem mm_LHk {ls' : Array Slot} {k : Nat} {V : Value} (hk : k < L.length) (h : lv_has ls' L.length ((k, V) :: (mm_al G 0 L).filter (fun q => !(q.1 == k) && !(q.1 + 1 == k && q.2.category == 2)))) : mm_LH G ls' ((mm_kill L k).set k none) := by
  have hs : mm_set1 L k .null = some ((mm_kill L k).set k (some .null)) := by unfold mm_set1; rw [if_pos hk]
  obtain ⟨a, b, c⟩ := mm_set1_keep hs
  have hlen : ((mm_kill L k).set k none).length = L.length := by rw [List.length_set, mm_kill_len]
  refine ⟨by rw [hlen]; exact h.1, h.2.1, fun q hq => ?_⟩
  obtain ⟨j, w, rfl, hw⟩ := (mm_al_mem G _ 0 q).mp hq
  rw [Nat.zero_add]
  rw [List.getElem?_set] at hw
  by_cases e : k = j
  · rw [if_pos e] at hw
    split at hw <;> cases hw
  · rw [if_neg e] at hw
    rcases c j w (by rw [List.getElem?_set, if_neg e]; exact hw) with ⟨rfl, -⟩ | ⟨e1, e2, e3⟩
    · exact absurd rfl e
    · refine h.2.2 (j, mm_dn G w) (List.mem_cons_of_mem _ (List.mem_filter.mpr ⟨(mm_al_mem G L 0 _).mpr ⟨j, w, by rw [Nat.zero_add], e2⟩, ?_⟩))
      rw [mm_cat2_iff] at e3
      simp only [mm_cat]
      simp
      exact ⟨e1, Decidable.not_and_iff_not_or_not.mp e3⟩
/-- the handlers of a method -/
def mm_Hok (s : State) (args : Array Value) (c : Code) (cc : ByteArray) (own : String) (M : mm_M) : Prop := match M.2.2.2 with
  | [] => ∀ x ∈ c.exceptionTable.toList, False
  | [(a, b, t, k, cx)] => ∃ x q, c.exceptionTable.toList = [x] ∧ (∀ pc, a ≤ pc → pc < b → covers x pc = true) ∧ x.catchType ≠ 0 ∧ mm_cls[cx]? = some q ∧ (Jvm.Cond.classLink own x.catchType q.1).before args s = true ∧ (Jvm.Cond.castable q.1 q.1).before args s = true ∧
      ((∃ kf : Fin 4, kf.val = k ∧ decode cc x.handlerPc = .ok (.astore_n kf, 1) ∧ decode cc (x.handlerPc + 1) = .ok (.iconst 1, 1) ∧ t = x.handlerPc + 2) ∨ (decode cc x.handlerPc = .ok (.astore k, 2) ∧ decode cc (x.handlerPc + 2) = .ok (.iconst 1, 1) ∧ t = x.handlerPc + 3)) ∧ k < M.2.1 ∧ ∃ nx ax, (t, Instr.ireturn, nx, ax) ∈ M.1
  | _ => False
def mm_End (p : Program) (l : Launch) (e : Env) (R : Room) (s : State) (m : MethodId) (args : Array Value) (below : List Frame) (meth : Method) (c : Code) (Q : State → Prop) (G : mm_G) (M : mm_M) (n0 s0 : Nat) (res : mm_R) (h' : mm_H) : Prop := match res with
  | .inl (pc', L', st') => ∀ H' locs' ls' i nx ax, mm_W G h' H' → va_S (mm_Ar G) s.heap H' locs' → mm_LH G ls' L' → (pc', i, nx, ax) ∈ M.1 → mm_isR i = true → W p l e R s m args below meth c H' locs' (h'.length - n0) (mm_sum h' - s0) Q (F0 m pc' ls' (st'.map (mm_dn G)))
  | .inr ci => ∃ Qc XC, Q = vx_MQ below Qc XC args s (h'.length - n0) (mm_sum h' - s0) (mm_Ar G) ∧ ∀ q, mm_cls[ci]? = some q → ∀ t : State, s.vm.Alike t.vm → mm_W G h' t.heap → va_F (mm_Ar G) s t → XC q.1 s t
theorem mi_cpi {a : mm_A} (h0 : mm_copyi X h nx L st = some a) : ∃ q, a = .inl q := by
  unfold mm_copyi at h0
  split at h0
  · split at h0
    · split at h0
      · rw [mm_fN_eq] at h0
        obtain ⟨-, hq⟩ := mi_wr h0
        exact ⟨_, hq⟩
      · cases h0
    · cases h0
  · cases h0
theorem mi_cpb {a : mm_A} (h0 : mm_copyb X h nx L st = some a) : ∃ q, a = .inl q := by
  unfold mm_copyb at h0
  split at h0
  · split at h0
    · split at h0
      · rw [mm_fN_eq] at h0
        obtain ⟨-, hq⟩ := mi_wr h0
        exact ⟨_, hq⟩
      · cases h0
    · cases h0
  · cases h0
theorem mi_cp {a : mm_A} (h0 : mm_copy X h nx L st = some a) : ∃ q, a = .inl q := by
  unfold mm_copy at h0
  split at h0
  · split at h0
    · exact mi_cpb h0
    · exact mi_cpi h0
  · cases h0
theorem mm_inr {i : Instr} {a : (Nat × List Value × List Value) ⊕ (Unit ⊕ Nat)} (hs : mm_stp X h L st (pc, i, nx, ax) = some (.inr a)) :
    (((∃ x, i = .invokevirtual x) ∨ (∃ x, i = .invokestatic x) ∨ ∃ x, i = .invokespecial x) ∧ mm_call X h nx L st ax = some (.inr a)) ∨ (mm_isR i = true ∧ a = .inr (.inl ())) ∨ ∃ x ci t, i = .new x ∧ ax = 1 :: ci :: t ∧ a = .inr (.inr ci) ∧ st.length ≤ 4 := by
  cases i with
  | aaload =>
    simp only [mm_stp, mm_fI_eq, mm_fL_eq, mm_fN_eq] at hs
    repeat' split at hs
    all_goals first
      | (cases hs; done)
      | (cases mi_go hs; done)
      | (obtain ⟨-, hq⟩ := mi_wr hs; cases hq; done)
      | (obtain ⟨_, _, hq⟩ := mi_br hs; rcases hq with ⟨-, hq⟩ | ⟨-, hq⟩ <;> cases hq; done)
      | (obtain ⟨_, _, _, _, hq⟩ := mi_i2 hs; cases hq; done)
  | aastore =>
    simp only [mm_stp, mm_fI_eq, mm_fL_eq, mm_fN_eq] at hs
    repeat' split at hs
    all_goals first
      | (cases hs; done)
      | (cases mi_go hs; done)
      | (obtain ⟨-, hq⟩ := mi_wr hs; cases hq; done)
      | (obtain ⟨_, _, hq⟩ := mi_br hs; rcases hq with ⟨-, hq⟩ | ⟨-, hq⟩ <;> cases hq; done)
      | (obtain ⟨_, _, _, _, hq⟩ := mi_i2 hs; cases hq; done)
  | aconst_null => cases mi_go (show mm_go nx L _ = some _ from hs)
  | aload x0 => obtain ⟨_, _, _, hq⟩ := mi_ld (show mm_ld nx L st (x0) _ = some _ from hs); cases hq
  | aload_n x0 => obtain ⟨_, _, _, hq⟩ := mi_ld (show mm_ld nx L st (x0.val) _ = some _ from hs); cases hq
  | anewarray x0 =>
    simp only [mm_stp, mm_fI_eq, mm_fL_eq, mm_fN_eq] at hs
    repeat' split at hs
    all_goals first
      | (cases hs; done)
      | (cases mi_go hs; done)
      | (obtain ⟨-, hq⟩ := mi_wr hs; cases hq; done)
      | (obtain ⟨_, _, hq⟩ := mi_br hs; rcases hq with ⟨-, hq⟩ | ⟨-, hq⟩ <;> cases hq; done)
      | (obtain ⟨_, _, _, _, hq⟩ := mi_i2 hs; cases hq; done)
  | areturn => cases hs; exact Or.inr (Or.inl ⟨rfl, rfl⟩)
  | arraylength =>
    simp only [mm_stp, mm_fI_eq, mm_fL_eq, mm_fN_eq] at hs
    repeat' split at hs
    all_goals first
      | (cases hs; done)
      | (cases mi_go hs; done)
      | (obtain ⟨-, hq⟩ := mi_wr hs; cases hq; done)
      | (obtain ⟨_, _, hq⟩ := mi_br hs; rcases hq with ⟨-, hq⟩ | ⟨-, hq⟩ <;> cases hq; done)
      | (obtain ⟨_, _, _, _, hq⟩ := mi_i2 hs; cases hq; done)
  | astore x0 => obtain ⟨_, _, _, _, _, _, hq⟩ := mi_s1 (show mm_s1 nx L st (x0) _ = some _ from hs); cases hq
  | astore_n x0 => obtain ⟨_, _, _, _, _, _, hq⟩ := mi_s1 (show mm_s1 nx L st (x0.val) _ = some _ from hs); cases hq
  | athrow => cases hs
  | baload =>
    simp only [mm_stp, mm_fI_eq, mm_fL_eq, mm_fN_eq] at hs
    repeat' split at hs
    all_goals first
      | (cases hs; done)
      | (cases mi_go hs; done)
      | (obtain ⟨-, hq⟩ := mi_wr hs; cases hq; done)
      | (obtain ⟨_, _, hq⟩ := mi_br hs; rcases hq with ⟨-, hq⟩ | ⟨-, hq⟩ <;> cases hq; done)
      | (obtain ⟨_, _, _, _, hq⟩ := mi_i2 hs; cases hq; done)
  | bastore =>
    simp only [mm_stp, mm_fI_eq, mm_fL_eq, mm_fN_eq] at hs
    repeat' split at hs
    all_goals first
      | (cases hs; done)
      | (cases mi_go hs; done)
      | (obtain ⟨-, hq⟩ := mi_wr hs; cases hq; done)
      | (obtain ⟨_, _, hq⟩ := mi_br hs; rcases hq with ⟨-, hq⟩ | ⟨-, hq⟩ <;> cases hq; done)
      | (obtain ⟨_, _, _, _, hq⟩ := mi_i2 hs; cases hq; done)
  | bipush x0 =>
    simp only [mm_stp, mm_fI_eq, mm_fL_eq, mm_fN_eq] at hs
    repeat' split at hs
    all_goals first
      | (cases hs; done)
      | (cases mi_go hs; done)
      | (obtain ⟨-, hq⟩ := mi_wr hs; cases hq; done)
      | (obtain ⟨_, _, hq⟩ := mi_br hs; rcases hq with ⟨-, hq⟩ | ⟨-, hq⟩ <;> cases hq; done)
      | (obtain ⟨_, _, _, _, hq⟩ := mi_i2 hs; cases hq; done)
  | caload => cases hs
  | castore => cases hs
  | checkcast x0 => cases hs
  | d2f => cases hs
  | d2i => cases hs
  | d2l => cases hs
  | dadd => cases hs
  | daload => cases hs
  | dastore => cases hs
  | dcmp x0 =>
    simp only [mm_stp, mm_fI_eq, mm_fL_eq, mm_fN_eq] at hs
    repeat' split at hs
    all_goals first
      | (cases hs; done)
      | (cases mi_go hs; done)
      | (obtain ⟨-, hq⟩ := mi_wr hs; cases hq; done)
      | (obtain ⟨_, _, hq⟩ := mi_br hs; rcases hq with ⟨-, hq⟩ | ⟨-, hq⟩ <;> cases hq; done)
      | (obtain ⟨_, _, _, _, hq⟩ := mi_i2 hs; cases hq; done)
  | dconst x0 =>
    match x0, hs with
    | 0, hs => cases mi_go (show mm_go nx L _ = some _ from hs)
    | 1, hs => cases hs
  | ddiv =>
    simp only [mm_stp, mm_fI_eq, mm_fL_eq, mm_fN_eq] at hs
    repeat' split at hs
    all_goals first
      | (cases hs; done)
      | (cases mi_go hs; done)
      | (obtain ⟨-, hq⟩ := mi_wr hs; cases hq; done)
      | (obtain ⟨_, _, hq⟩ := mi_br hs; rcases hq with ⟨-, hq⟩ | ⟨-, hq⟩ <;> cases hq; done)
      | (obtain ⟨_, _, _, _, hq⟩ := mi_i2 hs; cases hq; done)
  | dload x0 => obtain ⟨_, _, _, hq⟩ := mi_ld (show mm_ld nx L st (x0) _ = some _ from hs); cases hq
  | dload_n x0 => obtain ⟨_, _, _, hq⟩ := mi_ld (show mm_ld nx L st (x0.val) _ = some _ from hs); cases hq
  | dmul => cases hs
  | dneg => cases hs
  | drem => cases hs
  | dreturn => cases hs; exact Or.inr (Or.inl ⟨rfl, rfl⟩)
  | dstore x0 => obtain ⟨_, _, _, _, _, _, hq⟩ := mi_s2 (show mm_s2 nx L st (x0) _ = some _ from hs); cases hq
  | dstore_n x0 => cases hs
  | dsub => cases hs
  | dup =>
    simp only [mm_stp, mm_fI_eq, mm_fL_eq, mm_fN_eq] at hs
    repeat' split at hs
    all_goals first
      | (cases hs; done)
      | (cases mi_go hs; done)
      | (obtain ⟨-, hq⟩ := mi_wr hs; cases hq; done)
      | (obtain ⟨_, _, hq⟩ := mi_br hs; rcases hq with ⟨-, hq⟩ | ⟨-, hq⟩ <;> cases hq; done)
      | (obtain ⟨_, _, _, _, hq⟩ := mi_i2 hs; cases hq; done)
  | dup_x1 =>
    simp only [mm_stp, mm_fI_eq, mm_fL_eq, mm_fN_eq] at hs
    repeat' split at hs
    all_goals first
      | (cases hs; done)
      | (cases mi_go hs; done)
      | (obtain ⟨-, hq⟩ := mi_wr hs; cases hq; done)
      | (obtain ⟨_, _, hq⟩ := mi_br hs; rcases hq with ⟨-, hq⟩ | ⟨-, hq⟩ <;> cases hq; done)
      | (obtain ⟨_, _, _, _, hq⟩ := mi_i2 hs; cases hq; done)
  | dup_x2 => cases hs
  | dup2 =>
    simp only [mm_stp, mm_fI_eq, mm_fL_eq, mm_fN_eq] at hs
    repeat' split at hs
    all_goals first
      | (cases hs; done)
      | (cases mi_go hs; done)
      | (obtain ⟨-, hq⟩ := mi_wr hs; cases hq; done)
      | (obtain ⟨_, _, hq⟩ := mi_br hs; rcases hq with ⟨-, hq⟩ | ⟨-, hq⟩ <;> cases hq; done)
      | (obtain ⟨_, _, _, _, hq⟩ := mi_i2 hs; cases hq; done)
  | dup2_x1 => cases hs
  | dup2_x2 => cases hs
  | f2d =>
    simp only [mm_stp, mm_fI_eq, mm_fL_eq, mm_fN_eq] at hs
    repeat' split at hs
    all_goals first
      | (cases hs; done)
      | (cases mi_go hs; done)
      | (obtain ⟨-, hq⟩ := mi_wr hs; cases hq; done)
      | (obtain ⟨_, _, hq⟩ := mi_br hs; rcases hq with ⟨-, hq⟩ | ⟨-, hq⟩ <;> cases hq; done)
      | (obtain ⟨_, _, _, _, hq⟩ := mi_i2 hs; cases hq; done)
  | f2i => cases hs
  | f2l => cases hs
  | fadd => cases hs
  | faload => cases hs
  | fastore => cases hs
  | fcmp x0 => cases hs
  | fconst x0 =>
    match x0, hs with
    | 0, hs => cases mi_go (show mm_go nx L _ = some _ from hs)
    | 1, hs => cases hs
    | 2, hs => cases hs
  | fdiv =>
    simp only [mm_stp, mm_fI_eq, mm_fL_eq, mm_fN_eq] at hs
    repeat' split at hs
    all_goals first
      | (cases hs; done)
      | (cases mi_go hs; done)
      | (obtain ⟨-, hq⟩ := mi_wr hs; cases hq; done)
      | (obtain ⟨_, _, hq⟩ := mi_br hs; rcases hq with ⟨-, hq⟩ | ⟨-, hq⟩ <;> cases hq; done)
      | (obtain ⟨_, _, _, _, hq⟩ := mi_i2 hs; cases hq; done)
  | fload x0 => cases hs
  | fload_n x0 => cases hs
  | fmul => cases hs
  | fneg => cases hs
  | frem => cases hs
  | freturn => cases hs; exact Or.inr (Or.inl ⟨rfl, rfl⟩)
  | fstore x0 => cases hs
  | fstore_n x0 => cases hs
  | fsub => cases hs
  | getfield x0 =>
    simp only [mm_stp, mm_fI_eq, mm_fL_eq, mm_fN_eq] at hs
    repeat' split at hs
    all_goals first
      | (cases hs; done)
      | (cases mi_go hs; done)
      | (obtain ⟨-, hq⟩ := mi_wr hs; cases hq; done)
      | (obtain ⟨_, _, hq⟩ := mi_br hs; rcases hq with ⟨-, hq⟩ | ⟨-, hq⟩ <;> cases hq; done)
      | (obtain ⟨_, _, _, _, hq⟩ := mi_i2 hs; cases hq; done)
  | getstatic x0 =>
    simp only [mm_stp, mm_fI_eq, mm_fL_eq, mm_fN_eq] at hs
    repeat' split at hs
    all_goals first
      | (cases hs; done)
      | (cases mi_go hs; done)
      | (obtain ⟨-, hq⟩ := mi_wr hs; cases hq; done)
      | (obtain ⟨_, _, hq⟩ := mi_br hs; rcases hq with ⟨-, hq⟩ | ⟨-, hq⟩ <;> cases hq; done)
      | (obtain ⟨_, _, _, _, hq⟩ := mi_i2 hs; cases hq; done)
  | goto x0 =>
    simp only [mm_stp, mm_fI_eq, mm_fL_eq, mm_fN_eq] at hs
    repeat' split at hs
    all_goals first
      | (cases hs; done)
      | (cases mi_go hs; done)
      | (obtain ⟨-, hq⟩ := mi_wr hs; cases hq; done)
      | (obtain ⟨_, _, hq⟩ := mi_br hs; rcases hq with ⟨-, hq⟩ | ⟨-, hq⟩ <;> cases hq; done)
      | (obtain ⟨_, _, _, _, hq⟩ := mi_i2 hs; cases hq; done)
  | goto_w x0 => cases hs
  | i2b => obtain ⟨_, _, _, hq⟩ := mi_i1 (show mm_i1 nx L st _ = some _ from hs); cases hq
  | i2c => obtain ⟨_, _, _, hq⟩ := mi_i1 (show mm_i1 nx L st _ = some _ from hs); cases hq
  | i2d =>
    simp only [mm_stp, mm_fI_eq, mm_fL_eq, mm_fN_eq] at hs
    repeat' split at hs
    all_goals first
      | (cases hs; done)
      | (cases mi_go hs; done)
      | (obtain ⟨-, hq⟩ := mi_wr hs; cases hq; done)
      | (obtain ⟨_, _, hq⟩ := mi_br hs; rcases hq with ⟨-, hq⟩ | ⟨-, hq⟩ <;> cases hq; done)
      | (obtain ⟨_, _, _, _, hq⟩ := mi_i2 hs; cases hq; done)
  | i2f =>
    simp only [mm_stp, mm_fI_eq, mm_fL_eq, mm_fN_eq] at hs
    repeat' split at hs
    all_goals first
      | (cases hs; done)
      | (cases mi_go hs; done)
      | (obtain ⟨-, hq⟩ := mi_wr hs; cases hq; done)
      | (obtain ⟨_, _, hq⟩ := mi_br hs; rcases hq with ⟨-, hq⟩ | ⟨-, hq⟩ <;> cases hq; done)
      | (obtain ⟨_, _, _, _, hq⟩ := mi_i2 hs; cases hq; done)
  | i2l =>
    simp only [mm_stp, mm_fI_eq, mm_fL_eq, mm_fN_eq] at hs
    repeat' split at hs
    all_goals first
      | (cases hs; done)
      | (cases mi_go hs; done)
      | (obtain ⟨-, hq⟩ := mi_wr hs; cases hq; done)
      | (obtain ⟨_, _, hq⟩ := mi_br hs; rcases hq with ⟨-, hq⟩ | ⟨-, hq⟩ <;> cases hq; done)
      | (obtain ⟨_, _, _, _, hq⟩ := mi_i2 hs; cases hq; done)
  | i2s => cases hs
  | iadd => obtain ⟨_, _, _, _, hq⟩ := mi_i2 (show mm_i2 nx L st _ = some _ from hs); cases hq
  | iaload =>
    simp only [mm_stp, mm_fI_eq, mm_fL_eq, mm_fN_eq] at hs
    repeat' split at hs
    all_goals first
      | (cases hs; done)
      | (cases mi_go hs; done)
      | (obtain ⟨-, hq⟩ := mi_wr hs; cases hq; done)
      | (obtain ⟨_, _, hq⟩ := mi_br hs; rcases hq with ⟨-, hq⟩ | ⟨-, hq⟩ <;> cases hq; done)
      | (obtain ⟨_, _, _, _, hq⟩ := mi_i2 hs; cases hq; done)
  | iand => obtain ⟨_, _, _, _, hq⟩ := mi_i2 (show mm_i2 nx L st _ = some _ from hs); cases hq
  | iastore =>
    simp only [mm_stp, mm_fI_eq, mm_fL_eq, mm_fN_eq] at hs
    repeat' split at hs
    all_goals first
      | (cases hs; done)
      | (cases mi_go hs; done)
      | (obtain ⟨-, hq⟩ := mi_wr hs; cases hq; done)
      | (obtain ⟨_, _, hq⟩ := mi_br hs; rcases hq with ⟨-, hq⟩ | ⟨-, hq⟩ <;> cases hq; done)
      | (obtain ⟨_, _, _, _, hq⟩ := mi_i2 hs; cases hq; done)
  | iconst x0 =>
    simp only [mm_stp, mm_fI_eq, mm_fL_eq, mm_fN_eq] at hs
    repeat' split at hs
    all_goals first
      | (cases hs; done)
      | (cases mi_go hs; done)
      | (obtain ⟨-, hq⟩ := mi_wr hs; cases hq; done)
      | (obtain ⟨_, _, hq⟩ := mi_br hs; rcases hq with ⟨-, hq⟩ | ⟨-, hq⟩ <;> cases hq; done)
      | (obtain ⟨_, _, _, _, hq⟩ := mi_i2 hs; cases hq; done)
  | idiv =>
    simp only [mm_stp, mm_fI_eq, mm_fL_eq, mm_fN_eq] at hs
    repeat' split at hs
    all_goals first
      | (cases hs; done)
      | (cases mi_go hs; done)
      | (obtain ⟨-, hq⟩ := mi_wr hs; cases hq; done)
      | (obtain ⟨_, _, hq⟩ := mi_br hs; rcases hq with ⟨-, hq⟩ | ⟨-, hq⟩ <;> cases hq; done)
      | (obtain ⟨_, _, _, _, hq⟩ := mi_i2 hs; cases hq; done)
  | if_acmp x0 x1 => cases hs
  | if_icmp x0 x1 =>
    simp only [mm_stp, mm_fI_eq, mm_fL_eq, mm_fN_eq] at hs
    repeat' split at hs
    all_goals first
      | (cases hs; done)
      | (cases mi_go hs; done)
      | (obtain ⟨-, hq⟩ := mi_wr hs; cases hq; done)
      | (obtain ⟨_, _, hq⟩ := mi_br hs; rcases hq with ⟨-, hq⟩ | ⟨-, hq⟩ <;> cases hq; done)
      | (obtain ⟨_, _, _, _, hq⟩ := mi_i2 hs; cases hq; done)
  | ifCond x0 x1 =>
    simp only [mm_stp, mm_fI_eq, mm_fL_eq, mm_fN_eq] at hs
    repeat' split at hs
    all_goals first
      | (cases hs; done)
      | (cases mi_go hs; done)
      | (obtain ⟨-, hq⟩ := mi_wr hs; cases hq; done)
      | (obtain ⟨_, _, hq⟩ := mi_br hs; rcases hq with ⟨-, hq⟩ | ⟨-, hq⟩ <;> cases hq; done)
      | (obtain ⟨_, _, _, _, hq⟩ := mi_i2 hs; cases hq; done)
  | ifnonnull x0 =>
    simp only [mm_stp, mm_fI_eq, mm_fL_eq, mm_fN_eq] at hs
    repeat' split at hs
    all_goals first
      | (cases hs; done)
      | (cases mi_go hs; done)
      | (obtain ⟨-, hq⟩ := mi_wr hs; cases hq; done)
      | (obtain ⟨_, _, hq⟩ := mi_br hs; rcases hq with ⟨-, hq⟩ | ⟨-, hq⟩ <;> cases hq; done)
      | (obtain ⟨_, _, _, _, hq⟩ := mi_i2 hs; cases hq; done)
  | ifnull x0 =>
    simp only [mm_stp, mm_fI_eq, mm_fL_eq, mm_fN_eq] at hs
    repeat' split at hs
    all_goals first
      | (cases hs; done)
      | (cases mi_go hs; done)
      | (obtain ⟨-, hq⟩ := mi_wr hs; cases hq; done)
      | (obtain ⟨_, _, hq⟩ := mi_br hs; rcases hq with ⟨-, hq⟩ | ⟨-, hq⟩ <;> cases hq; done)
      | (obtain ⟨_, _, _, _, hq⟩ := mi_i2 hs; cases hq; done)
  | iinc x0 x1 =>
    simp only [mm_stp, mm_fI_eq, mm_fL_eq, mm_fN_eq] at hs
    repeat' split at hs
    all_goals first
      | (cases hs; done)
      | (cases mi_go hs; done)
      | (obtain ⟨-, hq⟩ := mi_wr hs; cases hq; done)
      | (obtain ⟨_, _, hq⟩ := mi_br hs; rcases hq with ⟨-, hq⟩ | ⟨-, hq⟩ <;> cases hq; done)
      | (obtain ⟨_, _, _, _, hq⟩ := mi_i2 hs; cases hq; done)
  | iload x0 => obtain ⟨_, _, _, hq⟩ := mi_ld (show mm_ld nx L st (x0) _ = some _ from hs); cases hq
  | iload_n x0 => obtain ⟨_, _, _, hq⟩ := mi_ld (show mm_ld nx L st (x0.val) _ = some _ from hs); cases hq
  | imul => obtain ⟨_, _, _, _, hq⟩ := mi_i2 (show mm_i2 nx L st _ = some _ from hs); cases hq
  | ineg => obtain ⟨_, _, _, hq⟩ := mi_i1 (show mm_i1 nx L st _ = some _ from hs); cases hq
  | instanceof x0 => cases hs
  | invokedynamic x0 => cases hs
  | invokeinterface x0 x1 => cases hs
  | invokespecial x0 =>
    simp only [mm_stp] at hs
    split at hs
    · split at hs
      · split at hs
        · cases mi_go hs
        · cases hs
      · cases hs
    · exact Or.inl ⟨Or.inr (Or.inr ⟨_, rfl⟩), hs⟩
  | invokestatic x0 =>
    simp only [mm_stp] at hs
    split at hs
    · obtain ⟨q, hq⟩ := mi_cp hs; cases hq
    · obtain ⟨_, _, _, _, _, hq⟩ := mi_math hs; cases hq
    · obtain ⟨_, _, _, _, _, hq⟩ := mi_math hs; cases hq
    · exact Or.inl ⟨Or.inr (Or.inl ⟨_, rfl⟩), hs⟩
  | invokevirtual x0 => exact Or.inl ⟨Or.inl ⟨_, rfl⟩, hs⟩
  | ior => obtain ⟨_, _, _, _, hq⟩ := mi_i2 (show mm_i2 nx L st _ = some _ from hs); cases hq
  | irem =>
    simp only [mm_stp, mm_fI_eq, mm_fL_eq, mm_fN_eq] at hs
    repeat' split at hs
    all_goals first
      | (cases hs; done)
      | (cases mi_go hs; done)
      | (obtain ⟨-, hq⟩ := mi_wr hs; cases hq; done)
      | (obtain ⟨_, _, hq⟩ := mi_br hs; rcases hq with ⟨-, hq⟩ | ⟨-, hq⟩ <;> cases hq; done)
      | (obtain ⟨_, _, _, _, hq⟩ := mi_i2 hs; cases hq; done)
  | ireturn => cases hs; exact Or.inr (Or.inl ⟨rfl, rfl⟩)
  | ishl => obtain ⟨_, _, _, _, hq⟩ := mi_i2 (show mm_i2 nx L st _ = some _ from hs); cases hq
  | ishr => obtain ⟨_, _, _, _, hq⟩ := mi_i2 (show mm_i2 nx L st _ = some _ from hs); cases hq
  | istore x0 => obtain ⟨_, _, _, _, _, _, hq⟩ := mi_s1 (show mm_s1 nx L st (x0) _ = some _ from hs); cases hq
  | istore_n x0 => obtain ⟨_, _, _, _, _, _, hq⟩ := mi_s1 (show mm_s1 nx L st (x0.val) _ = some _ from hs); cases hq
  | isub => obtain ⟨_, _, _, _, hq⟩ := mi_i2 (show mm_i2 nx L st _ = some _ from hs); cases hq
  | iushr => obtain ⟨_, _, _, _, hq⟩ := mi_i2 (show mm_i2 nx L st _ = some _ from hs); cases hq
  | ixor => obtain ⟨_, _, _, _, hq⟩ := mi_i2 (show mm_i2 nx L st _ = some _ from hs); cases hq
  | jsr x0 => cases hs
  | jsr_w x0 => cases hs
  | l2d => cases hs
  | l2f => cases hs
  | l2i => cases hs
  | ladd => cases hs
  | laload =>
    simp only [mm_stp, mm_fI_eq, mm_fL_eq, mm_fN_eq] at hs
    repeat' split at hs
    all_goals first
      | (cases hs; done)
      | (cases mi_go hs; done)
      | (obtain ⟨-, hq⟩ := mi_wr hs; cases hq; done)
      | (obtain ⟨_, _, hq⟩ := mi_br hs; rcases hq with ⟨-, hq⟩ | ⟨-, hq⟩ <;> cases hq; done)
      | (obtain ⟨_, _, _, _, hq⟩ := mi_i2 hs; cases hq; done)
  | land => cases hs
  | lastore =>
    simp only [mm_stp, mm_fI_eq, mm_fL_eq, mm_fN_eq] at hs
    repeat' split at hs
    all_goals first
      | (cases hs; done)
      | (cases mi_go hs; done)
      | (obtain ⟨-, hq⟩ := mi_wr hs; cases hq; done)
      | (obtain ⟨_, _, hq⟩ := mi_br hs; rcases hq with ⟨-, hq⟩ | ⟨-, hq⟩ <;> cases hq; done)
      | (obtain ⟨_, _, _, _, hq⟩ := mi_i2 hs; cases hq; done)
  | lcmp =>
    simp only [mm_stp, mm_fI_eq, mm_fL_eq, mm_fN_eq] at hs
    repeat' split at hs
    all_goals first
      | (cases hs; done)
      | (cases mi_go hs; done)
      | (obtain ⟨-, hq⟩ := mi_wr hs; cases hq; done)
      | (obtain ⟨_, _, hq⟩ := mi_br hs; rcases hq with ⟨-, hq⟩ | ⟨-, hq⟩ <;> cases hq; done)
      | (obtain ⟨_, _, _, _, hq⟩ := mi_i2 hs; cases hq; done)
  | lconst x0 => cases mi_go (show mm_go nx L _ = some _ from hs)
  | ldc x0 =>
    simp only [mm_stp, mm_fI_eq, mm_fL_eq, mm_fN_eq] at hs
    repeat' split at hs
    all_goals first
      | (cases hs; done)
      | (cases mi_go hs; done)
      | (obtain ⟨-, hq⟩ := mi_wr hs; cases hq; done)
      | (obtain ⟨_, _, hq⟩ := mi_br hs; rcases hq with ⟨-, hq⟩ | ⟨-, hq⟩ <;> cases hq; done)
      | (obtain ⟨_, _, _, _, hq⟩ := mi_i2 hs; cases hq; done)
  | ldc_w x0 =>
    simp only [mm_stp, mm_fI_eq, mm_fL_eq, mm_fN_eq] at hs
    repeat' split at hs
    all_goals first
      | (cases hs; done)
      | (cases mi_go hs; done)
      | (obtain ⟨-, hq⟩ := mi_wr hs; cases hq; done)
      | (obtain ⟨_, _, hq⟩ := mi_br hs; rcases hq with ⟨-, hq⟩ | ⟨-, hq⟩ <;> cases hq; done)
      | (obtain ⟨_, _, _, _, hq⟩ := mi_i2 hs; cases hq; done)
  | ldc2_w x0 =>
    simp only [mm_stp, mm_fI_eq, mm_fL_eq, mm_fN_eq] at hs
    repeat' split at hs
    all_goals first
      | (cases hs; done)
      | (cases mi_go hs; done)
      | (obtain ⟨-, hq⟩ := mi_wr hs; cases hq; done)
      | (obtain ⟨_, _, hq⟩ := mi_br hs; rcases hq with ⟨-, hq⟩ | ⟨-, hq⟩ <;> cases hq; done)
      | (obtain ⟨_, _, _, _, hq⟩ := mi_i2 hs; cases hq; done)
  | ldiv => cases hs
  | lload x0 => obtain ⟨_, _, _, hq⟩ := mi_ld (show mm_ld nx L st (x0) _ = some _ from hs); cases hq
  | lload_n x0 => obtain ⟨_, _, _, hq⟩ := mi_ld (show mm_ld nx L st (x0.val) _ = some _ from hs); cases hq
  | lmul => cases hs
  | lneg => cases hs
  | lookupswitch x0 x1 => cases hs
  | lor => cases hs
  | lrem => cases hs
  | lreturn => cases hs
  | lshl => cases hs
  | lshr => cases hs
  | lstore x0 => obtain ⟨_, _, _, _, _, _, hq⟩ := mi_s2 (show mm_s2 nx L st (x0) _ = some _ from hs); cases hq
  | lstore_n x0 => cases hs
  | lsub => cases hs
  | lushr => cases hs
  | lxor => cases hs
  | monitorenter => cases hs
  | monitorexit => cases hs
  | multianewarray x0 x1 => cases hs
  | new x0 =>
    simp only [mm_stp] at hs
    split at hs
    · cases hs
    · split at hs
      · rename_i hb
        cases hs
        exact Or.inr (Or.inr ⟨_, _, _, rfl, rfl, rfl, Nat.ble_eq.mp hb⟩)
      · cases hs
    · cases hs
  | newarray x0 =>
    simp only [mm_stp, mm_fI_eq, mm_fL_eq, mm_fN_eq] at hs
    repeat' split at hs
    all_goals first
      | (cases hs; done)
      | (cases mi_go hs; done)
      | (obtain ⟨-, hq⟩ := mi_wr hs; cases hq; done)
      | (obtain ⟨_, _, hq⟩ := mi_br hs; rcases hq with ⟨-, hq⟩ | ⟨-, hq⟩ <;> cases hq; done)
      | (obtain ⟨_, _, _, _, hq⟩ := mi_i2 hs; cases hq; done)
  | nop => cases hs
  | pop =>
    simp only [mm_stp, mm_fI_eq, mm_fL_eq, mm_fN_eq] at hs
    repeat' split at hs
    all_goals first
      | (cases hs; done)
      | (cases mi_go hs; done)
      | (obtain ⟨-, hq⟩ := mi_wr hs; cases hq; done)
      | (obtain ⟨_, _, hq⟩ := mi_br hs; rcases hq with ⟨-, hq⟩ | ⟨-, hq⟩ <;> cases hq; done)
      | (obtain ⟨_, _, _, _, hq⟩ := mi_i2 hs; cases hq; done)
  | pop2 => cases hs
  | putfield x0 =>
    simp only [mm_stp, mm_fI_eq, mm_fL_eq, mm_fN_eq] at hs
    repeat' split at hs
    all_goals first
      | (cases hs; done)
      | (cases mi_go hs; done)
      | (obtain ⟨-, hq⟩ := mi_wr hs; cases hq; done)
      | (obtain ⟨_, _, hq⟩ := mi_br hs; rcases hq with ⟨-, hq⟩ | ⟨-, hq⟩ <;> cases hq; done)
      | (obtain ⟨_, _, _, _, hq⟩ := mi_i2 hs; cases hq; done)
  | putstatic x0 => cases hs
  | ret x0 => cases hs
  | return_ => cases hs; exact Or.inr (Or.inl ⟨rfl, rfl⟩)
  | saload => cases hs
  | sastore => cases hs
  | sipush x0 =>
    simp only [mm_stp, mm_fI_eq, mm_fL_eq, mm_fN_eq] at hs
    repeat' split at hs
    all_goals first
      | (cases hs; done)
      | (cases mi_go hs; done)
      | (obtain ⟨-, hq⟩ := mi_wr hs; cases hq; done)
      | (obtain ⟨_, _, hq⟩ := mi_br hs; rcases hq with ⟨-, hq⟩ | ⟨-, hq⟩ <;> cases hq; done)
      | (obtain ⟨_, _, _, _, hq⟩ := mi_i2 hs; cases hq; done)
  | swap => cases hs
  | tableswitch x0 x1 x2 x3 =>
    simp only [mm_stp, mm_fI_eq, mm_fL_eq, mm_fN_eq] at hs
    repeat' split at hs
    all_goals first
      | (cases hs; done)
      | (cases mi_go hs; done)
      | (obtain ⟨-, hq⟩ := mi_wr hs; cases hq; done)
      | (obtain ⟨_, _, hq⟩ := mi_br hs; rcases hq with ⟨-, hq⟩ | ⟨-, hq⟩ <;> cases hq; done)
      | (obtain ⟨_, _, _, _, hq⟩ := mi_i2 hs; cases hq; done)
-- BODY
theorem mi_cpLi (h0 : mm_copyi X h nx L st = some (.inl (pc', L', st', op))) : L' = L := by
  unfold mm_copyi at h0
  split at h0
  · split at h0
    · split at h0
      · rw [mm_fN_eq] at h0
        obtain ⟨-, hq⟩ := mi_wr h0
        cases hq
        rfl
      · cases h0
    · cases h0
  · cases h0
theorem mi_cpLb (h0 : mm_copyb X h nx L st = some (.inl (pc', L', st', op))) : L' = L := by
  unfold mm_copyb at h0
  split at h0
  · split at h0
    · split at h0
      · rw [mm_fN_eq] at h0
        obtain ⟨-, hq⟩ := mi_wr h0
        cases hq
        rfl
      · cases h0
    · cases h0
  · cases h0
theorem mi_cpL (h0 : mm_copy X h nx L st = some (.inl (pc', L', st', op))) : L' = L := by
  unfold mm_copy at h0
  split at h0
  · split at h0
    · exact mi_cpLb h0
    · exact mi_cpLi h0
  · cases h0
theorem mm_slen {i : Instr} (hs : mm_stp X h L st (pc, i, nx, ax) = some (.inl (pc', L', st', op))) : L'.length = L.length := by
  cases i with
  | aaload =>
    simp only [mm_stp, mm_fI_eq, mm_fL_eq, mm_fN_eq] at hs
    repeat' split at hs
    all_goals first
      | (cases hs; done)
      | (cases hs; rfl)
      | (cases mi_go hs; rfl)
      | (obtain ⟨-, hq⟩ := mi_wr hs; cases hq; rfl)
      | (obtain ⟨_, _, hq⟩ := mi_br hs; rcases hq with ⟨-, hq⟩ | ⟨-, hq⟩ <;> cases hq <;> rfl)
      | (obtain ⟨_, _, _, _, hq⟩ := mi_i2 hs; cases hq; rfl)
  | aastore =>
    simp only [mm_stp, mm_fI_eq, mm_fL_eq, mm_fN_eq] at hs
    repeat' split at hs
    all_goals first
      | (cases hs; done)
      | (cases hs; rfl)
      | (cases mi_go hs; rfl)
      | (obtain ⟨-, hq⟩ := mi_wr hs; cases hq; rfl)
      | (obtain ⟨_, _, hq⟩ := mi_br hs; rcases hq with ⟨-, hq⟩ | ⟨-, hq⟩ <;> cases hq <;> rfl)
      | (obtain ⟨_, _, _, _, hq⟩ := mi_i2 hs; cases hq; rfl)
  | aconst_null => cases mi_go (show mm_go nx L _ = some _ from hs); rfl
  | aload x0 => obtain ⟨_, _, _, hq⟩ := mi_ld (show mm_ld nx L st (x0) _ = some _ from hs); cases hq; rfl
  | aload_n x0 => obtain ⟨_, _, _, hq⟩ := mi_ld (show mm_ld nx L st (x0.val) _ = some _ from hs); cases hq; rfl
  | anewarray x0 =>
    simp only [mm_stp, mm_fI_eq, mm_fL_eq, mm_fN_eq] at hs
    repeat' split at hs
    all_goals first
      | (cases hs; done)
      | (cases hs; rfl)
      | (cases mi_go hs; rfl)
      | (obtain ⟨-, hq⟩ := mi_wr hs; cases hq; rfl)
      | (obtain ⟨_, _, hq⟩ := mi_br hs; rcases hq with ⟨-, hq⟩ | ⟨-, hq⟩ <;> cases hq <;> rfl)
      | (obtain ⟨_, _, _, _, hq⟩ := mi_i2 hs; cases hq; rfl)
  | areturn => cases hs
  | arraylength =>
    simp only [mm_stp, mm_fI_eq, mm_fL_eq, mm_fN_eq] at hs
    repeat' split at hs
    all_goals first
      | (cases hs; done)
      | (cases hs; rfl)
      | (cases mi_go hs; rfl)
      | (obtain ⟨-, hq⟩ := mi_wr hs; cases hq; rfl)
      | (obtain ⟨_, _, hq⟩ := mi_br hs; rcases hq with ⟨-, hq⟩ | ⟨-, hq⟩ <;> cases hq <;> rfl)
      | (obtain ⟨_, _, _, _, hq⟩ := mi_i2 hs; cases hq; rfl)
  | astore x0 => obtain ⟨_, _, _, _, _, hS, hq⟩ := mi_s1 (show mm_s1 nx L st (x0) _ = some _ from hs); cases hq; exact (mm_set1_keep hS).2.1
  | astore_n x0 => obtain ⟨_, _, _, _, _, hS, hq⟩ := mi_s1 (show mm_s1 nx L st (x0.val) _ = some _ from hs); cases hq; exact (mm_set1_keep hS).2.1
  | athrow => cases hs
  | baload =>
    simp only [mm_stp, mm_fI_eq, mm_fL_eq, mm_fN_eq] at hs
    repeat' split at hs
    all_goals first
      | (cases hs; done)
      | (cases hs; rfl)
      | (cases mi_go hs; rfl)
      | (obtain ⟨-, hq⟩ := mi_wr hs; cases hq; rfl)
      | (obtain ⟨_, _, hq⟩ := mi_br hs; rcases hq with ⟨-, hq⟩ | ⟨-, hq⟩ <;> cases hq <;> rfl)
      | (obtain ⟨_, _, _, _, hq⟩ := mi_i2 hs; cases hq; rfl)
  | bastore =>
    simp only [mm_stp, mm_fI_eq, mm_fL_eq, mm_fN_eq] at hs
    repeat' split at hs
    all_goals first
      | (cases hs; done)
      | (cases hs; rfl)
      | (cases mi_go hs; rfl)
      | (obtain ⟨-, hq⟩ := mi_wr hs; cases hq; rfl)
      | (obtain ⟨_, _, hq⟩ := mi_br hs; rcases hq with ⟨-, hq⟩ | ⟨-, hq⟩ <;> cases hq <;> rfl)
      | (obtain ⟨_, _, _, _, hq⟩ := mi_i2 hs; cases hq; rfl)
  | bipush x0 =>
    simp only [mm_stp, mm_fI_eq, mm_fL_eq, mm_fN_eq] at hs
    repeat' split at hs
    all_goals first
      | (cases hs; done)
      | (cases hs; rfl)
      | (cases mi_go hs; rfl)
      | (obtain ⟨-, hq⟩ := mi_wr hs; cases hq; rfl)
      | (obtain ⟨_, _, hq⟩ := mi_br hs; rcases hq with ⟨-, hq⟩ | ⟨-, hq⟩ <;> cases hq <;> rfl)
      | (obtain ⟨_, _, _, _, hq⟩ := mi_i2 hs; cases hq; rfl)
  | caload => cases hs
  | castore => cases hs
  | checkcast x0 => cases hs
  | d2f => cases hs
  | d2i => cases hs
  | d2l => cases hs
  | dadd => cases hs
  | daload => cases hs
  | dastore => cases hs
  | dcmp x0 =>
    simp only [mm_stp, mm_fI_eq, mm_fL_eq, mm_fN_eq] at hs
    repeat' split at hs
    all_goals first
      | (cases hs; done)
      | (cases hs; rfl)
      | (cases mi_go hs; rfl)
      | (obtain ⟨-, hq⟩ := mi_wr hs; cases hq; rfl)
      | (obtain ⟨_, _, hq⟩ := mi_br hs; rcases hq with ⟨-, hq⟩ | ⟨-, hq⟩ <;> cases hq <;> rfl)
      | (obtain ⟨_, _, _, _, hq⟩ := mi_i2 hs; cases hq; rfl)
  | dconst x0 =>
    match x0, hs with
    | 0, hs => cases mi_go (show mm_go nx L _ = some _ from hs); rfl
    | 1, hs => cases hs
  | ddiv =>
    simp only [mm_stp, mm_fI_eq, mm_fL_eq, mm_fN_eq] at hs
    repeat' split at hs
    all_goals first
      | (cases hs; done)
      | (cases hs; rfl)
      | (cases mi_go hs; rfl)
      | (obtain ⟨-, hq⟩ := mi_wr hs; cases hq; rfl)
      | (obtain ⟨_, _, hq⟩ := mi_br hs; rcases hq with ⟨-, hq⟩ | ⟨-, hq⟩ <;> cases hq <;> rfl)
      | (obtain ⟨_, _, _, _, hq⟩ := mi_i2 hs; cases hq; rfl)
  | dload x0 => obtain ⟨_, _, _, hq⟩ := mi_ld (show mm_ld nx L st (x0) _ = some _ from hs); cases hq; rfl
  | dload_n x0 => obtain ⟨_, _, _, hq⟩ := mi_ld (show mm_ld nx L st (x0.val) _ = some _ from hs); cases hq; rfl
  | dmul => cases hs
  | dneg => cases hs
  | drem => cases hs
  | dreturn => cases hs
  | dstore x0 => obtain ⟨_, _, _, _, _, hS, hq⟩ := mi_s2 (show mm_s2 nx L st (x0) _ = some _ from hs); cases hq; exact (mm_set2_keep hS).2.1
  | dstore_n x0 => cases hs
  | dsub => cases hs
  | dup =>
    simp only [mm_stp, mm_fI_eq, mm_fL_eq, mm_fN_eq] at hs
    repeat' split at hs
    all_goals first
      | (cases hs; done)
      | (cases hs; rfl)
      | (cases mi_go hs; rfl)
      | (obtain ⟨-, hq⟩ := mi_wr hs; cases hq; rfl)
      | (obtain ⟨_, _, hq⟩ := mi_br hs; rcases hq with ⟨-, hq⟩ | ⟨-, hq⟩ <;> cases hq <;> rfl)
      | (obtain ⟨_, _, _, _, hq⟩ := mi_i2 hs; cases hq; rfl)
  | dup_x1 =>
    simp only [mm_stp, mm_fI_eq, mm_fL_eq, mm_fN_eq] at hs
    repeat' split at hs
    all_goals first
      | (cases hs; done)
      | (cases hs; rfl)
      | (cases mi_go hs; rfl)
      | (obtain ⟨-, hq⟩ := mi_wr hs; cases hq; rfl)
      | (obtain ⟨_, _, hq⟩ := mi_br hs; rcases hq with ⟨-, hq⟩ | ⟨-, hq⟩ <;> cases hq <;> rfl)
      | (obtain ⟨_, _, _, _, hq⟩ := mi_i2 hs; cases hq; rfl)
  | dup_x2 => cases hs
  | dup2 =>
    simp only [mm_stp, mm_fI_eq, mm_fL_eq, mm_fN_eq] at hs
    repeat' split at hs
    all_goals first
      | (cases hs; done)
      | (cases hs; rfl)
      | (cases mi_go hs; rfl)
      | (obtain ⟨-, hq⟩ := mi_wr hs; cases hq; rfl)
      | (obtain ⟨_, _, hq⟩ := mi_br hs; rcases hq with ⟨-, hq⟩ | ⟨-, hq⟩ <;> cases hq <;> rfl)
      | (obtain ⟨_, _, _, _, hq⟩ := mi_i2 hs; cases hq; rfl)
  | dup2_x1 => cases hs
  | dup2_x2 => cases hs
  | f2d =>
    simp only [mm_stp, mm_fI_eq, mm_fL_eq, mm_fN_eq] at hs
    repeat' split at hs
    all_goals first
      | (cases hs; done)
      | (cases hs; rfl)
      | (cases mi_go hs; rfl)
      | (obtain ⟨-, hq⟩ := mi_wr hs; cases hq; rfl)
      | (obtain ⟨_, _, hq⟩ := mi_br hs; rcases hq with ⟨-, hq⟩ | ⟨-, hq⟩ <;> cases hq <;> rfl)
      | (obtain ⟨_, _, _, _, hq⟩ := mi_i2 hs; cases hq; rfl)
  | f2i => cases hs
  | f2l => cases hs
  | fadd => cases hs
  | faload => cases hs
  | fastore => cases hs
  | fcmp x0 => cases hs
  | fconst x0 =>
    match x0, hs with
    | 0, hs => cases mi_go (show mm_go nx L _ = some _ from hs); rfl
    | 1, hs => cases hs
    | 2, hs => cases hs
  | fdiv =>
    simp only [mm_stp, mm_fI_eq, mm_fL_eq, mm_fN_eq] at hs
    repeat' split at hs
    all_goals first
      | (cases hs; done)
      | (cases hs; rfl)
      | (cases mi_go hs; rfl)
      | (obtain ⟨-, hq⟩ := mi_wr hs; cases hq; rfl)
      | (obtain ⟨_, _, hq⟩ := mi_br hs; rcases hq with ⟨-, hq⟩ | ⟨-, hq⟩ <;> cases hq <;> rfl)
      | (obtain ⟨_, _, _, _, hq⟩ := mi_i2 hs; cases hq; rfl)
  | fload x0 => cases hs
  | fload_n x0 => cases hs
  | fmul => cases hs
  | fneg => cases hs
  | frem => cases hs
  | freturn => cases hs
  | fstore x0 => cases hs
  | fstore_n x0 => cases hs
  | fsub => cases hs
  | getfield x0 =>
    simp only [mm_stp, mm_fI_eq, mm_fL_eq, mm_fN_eq] at hs
    repeat' split at hs
    all_goals first
      | (cases hs; done)
      | (cases hs; rfl)
      | (cases mi_go hs; rfl)
      | (obtain ⟨-, hq⟩ := mi_wr hs; cases hq; rfl)
      | (obtain ⟨_, _, hq⟩ := mi_br hs; rcases hq with ⟨-, hq⟩ | ⟨-, hq⟩ <;> cases hq <;> rfl)
      | (obtain ⟨_, _, _, _, hq⟩ := mi_i2 hs; cases hq; rfl)
  | getstatic x0 =>
    simp only [mm_stp, mm_fI_eq, mm_fL_eq, mm_fN_eq] at hs
    repeat' split at hs
    all_goals first
      | (cases hs; done)
      | (cases hs; rfl)
      | (cases mi_go hs; rfl)
      | (obtain ⟨-, hq⟩ := mi_wr hs; cases hq; rfl)
      | (obtain ⟨_, _, hq⟩ := mi_br hs; rcases hq with ⟨-, hq⟩ | ⟨-, hq⟩ <;> cases hq <;> rfl)
      | (obtain ⟨_, _, _, _, hq⟩ := mi_i2 hs; cases hq; rfl)
  | goto x0 =>
    simp only [mm_stp, mm_fI_eq, mm_fL_eq, mm_fN_eq] at hs
    repeat' split at hs
    all_goals first
      | (cases hs; done)
      | (cases hs; rfl)
      | (cases mi_go hs; rfl)
      | (obtain ⟨-, hq⟩ := mi_wr hs; cases hq; rfl)
      | (obtain ⟨_, _, hq⟩ := mi_br hs; rcases hq with ⟨-, hq⟩ | ⟨-, hq⟩ <;> cases hq <;> rfl)
      | (obtain ⟨_, _, _, _, hq⟩ := mi_i2 hs; cases hq; rfl)
  | goto_w x0 => cases hs
  | i2b => obtain ⟨_, _, _, hq⟩ := mi_i1 (show mm_i1 nx L st _ = some _ from hs); cases hq; rfl
  | i2c => obtain ⟨_, _, _, hq⟩ := mi_i1 (show mm_i1 nx L st _ = some _ from hs); cases hq; rfl
  | i2d =>
    simp only [mm_stp, mm_fI_eq, mm_fL_eq, mm_fN_eq] at hs
    repeat' split at hs
    all_goals first
      | (cases hs; done)
      | (cases hs; rfl)
      | (cases mi_go hs; rfl)
      | (obtain ⟨-, hq⟩ := mi_wr hs; cases hq; rfl)
      | (obtain ⟨_, _, hq⟩ := mi_br hs; rcases hq with ⟨-, hq⟩ | ⟨-, hq⟩ <;> cases hq <;> rfl)
      | (obtain ⟨_, _, _, _, hq⟩ := mi_i2 hs; cases hq; rfl)
  | i2f =>
    simp only [mm_stp, mm_fI_eq, mm_fL_eq, mm_fN_eq] at hs
    repeat' split at hs
    all_goals first
      | (cases hs; done)
      | (cases hs; rfl)
      | (cases mi_go hs; rfl)
      | (obtain ⟨-, hq⟩ := mi_wr hs; cases hq; rfl)
      | (obtain ⟨_, _, hq⟩ := mi_br hs; rcases hq with ⟨-, hq⟩ | ⟨-, hq⟩ <;> cases hq <;> rfl)
      | (obtain ⟨_, _, _, _, hq⟩ := mi_i2 hs; cases hq; rfl)
  | i2l =>
    simp only [mm_stp, mm_fI_eq, mm_fL_eq, mm_fN_eq] at hs
    repeat' split at hs
    all_goals first
      | (cases hs; done)
      | (cases hs; rfl)
      | (cases mi_go hs; rfl)
      | (obtain ⟨-, hq⟩ := mi_wr hs; cases hq; rfl)
      | (obtain ⟨_, _, hq⟩ := mi_br hs; rcases hq with ⟨-, hq⟩ | ⟨-, hq⟩ <;> cases hq <;> rfl)
      | (obtain ⟨_, _, _, _, hq⟩ := mi_i2 hs; cases hq; rfl)
  | i2s => cases hs
  | iadd => obtain ⟨_, _, _, _, hq⟩ := mi_i2 (show mm_i2 nx L st _ = some _ from hs); cases hq; rfl
  | iaload =>
    simp only [mm_stp, mm_fI_eq, mm_fL_eq, mm_fN_eq] at hs
    repeat' split at hs
    all_goals first
      | (cases hs; done)
      | (cases hs; rfl)
      | (cases mi_go hs; rfl)
      | (obtain ⟨-, hq⟩ := mi_wr hs; cases hq; rfl)
      | (obtain ⟨_, _, hq⟩ := mi_br hs; rcases hq with ⟨-, hq⟩ | ⟨-, hq⟩ <;> cases hq <;> rfl)
      | (obtain ⟨_, _, _, _, hq⟩ := mi_i2 hs; cases hq; rfl)
  | iand => obtain ⟨_, _, _, _, hq⟩ := mi_i2 (show mm_i2 nx L st _ = some _ from hs); cases hq; rfl
  | iastore =>
    simp only [mm_stp, mm_fI_eq, mm_fL_eq, mm_fN_eq] at hs
    repeat' split at hs
    all_goals first
      | (cases hs; done)
      | (cases hs; rfl)
      | (cases mi_go hs; rfl)
      | (obtain ⟨-, hq⟩ := mi_wr hs; cases hq; rfl)
      | (obtain ⟨_, _, hq⟩ := mi_br hs; rcases hq with ⟨-, hq⟩ | ⟨-, hq⟩ <;> cases hq <;> rfl)
      | (obtain ⟨_, _, _, _, hq⟩ := mi_i2 hs; cases hq; rfl)
  | iconst x0 =>
    simp only [mm_stp, mm_fI_eq, mm_fL_eq, mm_fN_eq] at hs
    repeat' split at hs
    all_goals first
      | (cases hs; done)
      | (cases hs; rfl)
      | (cases mi_go hs; rfl)
      | (obtain ⟨-, hq⟩ := mi_wr hs; cases hq; rfl)
      | (obtain ⟨_, _, hq⟩ := mi_br hs; rcases hq with ⟨-, hq⟩ | ⟨-, hq⟩ <;> cases hq <;> rfl)
      | (obtain ⟨_, _, _, _, hq⟩ := mi_i2 hs; cases hq; rfl)
  | idiv =>
    simp only [mm_stp, mm_fI_eq, mm_fL_eq, mm_fN_eq] at hs
    repeat' split at hs
    all_goals first
      | (cases hs; done)
      | (cases hs; rfl)
      | (cases mi_go hs; rfl)
      | (obtain ⟨-, hq⟩ := mi_wr hs; cases hq; rfl)
      | (obtain ⟨_, _, hq⟩ := mi_br hs; rcases hq with ⟨-, hq⟩ | ⟨-, hq⟩ <;> cases hq <;> rfl)
      | (obtain ⟨_, _, _, _, hq⟩ := mi_i2 hs; cases hq; rfl)
  | if_acmp x0 x1 => cases hs
  | if_icmp x0 x1 =>
    simp only [mm_stp, mm_fI_eq, mm_fL_eq, mm_fN_eq] at hs
    repeat' split at hs
    all_goals first
      | (cases hs; done)
      | (cases hs; rfl)
      | (cases mi_go hs; rfl)
      | (obtain ⟨-, hq⟩ := mi_wr hs; cases hq; rfl)
      | (obtain ⟨_, _, hq⟩ := mi_br hs; rcases hq with ⟨-, hq⟩ | ⟨-, hq⟩ <;> cases hq <;> rfl)
      | (obtain ⟨_, _, _, _, hq⟩ := mi_i2 hs; cases hq; rfl)
  | ifCond x0 x1 =>
    simp only [mm_stp, mm_fI_eq, mm_fL_eq, mm_fN_eq] at hs
    repeat' split at hs
    all_goals first
      | (cases hs; done)
      | (cases hs; rfl)
      | (cases mi_go hs; rfl)
      | (obtain ⟨-, hq⟩ := mi_wr hs; cases hq; rfl)
      | (obtain ⟨_, _, hq⟩ := mi_br hs; rcases hq with ⟨-, hq⟩ | ⟨-, hq⟩ <;> cases hq <;> rfl)
      | (obtain ⟨_, _, _, _, hq⟩ := mi_i2 hs; cases hq; rfl)
  | ifnonnull x0 =>
    simp only [mm_stp, mm_fI_eq, mm_fL_eq, mm_fN_eq] at hs
    repeat' split at hs
    all_goals first
      | (cases hs; done)
      | (cases hs; rfl)
      | (cases mi_go hs; rfl)
      | (obtain ⟨-, hq⟩ := mi_wr hs; cases hq; rfl)
      | (obtain ⟨_, _, hq⟩ := mi_br hs; rcases hq with ⟨-, hq⟩ | ⟨-, hq⟩ <;> cases hq <;> rfl)
      | (obtain ⟨_, _, _, _, hq⟩ := mi_i2 hs; cases hq; rfl)
  | ifnull x0 =>
    simp only [mm_stp, mm_fI_eq, mm_fL_eq, mm_fN_eq] at hs
    repeat' split at hs
    all_goals first
      | (cases hs; done)
      | (cases hs; rfl)
      | (cases mi_go hs; rfl)
      | (obtain ⟨-, hq⟩ := mi_wr hs; cases hq; rfl)
      | (obtain ⟨_, _, hq⟩ := mi_br hs; rcases hq with ⟨-, hq⟩ | ⟨-, hq⟩ <;> cases hq <;> rfl)
      | (obtain ⟨_, _, _, _, hq⟩ := mi_i2 hs; cases hq; rfl)
  | iinc x0 x1 =>
    simp only [mm_stp, mm_fI_eq] at hs
    split at hs
    · split at hs
      · rename_i hS
        cases mi_go hs
        exact (mm_set1_keep hS).2.1
      · cases hs
    · cases hs
  | iload x0 => obtain ⟨_, _, _, hq⟩ := mi_ld (show mm_ld nx L st (x0) _ = some _ from hs); cases hq; rfl
  | iload_n x0 => obtain ⟨_, _, _, hq⟩ := mi_ld (show mm_ld nx L st (x0.val) _ = some _ from hs); cases hq; rfl
  | imul => obtain ⟨_, _, _, _, hq⟩ := mi_i2 (show mm_i2 nx L st _ = some _ from hs); cases hq; rfl
  | ineg => obtain ⟨_, _, _, hq⟩ := mi_i1 (show mm_i1 nx L st _ = some _ from hs); cases hq; rfl
  | instanceof x0 => cases hs
  | invokedynamic x0 => cases hs
  | invokeinterface x0 x1 => cases hs
  | invokespecial x0 =>
    simp only [mm_stp] at hs
    split at hs
    · split at hs
      · split at hs
        · cases mi_go hs; rfl
        · cases hs
      · cases hs
    · exact (mm_call_no hs).elim
  | invokestatic x0 =>
    simp only [mm_stp] at hs
    split at hs
    · rw [mi_cpL hs]
    · obtain ⟨_, _, _, _, _, hq⟩ := mi_math hs; cases hq; rfl
    · obtain ⟨_, _, _, _, _, hq⟩ := mi_math hs; cases hq; rfl
    · exact (mm_call_no hs).elim
  | invokevirtual x0 => exact (mm_call_no (show mm_call X h nx L st ax = _ from hs)).elim
  | ior => obtain ⟨_, _, _, _, hq⟩ := mi_i2 (show mm_i2 nx L st _ = some _ from hs); cases hq; rfl
  | irem =>
    simp only [mm_stp, mm_fI_eq, mm_fL_eq, mm_fN_eq] at hs
    repeat' split at hs
    all_goals first
      | (cases hs; done)
      | (cases hs; rfl)
      | (cases mi_go hs; rfl)
      | (obtain ⟨-, hq⟩ := mi_wr hs; cases hq; rfl)
      | (obtain ⟨_, _, hq⟩ := mi_br hs; rcases hq with ⟨-, hq⟩ | ⟨-, hq⟩ <;> cases hq <;> rfl)
      | (obtain ⟨_, _, _, _, hq⟩ := mi_i2 hs; cases hq; rfl)
  | ireturn => cases hs
  | ishl => obtain ⟨_, _, _, _, hq⟩ := mi_i2 (show mm_i2 nx L st _ = some _ from hs); cases hq; rfl
  | ishr => obtain ⟨_, _, _, _, hq⟩ := mi_i2 (show mm_i2 nx L st _ = some _ from hs); cases hq; rfl
  | istore x0 => obtain ⟨_, _, _, _, _, hS, hq⟩ := mi_s1 (show mm_s1 nx L st (x0) _ = some _ from hs); cases hq; exact (mm_set1_keep hS).2.1
  | istore_n x0 => obtain ⟨_, _, _, _, _, hS, hq⟩ := mi_s1 (show mm_s1 nx L st (x0.val) _ = some _ from hs); cases hq; exact (mm_set1_keep hS).2.1
  | isub => obtain ⟨_, _, _, _, hq⟩ := mi_i2 (show mm_i2 nx L st _ = some _ from hs); cases hq; rfl
  | iushr => obtain ⟨_, _, _, _, hq⟩ := mi_i2 (show mm_i2 nx L st _ = some _ from hs); cases hq; rfl
  | ixor => obtain ⟨_, _, _, _, hq⟩ := mi_i2 (show mm_i2 nx L st _ = some _ from hs); cases hq; rfl
  | jsr x0 => cases hs
  | jsr_w x0 => cases hs
  | l2d => cases hs
  | l2f => cases hs
  | l2i => cases hs
  | ladd => cases hs
  | laload =>
    simp only [mm_stp, mm_fI_eq, mm_fL_eq, mm_fN_eq] at hs
    repeat' split at hs
    all_goals first
      | (cases hs; done)
      | (cases hs; rfl)
      | (cases mi_go hs; rfl)
      | (obtain ⟨-, hq⟩ := mi_wr hs; cases hq; rfl)
      | (obtain ⟨_, _, hq⟩ := mi_br hs; rcases hq with ⟨-, hq⟩ | ⟨-, hq⟩ <;> cases hq <;> rfl)
      | (obtain ⟨_, _, _, _, hq⟩ := mi_i2 hs; cases hq; rfl)
  | land => cases hs
  | lastore =>
    simp only [mm_stp, mm_fI_eq, mm_fL_eq, mm_fN_eq] at hs
    repeat' split at hs
    all_goals first
      | (cases hs; done)
      | (cases hs; rfl)
      | (cases mi_go hs; rfl)
      | (obtain ⟨-, hq⟩ := mi_wr hs; cases hq; rfl)
      | (obtain ⟨_, _, hq⟩ := mi_br hs; rcases hq with ⟨-, hq⟩ | ⟨-, hq⟩ <;> cases hq <;> rfl)
      | (obtain ⟨_, _, _, _, hq⟩ := mi_i2 hs; cases hq; rfl)
  | lcmp =>
    simp only [mm_stp, mm_fI_eq, mm_fL_eq, mm_fN_eq] at hs
    repeat' split at hs
    all_goals first
      | (cases hs; done)
      | (cases hs; rfl)
      | (cases mi_go hs; rfl)
      | (obtain ⟨-, hq⟩ := mi_wr hs; cases hq; rfl)
      | (obtain ⟨_, _, hq⟩ := mi_br hs; rcases hq with ⟨-, hq⟩ | ⟨-, hq⟩ <;> cases hq <;> rfl)
      | (obtain ⟨_, _, _, _, hq⟩ := mi_i2 hs; cases hq; rfl)
  | lconst x0 => cases mi_go (show mm_go nx L _ = some _ from hs); rfl
  | ldc x0 =>
    simp only [mm_stp, mm_fI_eq, mm_fL_eq, mm_fN_eq] at hs
    repeat' split at hs
    all_goals first
      | (cases hs; done)
      | (cases hs; rfl)
      | (cases mi_go hs; rfl)
      | (obtain ⟨-, hq⟩ := mi_wr hs; cases hq; rfl)
      | (obtain ⟨_, _, hq⟩ := mi_br hs; rcases hq with ⟨-, hq⟩ | ⟨-, hq⟩ <;> cases hq <;> rfl)
      | (obtain ⟨_, _, _, _, hq⟩ := mi_i2 hs; cases hq; rfl)
  | ldc_w x0 =>
    simp only [mm_stp, mm_fI_eq, mm_fL_eq, mm_fN_eq] at hs
    repeat' split at hs
    all_goals first
      | (cases hs; done)
      | (cases hs; rfl)
      | (cases mi_go hs; rfl)
      | (obtain ⟨-, hq⟩ := mi_wr hs; cases hq; rfl)
      | (obtain ⟨_, _, hq⟩ := mi_br hs; rcases hq with ⟨-, hq⟩ | ⟨-, hq⟩ <;> cases hq <;> rfl)
      | (obtain ⟨_, _, _, _, hq⟩ := mi_i2 hs; cases hq; rfl)
  | ldc2_w x0 =>
    simp only [mm_stp, mm_fI_eq, mm_fL_eq, mm_fN_eq] at hs
    repeat' split at hs
    all_goals first
      | (cases hs; done)
      | (cases hs; rfl)
      | (cases mi_go hs; rfl)
      | (obtain ⟨-, hq⟩ := mi_wr hs; cases hq; rfl)
      | (obtain ⟨_, _, hq⟩ := mi_br hs; rcases hq with ⟨-, hq⟩ | ⟨-, hq⟩ <;> cases hq <;> rfl)
      | (obtain ⟨_, _, _, _, hq⟩ := mi_i2 hs; cases hq; rfl)
  | ldiv => cases hs
  | lload x0 => obtain ⟨_, _, _, hq⟩ := mi_ld (show mm_ld nx L st (x0) _ = some _ from hs); cases hq; rfl
  | lload_n x0 => obtain ⟨_, _, _, hq⟩ := mi_ld (show mm_ld nx L st (x0.val) _ = some _ from hs); cases hq; rfl
  | lmul => cases hs
  | lneg => cases hs
  | lookupswitch x0 x1 => cases hs
  | lor => cases hs
  | lrem => cases hs
  | lreturn => cases hs
  | lshl => cases hs
  | lshr => cases hs
  | lstore x0 => obtain ⟨_, _, _, _, _, hS, hq⟩ := mi_s2 (show mm_s2 nx L st (x0) _ = some _ from hs); cases hq; exact (mm_set2_keep hS).2.1
  | lstore_n x0 => cases hs
  | lsub => cases hs
  | lushr => cases hs
  | lxor => cases hs
  | monitorenter => cases hs
  | monitorexit => cases hs
  | multianewarray x0 x1 => cases hs
  | new x0 =>
    simp only [mm_stp, mm_fI_eq, mm_fL_eq, mm_fN_eq] at hs
    repeat' split at hs
    all_goals first
      | (cases hs; done)
      | (cases hs; rfl)
      | (cases mi_go hs; rfl)
      | (obtain ⟨-, hq⟩ := mi_wr hs; cases hq; rfl)
      | (obtain ⟨_, _, hq⟩ := mi_br hs; rcases hq with ⟨-, hq⟩ | ⟨-, hq⟩ <;> cases hq <;> rfl)
      | (obtain ⟨_, _, _, _, hq⟩ := mi_i2 hs; cases hq; rfl)
  | newarray x0 =>
    simp only [mm_stp, mm_fI_eq, mm_fL_eq, mm_fN_eq] at hs
    repeat' split at hs
    all_goals first
      | (cases hs; done)
      | (cases hs; rfl)
      | (cases mi_go hs; rfl)
      | (obtain ⟨-, hq⟩ := mi_wr hs; cases hq; rfl)
      | (obtain ⟨_, _, hq⟩ := mi_br hs; rcases hq with ⟨-, hq⟩ | ⟨-, hq⟩ <;> cases hq <;> rfl)
      | (obtain ⟨_, _, _, _, hq⟩ := mi_i2 hs; cases hq; rfl)
  | nop => cases hs
  | pop =>
    simp only [mm_stp, mm_fI_eq, mm_fL_eq, mm_fN_eq] at hs
    repeat' split at hs
    all_goals first
      | (cases hs; done)
      | (cases hs; rfl)
      | (cases mi_go hs; rfl)
      | (obtain ⟨-, hq⟩ := mi_wr hs; cases hq; rfl)
      | (obtain ⟨_, _, hq⟩ := mi_br hs; rcases hq with ⟨-, hq⟩ | ⟨-, hq⟩ <;> cases hq <;> rfl)
      | (obtain ⟨_, _, _, _, hq⟩ := mi_i2 hs; cases hq; rfl)
  | pop2 => cases hs
  | putfield x0 =>
    simp only [mm_stp, mm_fI_eq, mm_fL_eq, mm_fN_eq] at hs
    repeat' split at hs
    all_goals first
      | (cases hs; done)
      | (cases hs; rfl)
      | (cases mi_go hs; rfl)
      | (obtain ⟨-, hq⟩ := mi_wr hs; cases hq; rfl)
      | (obtain ⟨_, _, hq⟩ := mi_br hs; rcases hq with ⟨-, hq⟩ | ⟨-, hq⟩ <;> cases hq <;> rfl)
      | (obtain ⟨_, _, _, _, hq⟩ := mi_i2 hs; cases hq; rfl)
  | putstatic x0 => cases hs
  | ret x0 => cases hs
  | return_ => cases hs
  | saload => cases hs
  | sastore => cases hs
  | sipush x0 =>
    simp only [mm_stp, mm_fI_eq, mm_fL_eq, mm_fN_eq] at hs
    repeat' split at hs
    all_goals first
      | (cases hs; done)
      | (cases hs; rfl)
      | (cases mi_go hs; rfl)
      | (obtain ⟨-, hq⟩ := mi_wr hs; cases hq; rfl)
      | (obtain ⟨_, _, hq⟩ := mi_br hs; rcases hq with ⟨-, hq⟩ | ⟨-, hq⟩ <;> cases hq <;> rfl)
      | (obtain ⟨_, _, _, _, hq⟩ := mi_i2 hs; cases hq; rfl)
  | swap => cases hs
  | tableswitch x0 x1 x2 x3 =>
    simp only [mm_stp, mm_fI_eq, mm_fL_eq, mm_fN_eq] at hs
    repeat' split at hs
    all_goals first
      | (cases hs; done)
      | (cases hs; rfl)
      | (cases mi_go hs; rfl)
      | (obtain ⟨-, hq⟩ := mi_wr hs; cases hq; rfl)
      | (obtain ⟨_, _, hq⟩ := mi_br hs; rcases hq with ⟨-, hq⟩ | ⟨-, hq⟩ <;> cases hq <;> rfl)
      | (obtain ⟨_, _, _, _, hq⟩ := mi_i2 hs; cases hq; rfl)
theorem mm_exe_ok (hX : mm_Xok X) (hC : mm_Cok) (hYs : mm_Sys) (hTh : mm_Thr) {P : Nat → Option mm_M} {hh : Nat → List (Nat × Nat × Nat × Nat)} {d : Nat} {callee : Nat → List Value → mm_H → Option (mm_V × mm_H)} (hY : mm_Yok N P hh) (hCc : mm_Cc l G X N P hh d callee) (hmo : ∀ j as h v h', callee j as h = some (v, h') → mm_le h h')
    (hF : mm_Fx p s m args c cc own G X) (hmn : meth.name = mn) {M : mm_M} (hcode : ∀ mi ∈ M.1, mm_okI own mn N cc mi = true) (hN : ∀ j as h v h', callee j as h = some (v, h') → ∃ y, N j = some y) (hml : c.maxLocals = M.2.1) (hlocks : meth.locks = false) (hst : l.stackTraces = false) (hH : mm_Hok s args c cc own M) (hG : G.1 ≤ s.heap.size) (hRf : d + 9 ≤ R.frames) (hRl : 100 * d + 300 ≤ R.locals) {n0 s0 : Nat} (h0 : s.heap.size = G.1 + n0) {res : mm_R} {h' : mm_H} (hE : mm_End p l e R s m args below meth c Q G M n0 s0 res h') (hR : h'.length - n0 ≤ R.cells ∧ mm_sum h' - s0 ≤ R.slots) :
    ∀ n pc L st h, mm_exe X P callee M n pc L st h = some (res, h') → ∀ H locs ls, mm_W G h H → va_S (mm_Ar G) s.heap H locs → mm_LH G ls L → L.length = M.2.1 → n0 ≤ h.length → s0 ≤ mm_sum h → W p l e R s m args below meth c H locs (h.length - n0) (mm_sum h - s0) Q (F0 m pc ls (st.map (mm_dn G))) := by
  intro n
  induction n with
  | zero => intro pc L st h he; cases he
  | succ n ih =>
    intro pc L st h he H locs ls hW hS hl hLl hn0 hs0
    have hmono := mm_exe_mono hmo _ _ _ _ _ _ _ he
    simp only [mm_exe] at he
    split at he
    · cases he
    · rename_i mi hmi
      obtain ⟨hmem, hpc⟩ := mm_lk_mem _ _ _ hmi
      obtain ⟨pc0, i, nx, ax⟩ := mi
      have hpc : pc0 = pc := hpc
      subst hpc
      have hI := hcode _ hmem
      have hZ : s.heap.size + (h.length - n0) = G.1 + h.length := by omega
      have hmlL : c.maxLocals = L.length := hml.trans hLl.symm
      split at he
      · cases he
      · -- on, heap as it is
        rename_i pc' L' st' hstp
        refine mm_mv hX hC hYs hF hmn hmlL ⟨by have := hmono.1; omega, by have := hmono.2; omega⟩ (by omega) (by omega) hI hG hZ hW hS hl hstp (fun c' q => by cases q) (fun _ ls' hl' => ?_) (fun _ _ q => by cases q) (fun _ q => by cases q)
        exact ih _ _ _ _ he H locs ls' hW hS hl' ((mm_slen hstp).trans hLl) hn0 hs0
      · -- a store
        rename_i pc' L' st' k1 c1 hstp
        split at he
        · rename_i c0 hc0
          split at he
          · rename_i hb
            rw [Nat.beq_eq] at hb
            have e1 : (h.set k1 c1).length = h.length := List.length_set
            have e2 : mm_sum (h.set k1 c1) = mm_sum h := mm_sum_set _ _ _ _ hc0 hb
            refine mm_mv hX hC hYs hF hmn hmlL ⟨by have := hmono.1; omega, by have := hmono.2; omega⟩ (by omega) (by omega) hI hG hZ hW hS hl hstp (fun c' q => by cases q) (fun q => by cases q) (fun i9 c9 q hL H1 locs1 hW1 hS1 => ?_) (fun _ q => by cases q)
            cases q
            subst hL
            have := ih _ _ _ _ he H1 locs1 ls hW1 hS1 hl hLl (by omega) (by omega)
            rw [e1, e2] at this
            exact this
          · cases he
        · cases he
      · -- a new cell
        rename_i pc' L' st' c1 hstp
        have hm2 := mm_exe_mono hmo _ _ _ _ _ _ _ he
        have e1 : (h ++ [c1]).length = h.length + 1 := by rw [List.length_append, List.length_singleton]
        have e2 : mm_sum (h ++ [c1]) = mm_sum h + mm_sl c1 := mm_sum_push _ _
        have g1 := hm2.1
        have g2 := hm2.2
        rw [e1] at g1
        rw [e2] at g2
        refine mm_mv hX hC hYs hF hmn hmlL ⟨by have := hmono.1; omega, by have := hmono.2; omega⟩ (by omega) (by omega) hI hG hZ hW hS hl hstp (fun c' q => by cases q; exact ⟨by omega, by omega⟩) (fun q => by cases q) (fun _ _ q => by cases q) (fun c9 q hL H1 hW1 hS1 => ?_)
        cases q
        subst hL
        have := ih _ _ _ _ he H1 locs ls hW1 hS1 hl hLl (by omega) (by omega)
        rw [e1, e2, show h.length + 1 - n0 = h.length - n0 + 1 by omega, show mm_sum h + mm_sl c1 - s0 = mm_sum h - s0 + mm_sl c1 by omega] at this
        exact this
      · -- a call
        rename_i j as r hstp
        have hcl : ((∃ x, i = .invokevirtual x) ∨ (∃ x, i = .invokestatic x) ∨ ∃ x, i = .invokespecial x) ∧ mm_call X h nx L st ax = some (.inr (.inl (j, as, r))) := by
          rcases mm_inr hstp with q | ⟨-, q⟩ | ⟨_, _, _, -, -, q, -⟩
          · exact q
          · cases q
          · cases q
        have hdn : nx = pc0 + 3 := by
          obtain ⟨hd, hn⟩ := mm_okI_dec hI (fun a b c d q => by rcases hcl.1 with ⟨x, rfl⟩ | ⟨x, rfl⟩ | ⟨x, rfl⟩ <;> cases q)
          rcases hcl.1 with ⟨x, rfl⟩ | ⟨x, rfl⟩ | ⟨x, rfl⟩ <;> exact hn
        split at he
        · cases he
        · rename_i h1 hcal
          have hle := hmo _ _ _ _ _ hcal
          have hm2 := mm_exe_mono hmo _ _ _ _ _ _ _ he
          obtain ⟨g1, g2⟩ := hle
          obtain ⟨g3, g4⟩ := hm2
          have hrun := mc_run (meth := meth) (below := below) (e := e) (cells := h.length - n0) (slots := mm_sum h - s0) hX hY hCc hF hcl.1 hI hG hW hS hl hmlL hRf hRl hcl.2 hcal ⟨g1, g2⟩ ⟨by omega, by omega⟩
          refine mc_ret hrun hS (fun H1 locs1 hW1 hS1 => ?_)
          have := ih _ _ _ _ he H1 locs1 ls hW1 hS1 hl hLl (by omega) (by omega)
          rw [show h.length - n0 + (h1.length - h.length) = h1.length - n0 by omega, show mm_sum h - s0 + (mm_sum h1 - mm_sum h) = mm_sum h1 - s0 by omega]
          rw [hdn] at this
          exact this
        · rename_i v h1 hcal
          have hle := hmo _ _ _ _ _ hcal
          have hm2 := mm_exe_mono hmo _ _ _ _ _ _ _ he
          obtain ⟨g1, g2⟩ := hle
          obtain ⟨g3, g4⟩ := hm2
          have hrun := mc_run (meth := meth) (below := below) (e := e) (cells := h.length - n0) (slots := mm_sum h - s0) hX hY hCc hF hcl.1 hI hG hW hS hl hmlL hRf hRl hcl.2 hcal ⟨g1, g2⟩ ⟨by omega, by omega⟩
          refine mc_ret hrun hS (fun H1 locs1 hW1 hS1 => ?_)
          have := ih _ _ _ _ he H1 locs1 ls hW1 hS1 hl hLl (by omega) (by omega)
          rw [show h.length - n0 + (h1.length - h.length) = h1.length - n0 by omega, show mm_sum h - s0 + (mm_sum h1 - mm_sum h) = mm_sum h1 - s0 by omega]
          rw [hdn] at this
          exact this
        · rename_i ci h1 hcal
          have hle := hmo _ _ _ _ _ hcal
          obtain ⟨g1, g2⟩ := hle
          split at he
          · rename_i t k hhd
            cases he
            have hrun := mc_run (meth := meth) (below := below) (e := e) (cells := h.length - n0) (slots := mm_sum h - s0) hX hY hCc hF hcl.1 hI hG hW hS hl hmlL hRf hRl hcl.2 hcal ⟨g1, g2⟩ ⟨by omega, by omega⟩
            refine mc_thr hrun hS (fun q ce rr H1 locs1 hrr hW1 hS1 hce hcv hcl1 => ?_)
            rw [show h.length - n0 + (h'.length - h.length) = h'.length - n0 by omega, show mm_sum h - s0 + (mm_sum h' - mm_sum h) = mm_sum h' - s0 by omega]
            unfold mm_Hok at hH
            unfold mm_hd at hhd
            split at hhd
            · cases hhd
            · rename_i a b t9 k9 cx hM4
              rw [hM4] at hH
              obtain ⟨x, qx, x1, x2, x3, x4, x5, x6, x7, x8, nx9, ax9, x9⟩ := hH
              split at hhd
              · rename_i hb
                cases hhd
                simp only [Bool.and_eq_true, Nat.ble_eq, Nat.beq_eq] at hb
                obtain ⟨b1, b2, b3⟩ := hb
                subst b3
                cases hrr.symm.trans x4
                refine vx_catch (own := own) hF.2.2.1 [] x [] (by rw [x1]; rfl) (fun z hz => by cases hz) (x2 _ b1 (by omega)) x3 x5 x6 hce hcv hcl1 ?_
                rcases x7 with ⟨kf, k1, k2, k3, k4⟩ | ⟨k2, k3, k4⟩
                · refine lv_astore_n hF.1 hF.2.1 k2 k1 hl (by omega) rfl (fun ls1 hl1 => ?_)
                  refine lv_iconst (v := 1) hF.1 hF.2.1 k3 (by decide) ?_
                  have := hE H1 locs1 ls1 _ _ _ hW1 hS1 (mm_LHk (by omega) hl1) x9 rfl
                  rw [k4] at this
                  exact this
                · refine lv_astore hF.1 hF.2.1 k2 hl (by omega) rfl (fun ls1 hl1 => ?_)
                  refine lv_iconst (v := 1) hF.1 hF.2.1 k3 (by decide) ?_
                  have := hE H1 locs1 ls1 _ _ _ hW1 hS1 (mm_LHk (by omega) hl1) x9 rfl
                  rw [k4] at this
                  exact this
              · cases hhd
            · cases hhd
          · rename_i hhd
            cases he
            have hM4 : M.2.2.2 = [] := by
              unfold mm_hd at hhd
              split at hhd
              · assumption
              · split at hhd <;> cases hhd
              · cases hhd
            have hrun := mc_run (meth := meth) (below := below) (e := e) (cells := h.length - n0) (slots := mm_sum h - s0) hX hY hCc hF hcl.1 hI hG hW hS hl hmlL hRf hRl hcl.2 hcal ⟨g1, g2⟩ ⟨by omega, by omega⟩
            refine mc_thr hrun hS (fun q ce rr H1 locs1 hrr hW1 hS1 hce hcv hcl1 => ?_)
            rw [show h.length - n0 + (h'.length - h.length) = h'.length - n0 by omega, show mm_sum h - s0 + (mm_sum h' - mm_sum h) = mm_sum h' - s0 by omega]
            unfold mm_Hok at hH
            rw [hM4] at hH
            obtain ⟨Qc, XC, hQ, hXC⟩ := hE
            rw [hQ]
            exact vx_out (fun x hx => (hH x hx).elim) hlocks hce hcv hcl1 (fun t ht hal => hXC rr hrr t hal (by rw [ht]; exact hW1) (hS1.F ht)) hS1.2.2 (Nat.le_refl _) (Nat.le_refl _)
          · cases he
      · -- a return
        rename_i hstp
        cases he
        have hri : mm_isR i = true := by
          rcases mm_inr hstp with ⟨-, q⟩ | ⟨q, -⟩ | ⟨_, _, _, -, -, q, -⟩
          · exfalso
            unfold mm_call at q
            split at q
            · split at q
              · cases q
              · split at q
                · cases q
                all_goals first
                  | (split at q <;> cases q)
                  | cases q
            · cases q
          · exact q
          · cases q
        exact hE H locs ls i nx ax hW hS hl hmem hri
      · -- a throw
        rename_i ci hstp
        split at he
        · rename_i hM4
          cases he
          obtain ⟨x, ci9, t9, rfl, rfl, e9, hst4⟩ : ∃ x ci9 t9, i = .new x ∧ ax = 1 :: ci9 :: t9 ∧ ci9 = ci ∧ st.length ≤ 4 := by
            rcases mm_inr hstp with ⟨-, q⟩ | ⟨-, q⟩ | ⟨x, ci9, t9, e1, e2, q, e3⟩
            · exfalso
              unfold mm_call at q
              split at q
              · split at q
                · cases q
                · split at q
                  · cases q
                  all_goals first
                    | (split at q <;> cases q)
                    | cases q
              · cases q
            · cases q
            · cases q; exact ⟨x, _, t9, e1, e2, rfl, e3⟩
          subst e9
          obtain ⟨hd, hn⟩ := mm_okI_dec hI (fun _ _ _ _ q => by cases q)
          obtain ⟨lw, hnd⟩ := mm_okI_need hI
          have hw := mm_need_wd hF hI hnd
          have hr := mm_okI_rest hI
          match t9, hnd, hr with
          | [], hnd, hr => cases hnd
          | [p0], hnd, hr => cases hr
          | [p0, ic], hnd, hr =>
            simp only [mm_rest, Bool.and_eq_true, decide_eq_true_eq] at hr
            obtain ⟨r1, r2, r3, r4⟩ := hr
            obtain ⟨q, t1, t2, t3, t4, t5, t6⟩ := hTh _ _ _ r1
            simp only [mm_need, t1] at hnd
            cases hnd
            obtain ⟨hx, hb, hown, hts, hEv, hXf⟩ := hF
            unfold mm_Hok at hH
            rw [hM4] at hH
            obtain ⟨Qc, XC, hQ, hXC⟩ := hE
            rw [hQ]
            have hgood : ∀ w ∈ Jvm.Cond.classLink own x q.1 :: Jvm.Cond.initialized q.1 :: vx_at0 own ic q.1 mm_nm3, vx_ot w = true := by
              intro w hw9
              rcases List.mem_cons.mp hw9 with rfl | hw9
              · rfl
              · rcases List.mem_cons.mp hw9 with rfl | hw9
                · rfl
                · exact (t6 w hw9).2.2
            have hat : ∀ w ∈ vx_at0 own ic q.1 mm_nm3, w.before args s = true := fun w hw9 => by
              obtain ⟨i9, hi9⟩ := List.getElem?_of_mem (t6 w hw9).1
              exact mm_wd ⟨hx, hb, hown, hts, hEv, hXf⟩ (t6 w hw9).2.1 hi9
            have e1 : (h ++ [(.inr (.inr (ci9, [])) : mm_C)]).length = h.length + 1 := by rw [List.length_append, List.length_singleton]
            have e2 : mm_sum (h ++ [(.inr (.inr (ci9, [])) : mm_C)]) = mm_sum h + 6 := by
              rw [mm_sum_push]
              congr 1
              show (match Nat.ble 15 ci9 with | true => 6 | false => ([] : List Value).length) = 6
              rw [Nat.ble_eq.mpr t4]
            have hcat : ((st.map (mm_dn G)).map fun v => v.category).sum ≤ 8 := by rw [mm_map_cat]; exact mm_rest8 st hst4
            refine mx_throw0 (ls := ls) (names := mm_nm3) (A := mm_Ar G) hx hb hst hown t3 (by decide +kernel) (hw _ List.mem_cons_self) (hts _ t5) hat hgood hEv.2.2.2.2.2.1.1 hEv.2.2.2.2.2.1.2 hS (hl.1.trans hmlL.symm) hd r2 r3 r4 (fun x9 hx9 => (hH x9 hx9).elim) (by show 2 + 3 < _; omega) (by show _ + (13 * (2 + 1) + 42) ≤ _; omega) (by omega) (by omega) hlocks (fun t hal hsz hpr hce => ?_) hS.2.2 (by rw [e1]; omega) (by rw [e2]; omega)
            have hwsz := hW.2
            refine hXC q t1 t hal ?_ ⟨by have := hS.1; omega, fun q9 h1 h2 => by rw [hpr q9 (Nat.lt_of_lt_of_le h1 hS.1)]; exact hS.2.1 q9 h1 h2⟩
            refine ⟨?_, by rw [e1, hsz, hwsz]; omega⟩
            rw [mm_ws_push]
            refine va_P.app (hW.1.kept (fun k9 q9 hk9 => hpr _ (hW.1 k9 q9 hk9).lt)) (fun k9 q9 hk9 => ?_)
            have hk0 : k9 = 0 := by
              have := (List.getElem?_eq_some_iff.mp hk9).1
              simpa using this
            subst hk0
            cases hk9
            obtain ⟨ce, c1, c2, c3⟩ := hce
            have hcl := mm_cl_get t1
            refine ⟨_, hcl, ce, by rw [← hwsz]; exact c1, ?_, c2, fun k9 hk9 => by rw [t2] at hk9; cases hk9⟩
            exact Option.some.inj (c3.symm.trans (hEv.1.1 ci9 _ hcl).2.1)
          | _ :: _ :: _ :: _, hnd, hr => cases hr
        · cases he
end MB
