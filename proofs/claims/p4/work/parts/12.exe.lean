/-! ===== a throw of a new exception, its cell said exactly (follows the kit's vx_throw0); the walk of a whole body ===== -/
section MT
variable {p : Program} {l : Launch} {e : Env} {R : Room} {s : State} {m : MethodId} {args : Array Value} {below : List Frame} {meth : Method} {c : Code} {H : Heap} {locs : List Loc} {cells slots : Nat} {Q : State → Prop}
variable {mc ms : Nat} {free : Addr → Prop} {ls : Array Slot} {st0 rest : List Value}
variable {Qc : Array Value → State → Outcome → State → Prop} {XC : String → State → State → Prop}
theorem mx_throw0 {cc : ByteArray} {pc : Nat} (hexec : p.tables.exec = Jvm.exec) (hb : c.code = cc) (hl : l.stackTraces = false) {own cls : String} {names : List String} {ik ic mc ms : Nat} {A : Nat → Prop}
    (hown : s.vm.findClass own = some m.cls) (hcls : Bundle.fit cls = true) (hnames : ∀ n ∈ names, Bundle.fit n = true)
    (hk : (Cond.classLink own ik cls).before args s = true) (hini : (Cond.initialized cls).before args s = true) (hat : ∀ w ∈ vx_at0 own ic cls names, w.before args s = true)
    (hgood : ∀ w ∈ Cond.classLink own ik cls :: Cond.initialized cls :: vx_at0 own ic cls names, vx_ot w = true)
    (hU : vx_Zq Bundle.tN "UNASSIGNED_STACK" Bundle.steD A s s.heap) (hN : vx_Zq Bundle.tN "SUPPRESSED_SENTINEL" Bundle.listD A s s.heap) (hS : va_S A s.heap H locs) (hsize : ls.size = c.maxLocals)
    (d0 : decode cc pc = .ok (.new ik, 3)) (d3 : decode cc (pc + 3) = .ok (.dup, 1)) (d4 : decode cc (pc + 4) = .ok (.invokespecial ic, 3)) (d7 : decode cc (pc + 7) = .ok (.athrow, 1))
    (hout : ∀ x ∈ c.exceptionTable.toList, covers x (pc + 7) = false)
    (hRframes : names.length + 3 < R.frames) (hRlocals : (rest.map fun v => v.category).sum + (13 * (names.length + 1) + 42) ≤ R.locals) (hRcells : cells + 1 ≤ R.cells) (hRslots : slots + 6 ≤ R.slots) (hlocks : meth.locks = false)
    (hx : ∀ t : State, s.vm.Alike t.vm → t.heap.size = H.size + 1 → (∀ q : Nat, q < H.size → t.heap[q]? = H[q]?) → (∃ ce : Cell, t.heap[H.size]? = some ce ∧ ce.vm = .none ∧ s.vm.findClass cls = some ce.cls) → XC cls s t)
    (hf : ∀ z ∈ locs, free z.base) (hc : cells + 1 ≤ mc) (hs : slots + 6 ≤ ms) :
    W p l e R s m args below meth c H locs cells slots (vx_MQ below Qc XC args s mc ms free) (F0 m pc ls rest) := by
  intro T hT X
  have htr : e.platform.stackTraces = false := (show e.platform.stackTraces = l.stackTraces by rw [X.admits.platform]).trans hl
  have Y := vx_rebase X (R' := { frames := R.frames, locals := R.locals, cells := 1, slots := 6 }) (Nat.le_refl _) (Nat.le_refl _) hRcells hRslots
  obtain ⟨s', hA⟩ : ∃ z, z = (T.setVm s.vm).setFrames (.invoking m args :: below) := ⟨_, rfl⟩
  rw [← hA] at Y
  have hvm : s'.vm = s.vm := by rw [hA]; rfl
  have hhp : s'.heap = H := by rw [hA]; exact hT
  have hW0 : s.WarmedH s'.vm := by rw [hvm]; exact State.WarmedH.refl s
  have hat' : ∀ w ∈ vx_at0 own ic cls names, w.before args s' = true := fun w hw => vx_ot_at hW0 hvm.symm (hgood w (List.mem_cons_of_mem _ (List.mem_cons_of_mem _ hw))) (hat w hw)
  have hk' : (Cond.classLink own ik cls).before args s' = true := vx_ot_at hW0 hvm.symm (hgood _ List.mem_cons_self) hk
  have hini' : (Cond.initialized cls).before args s' = true := vx_ot_at hW0 hvm.symm (hgood _ (List.mem_cons_of_mem _ List.mem_cons_self)) hini
  have hU' : vx_Zq Bundle.tN "UNASSIGNED_STACK" Bundle.steD A s' s'.heap := by rw [hhp]; exact vx_Zq.moved hW0.alike (hU.kept hS.2.1)
  have hN' : vx_Zq Bundle.tN "SUPPRESSED_SENTINEL" Bundle.listD A s' s'.heap := by rw [hhp]; exact vx_Zq.moved hW0.alike (hN.kept hS.2.1)
  have h : ∀ w ∈ Bundle.ownAtoms0 own ic cls names, w.before args s' = true := vx_own hat' (vx_isRefq hU'.1) (vx_isRefq hN'.1) hU'.2.word hN'.2.word
  have hown' : s'.vm.findClass own = some m.cls := by rw [hvm]; exact hown
  have hins : (Cond.instantiable cls 6).before args s' = true := h _ (by simp [Bundle.ownAtoms0])
  obtain ⟨vm₁, cX, kX, hfX, hkX, -, -, X₁, st1⟩ := Y.newCold hexec (own := own) (C := cls) (index := ik) (n := 6) hown' hk' hins hini'
    (g := F0 m pc ls rest) rfl (by rw [hb]; exact d0) (Nat.le_refl _) (Nat.le_refl _)
  generalize hT1 : (T.setVm vm₁).pushCell { cls := cX, slots := kX.instanceTypes.map defaultValue, vm := .none } = T1 at X₁ st1
  have hcat : (Value.ref T.heap.size).category = 1 := rfl
  have hcellA : T1.heap[T.heap.size]? = some (freshCell cX kX) := by rw [← hT1]; exact State.heap_pushCell_size _ _
  have d3' : decode c.code (pc + 3) = .ok (.dup, 1) := by rw [hb]; exact d3
  obtain ⟨U, hsteps, hrun, hend, hW, hsame, ce, hce, hO⟩ := X₁.ctorThrow0 hexec htr (own := own) (cls := cls) (names := names) (ic := ic) hown' hcls hnames h (fun x hx => nomatch hx) hfX hkX hcellA (by rw [hhp, hT]; exact Nat.le_refl _)
    (g := { method := m, pc := pc + 4, locals := ls, stack := .ref T.heap.size :: .ref T.heap.size :: rest, locked := none }) rfl hsize rfl rfl (rest := rest) rfl
    (by rw [hb]; exact d4) (by rw [hb]; exact d7) hout hRframes (by simp only [List.map_cons, List.sum_cons, hcat]; omega) hlocks
  obtain ⟨f1, f2⟩ := vx_frame hsame
  rw [hhp] at f1 f2
  have hWs : s.WarmedH U.vm := State.WarmedH.trans hW0 hW
  have hcl : s.vm.findClass cls = some ce.cls := by
    have h9 := hO.cls
    rw [hvm] at h9
    exact h9
  have hall : s.sameButNew ({ U with vm := s.vm } : State) locs mc ms := by
    subst hA
    obtain ⟨e1, e2⟩ := hsame
    rw [State.setFrames_setFrames] at e1
    have h2 : (T.setVm s.vm).sameButNew ({ U with vm := s.vm } : State) [] (0 + 1) (0 + 6) := ⟨e1, e2⟩
    have h3 := X.same.trans h2
    rw [List.append_nil] at h3
    exact h3.mono hc hs
  have hsz9 : U.heap.size = H.size + 1 := by
    have g1 : U.heap.size ≤ s'.heap.size + 1 := hsame.2.2.1
    have g2 : T.heap.size < U.heap.size := (Array.getElem?_eq_some_iff.mp hce).1
    rw [hhp] at g1
    rw [hT] at g2
    omega
  refine ⟨U, ?_, .threw T.heap.size, hrun, hend, Or.inr ⟨T.heap.size, rfl, cls, ce, locs, hx U hWs.alike hsz9 (fun q hq => f2 q hq (fun z hz => nomatch hz)) ⟨ce, by rw [← hT]; exact hce, hO.vm, hcl⟩, hce, hO.vm, hcl, hWs, hall, hf⟩⟩
  refine st1 _ ?_
  show Steps p.tables e below (T1.setTop { method := m, pc := pc + 3, locals := ls, stack := .ref T.heap.size :: rest, locked := none }) _
  jvm_step X₁.here [X₁.here.top, hexec, d3', Value.category]
  exact hsteps
end MT
section MV
variable {p : Program} {l : Launch} {e : Env} {R : Room} {s : State} {m : MethodId} {args : Array Value} {below : List Frame} {meth : Method} {c : Code} {H : Heap} {locs : List Loc} {cells slots : Nat} {Q : State → Prop}
variable {cc : ByteArray} {pc : Nat} {ls : Array Slot} {G : mm_G} {X : mm_X} {h : mm_H} {L L' : mm_L} {st st' : List Value} {nx pc' : Nat} {ax : List Nat} {op : Option ((Nat × mm_C) ⊕ mm_C)} {own mn : String} {N : Nat → Option mm_N}
theorem mm_call_no {a : Nat × mm_L × List Value × Option ((Nat × mm_C) ⊕ mm_C)} (hs : mm_call X h nx L st ax = some (.inl a)) : False := by
  unfold mm_call at hs
  split at hs
  · split at hs
    · cases hs
    · split at hs
      · cases hs
      all_goals first
        | (split at hs <;> cases hs)
        | cases hs
  · cases hs
/-- every instruction that goes on in its own frame -/
theorem mm_mv (hX : mm_Xok X) (hC : mm_Cok) (hY : mm_Sys) (hF : mm_Fx p s m args c cc own G X) (hmn : meth.name = mn) (hml : c.maxLocals = L.length) (hc9 : cells ≤ R.cells ∧ slots ≤ R.slots) (hRf : 1 ≤ R.frames) (hRl : 200 ≤ R.locals) {i : Instr} (hI : mm_okI own mn N cc (pc, i, nx, ax) = true) (hG : G.1 ≤ s.heap.size) (hZ : s.heap.size + cells = G.1 + h.length) (hW : mm_W G h H) (hS : va_S (mm_Ar G) s.heap H locs) (hl : mm_LH G ls L)
    (hs : mm_stp X h L st (pc, i, nx, ax) = some (.inl (pc', L', st', op)))
    (hR : ∀ c', op = some (.inr c') → cells + 1 ≤ R.cells ∧ slots + mm_sl c' ≤ R.slots)
    (k0 : op = none → ∀ ls', mm_LH G ls' L' → W p l e R s m args below meth c H locs cells slots Q (F0 m pc' ls' (st'.map (mm_dn G))))
    (k1 : ∀ i c', op = some (.inl (i, c')) → L' = L → ∀ H' locs', mm_W G (h.set i c') H' → va_S (mm_Ar G) s.heap H' locs' → W p l e R s m args below meth c H' locs' cells slots Q (F0 m pc' ls (st'.map (mm_dn G))))
    (k2 : ∀ c', op = some (.inr c') → L' = L → ∀ H', mm_W G (h ++ [c']) H' → va_S (mm_Ar G) s.heap H' locs → W p l e R s m args below meth c H' locs (cells + 1) (slots + mm_sl c') Q (F0 m pc' ls (st'.map (mm_dn G)))) :
    W p l e R s m args below meth c H locs cells slots Q (F0 m pc ls (st.map (mm_dn G))) := by
  cases i with
  | aaload => exact mh_aaload hX hF hI hW hS hl hs k0
  | aastore => exact mh_aastore hF hI hG hZ hW hS hl hs k1
  | aconst_null =>
    obtain ⟨hd, hn⟩ := mm_okI_dec hI (fun _ _ _ _ q => by cases q)
    subst hn
    exact mp_null hF.1 hF.2.1 hd hl hs k0
  | aload x0 =>
    obtain ⟨hd, hn⟩ := mm_okI_dec hI (fun _ _ _ _ q => by cases q)
    subst hn
    exact mp_aload hF.1 hF.2.1 hd hl hs k0
  | aload_n x0 =>
    obtain ⟨hd, hn⟩ := mm_okI_dec hI (fun _ _ _ _ q => by cases q)
    subst hn
    exact mp_aload_n hF.1 hF.2.1 hd hl hs k0
  | anewarray x0 => exact mh_anewarray hY hF hI hG hZ hW hS hl hs hR k2
  | areturn => cases hs
  | arraylength => exact mh_alen hX hF hI hW hS hl hs k0
  | astore x0 =>
    obtain ⟨hd, hn⟩ := mm_okI_dec hI (fun _ _ _ _ q => by cases q)
    subst hn
    exact mp_astore hF.1 hF.2.1 hd hl hs k0
  | astore_n x0 =>
    obtain ⟨hd, hn⟩ := mm_okI_dec hI (fun _ _ _ _ q => by cases q)
    subst hn
    exact mp_astore_n hF.1 hF.2.1 hd hl hs k0
  | athrow => cases hs
  | baload => exact mh_baload hX hF hI hW hS hl hs k0
  | bastore => exact mh_bastore hF hI hG hZ hW hS hl hs k1
  | bipush x0 =>
    obtain ⟨hd, hn⟩ := mm_okI_dec hI (fun _ _ _ _ q => by cases q)
    subst hn
    exact mp_bipush hF.1 hF.2.1 hd hl hs k0
  | caload => cases hs
  | castore => cases hs
  | checkcast x0 => cases hs
  | d2f => cases hs
  | d2i => cases hs
  | d2l => cases hs
  | dadd => cases hs
  | daload => cases hs
  | dastore => cases hs
  | dcmp x0 =>
    obtain ⟨hd, hn⟩ := mm_okI_dec hI (fun _ _ _ _ q => by cases q)
    subst hn
    exact mp_dcmp hF.1 hF.2.1 hd hl hs k0
  | dconst x0 =>
    obtain ⟨hd, hn⟩ := mm_okI_dec hI (fun _ _ _ _ q => by cases q)
    subst hn
    match x0, hd, hs with
    | 0, hd, hs => exact mp_dconst0 hF.1 hF.2.1 hd hl hs k0
    | 1, hd, hs => cases hs
  | ddiv =>
    obtain ⟨hd, hn⟩ := mm_okI_dec hI (fun _ _ _ _ q => by cases q)
    subst hn
    exact mp_ddiv hF.1 hF.2.1 hd hl hs k0
  | dload x0 =>
    obtain ⟨hd, hn⟩ := mm_okI_dec hI (fun _ _ _ _ q => by cases q)
    subst hn
    exact mp_dload hF.1 hF.2.1 hd hl hs k0
  | dload_n x0 =>
    obtain ⟨hd, hn⟩ := mm_okI_dec hI (fun _ _ _ _ q => by cases q)
    subst hn
    exact mp_dload_n hF.1 hF.2.1 hd hl hs k0
  | dmul => cases hs
  | dneg => cases hs
  | drem => cases hs
  | dreturn => cases hs
  | dstore x0 =>
    obtain ⟨hd, hn⟩ := mm_okI_dec hI (fun _ _ _ _ q => by cases q)
    subst hn
    exact mp_dstore hF.1 hF.2.1 hd hl hs k0
  | dstore_n x0 => cases hs
  | dsub => cases hs
  | dup =>
    obtain ⟨hd, hn⟩ := mm_okI_dec hI (fun _ _ _ _ q => by cases q)
    subst hn
    exact mp_dup hF.1 hF.2.1 hd hl hs k0
  | dup_x1 =>
    obtain ⟨hd, hn⟩ := mm_okI_dec hI (fun _ _ _ _ q => by cases q)
    subst hn
    exact mp_dup_x1 hF.1 hF.2.1 hd hl hs k0
  | dup_x2 => cases hs
  | dup2 =>
    obtain ⟨hd, hn⟩ := mm_okI_dec hI (fun _ _ _ _ q => by cases q)
    subst hn
    exact mp_dup2 hF.1 hF.2.1 hd hl hs k0
  | dup2_x1 => cases hs
  | dup2_x2 => cases hs
  | f2d =>
    obtain ⟨hd, hn⟩ := mm_okI_dec hI (fun _ _ _ _ q => by cases q)
    subst hn
    exact mp_f2d hF.1 hF.2.1 hd hl hs k0
  | f2i => cases hs
  | f2l => cases hs
  | fadd => cases hs
  | faload => cases hs
  | fastore => cases hs
  | fcmp x0 => cases hs
  | fconst x0 =>
    obtain ⟨hd, hn⟩ := mm_okI_dec hI (fun _ _ _ _ q => by cases q)
    subst hn
    match x0, hd, hs with
    | 0, hd, hs => exact mp_fconst0 hF.1 hF.2.1 hd hl hs k0
    | 1, hd, hs => cases hs
    | 2, hd, hs => cases hs
  | fdiv =>
    obtain ⟨hd, hn⟩ := mm_okI_dec hI (fun _ _ _ _ q => by cases q)
    subst hn
    exact mp_fdiv hF.1 hF.2.1 hd hl hs k0
  | fload x0 => cases hs
  | fload_n x0 => cases hs
  | fmul => cases hs
  | fneg => cases hs
  | frem => cases hs
  | freturn => cases hs
  | fstore x0 => cases hs
  | fstore_n x0 => cases hs
  | fsub => cases hs
  | getfield x0 => exact mh_getfield hC hX hF hI hW hS hl hs k0
  | getstatic x0 => exact mh_getstatic hX hF hI hW hS hl hs k0
  | goto x0 =>
    have hr := mm_okI_rest hI
    obtain ⟨hd, hn⟩ := mm_okI_dec hI (fun _ _ _ _ q => by cases q)
    subst hn
    exact mp_goto hF.1 hF.2.1 hd hl hr hs k0
  | goto_w x0 => cases hs
  | i2b =>
    obtain ⟨hd, hn⟩ := mm_okI_dec hI (fun _ _ _ _ q => by cases q)
    subst hn
    exact mp_i2b hF.1 hF.2.1 hd hl hs k0
  | i2c =>
    obtain ⟨hd, hn⟩ := mm_okI_dec hI (fun _ _ _ _ q => by cases q)
    subst hn
    exact mp_i2c hF.1 hF.2.1 hd hl hs k0
  | i2d =>
    obtain ⟨hd, hn⟩ := mm_okI_dec hI (fun _ _ _ _ q => by cases q)
    subst hn
    exact mp_i2d hF.1 hF.2.1 hd hl hs k0
  | i2f =>
    obtain ⟨hd, hn⟩ := mm_okI_dec hI (fun _ _ _ _ q => by cases q)
    subst hn
    exact mp_i2f hF.1 hF.2.1 hd hl hs k0
  | i2l =>
    obtain ⟨hd, hn⟩ := mm_okI_dec hI (fun _ _ _ _ q => by cases q)
    subst hn
    exact mp_i2l hF.1 hF.2.1 hd hl hs k0
  | i2s => cases hs
  | iadd =>
    obtain ⟨hd, hn⟩ := mm_okI_dec hI (fun _ _ _ _ q => by cases q)
    subst hn
    exact mp_iadd hF.1 hF.2.1 hd hl hs k0
  | iaload => exact mh_iaload hX hF hI hW hS hl hs k0
  | iand =>
    obtain ⟨hd, hn⟩ := mm_okI_dec hI (fun _ _ _ _ q => by cases q)
    subst hn
    exact mp_iand hF.1 hF.2.1 hd hl hs k0
  | iastore => exact mh_iastore hF hI hG hZ hW hS hl hs k1
  | iconst x0 =>
    obtain ⟨hd, hn⟩ := mm_okI_dec hI (fun _ _ _ _ q => by cases q)
    subst hn
    exact mp_iconst hF.1 hF.2.1 hd hl hs k0
  | idiv =>
    obtain ⟨hd, hn⟩ := mm_okI_dec hI (fun _ _ _ _ q => by cases q)
    subst hn
    exact mp_idiv hF.1 hF.2.1 hd hl hs k0
  | if_acmp x0 x1 => cases hs
  | if_icmp x0 x1 =>
    have hr := mm_okI_rest hI
    obtain ⟨hd, hn⟩ := mm_okI_dec hI (fun _ _ _ _ q => by cases q)
    subst hn
    exact mp_if_icmp hF.1 hF.2.1 hd hl hr hs k0
  | ifCond x0 x1 =>
    have hr := mm_okI_rest hI
    obtain ⟨hd, hn⟩ := mm_okI_dec hI (fun _ _ _ _ q => by cases q)
    subst hn
    exact mp_ifCond hF.1 hF.2.1 hd hl hr hs k0
  | ifnonnull x0 => exact mh_ifnonnull hX hF hI hW hS hl hs k0
  | ifnull x0 => exact mh_ifnull hX hF hI hW hS hl hs k0
  | iinc x0 x1 =>
    obtain ⟨hd, hn⟩ := mm_okI_dec hI (fun _ _ _ _ q => by cases q)
    subst hn
    exact mp_iinc hF.1 hF.2.1 hd hl hs k0
  | iload x0 =>
    obtain ⟨hd, hn⟩ := mm_okI_dec hI (fun _ _ _ _ q => by cases q)
    subst hn
    exact mp_iload hF.1 hF.2.1 hd hl hs k0
  | iload_n x0 =>
    obtain ⟨hd, hn⟩ := mm_okI_dec hI (fun _ _ _ _ q => by cases q)
    subst hn
    exact mp_iload_n hF.1 hF.2.1 hd hl hs k0
  | imul =>
    obtain ⟨hd, hn⟩ := mm_okI_dec hI (fun _ _ _ _ q => by cases q)
    subst hn
    exact mp_imul hF.1 hF.2.1 hd hl hs k0
  | ineg =>
    obtain ⟨hd, hn⟩ := mm_okI_dec hI (fun _ _ _ _ q => by cases q)
    subst hn
    exact mp_ineg hF.1 hF.2.1 hd hl hs k0
  | instanceof x0 => cases hs
  | invokedynamic x0 => cases hs
  | invokeinterface x0 x1 => cases hs
  | invokespecial x0 =>
    have hs0 := hs
    simp only [mm_stp] at hs
    split at hs
    · rename_i t
      obtain ⟨lw, hnd⟩ := mm_okI_need hI
      rcases need_ip hnd with ⟨_, _, _, _, _, _, _, _, e, -⟩ | ⟨_, _, _, _, _, _, e, -⟩ | ⟨_, _, _, _, _, _, _, e, -⟩ | ⟨p0, e⟩
      · cases e
      · cases e
      · cases e
      · cases e
        exact mh_objinit hY hF hI hG hZ hW hS hl hml hRf hRl hs0 k0
    · exact (mm_call_no hs).elim
  | invokestatic x0 =>
    simp only [mm_stp] at hs
    split at hs
    · rename_i t
      have hnd := mm_okI_need hI
      obtain ⟨lw, hnd⟩ := hnd
      rcases need_is hnd with ⟨_, _, _, _, _, _, _, e, hk, -⟩ | ⟨_, _, _, _, _, _, _, e, -⟩ | ⟨kd9, p0, -, e⟩
      · cases e; rcases hk with z | z <;> cases z
      · cases e
      · cases e
        exact mh_copy hY hF hI hG hZ hW hS hl hml hRf hRl hs k1
    · rename_i t
      have hnd := mm_okI_need hI
      obtain ⟨lw, hnd⟩ := hnd
      rcases need_is hnd with ⟨_, _, _, _, _, _, _, e, hk, -⟩ | ⟨_, _, _, _, _, _, _, e, -⟩ | ⟨kd9, p0, -, e⟩
      · cases e; rcases hk with z | z <;> cases z
      · cases e
      · cases e
        exact mh_math hY hF (Or.inl rfl) hI hl hml hRf hRl hc9.1 hc9.2 hs k0
    · rename_i t
      have hnd := mm_okI_need hI
      obtain ⟨lw, hnd⟩ := hnd
      rcases need_is hnd with ⟨_, _, _, _, _, _, _, e, hk, -⟩ | ⟨_, _, _, _, _, _, _, e, -⟩ | ⟨kd9, p0, -, e⟩
      · cases e; rcases hk with z | z <;> cases z
      · cases e
      · cases e
        exact mh_math hY hF (Or.inr rfl) hI hl hml hRf hRl hc9.1 hc9.2 hs k0
    · exact (mm_call_no hs).elim
  | invokevirtual x0 => exact (mm_call_no (show mm_call X h nx L st ax = _ from hs)).elim
  | ior =>
    obtain ⟨hd, hn⟩ := mm_okI_dec hI (fun _ _ _ _ q => by cases q)
    subst hn
    exact mp_ior hF.1 hF.2.1 hd hl hs k0
  | irem =>
    obtain ⟨hd, hn⟩ := mm_okI_dec hI (fun _ _ _ _ q => by cases q)
    subst hn
    exact mp_irem hF.1 hF.2.1 hd hl hs k0
  | ireturn => cases hs
  | ishl =>
    obtain ⟨hd, hn⟩ := mm_okI_dec hI (fun _ _ _ _ q => by cases q)
    subst hn
    exact mp_ishl hF.1 hF.2.1 hd hl hs k0
  | ishr =>
    obtain ⟨hd, hn⟩ := mm_okI_dec hI (fun _ _ _ _ q => by cases q)
    subst hn
    exact mp_ishr hF.1 hF.2.1 hd hl hs k0
  | istore x0 =>
    obtain ⟨hd, hn⟩ := mm_okI_dec hI (fun _ _ _ _ q => by cases q)
    subst hn
    exact mp_istore hF.1 hF.2.1 hd hl hs k0
  | istore_n x0 =>
    obtain ⟨hd, hn⟩ := mm_okI_dec hI (fun _ _ _ _ q => by cases q)
    subst hn
    exact mp_istore_n hF.1 hF.2.1 hd hl hs k0
  | isub =>
    obtain ⟨hd, hn⟩ := mm_okI_dec hI (fun _ _ _ _ q => by cases q)
    subst hn
    exact mp_isub hF.1 hF.2.1 hd hl hs k0
  | iushr =>
    obtain ⟨hd, hn⟩ := mm_okI_dec hI (fun _ _ _ _ q => by cases q)
    subst hn
    exact mp_iushr hF.1 hF.2.1 hd hl hs k0
  | ixor =>
    obtain ⟨hd, hn⟩ := mm_okI_dec hI (fun _ _ _ _ q => by cases q)
    subst hn
    exact mp_ixor hF.1 hF.2.1 hd hl hs k0
  | jsr x0 => cases hs
  | jsr_w x0 => cases hs
  | l2d => cases hs
  | l2f => cases hs
  | l2i => cases hs
  | ladd => cases hs
  | laload => exact mh_laload hX hF hI hW hS hl hs k0
  | land => cases hs
  | lastore => exact mh_lastore hF hI hG hZ hW hS hl hs k1
  | lcmp =>
    obtain ⟨hd, hn⟩ := mm_okI_dec hI (fun _ _ _ _ q => by cases q)
    subst hn
    exact mp_lcmp hF.1 hF.2.1 hd hl hs k0
  | lconst x0 =>
    obtain ⟨hd, hn⟩ := mm_okI_dec hI (fun _ _ _ _ q => by cases q)
    subst hn
    exact mp_lconst hF.1 hF.2.1 hd hl hs k0
  | ldc x0 => exact mh_ldc hX hF hI hW hS hl hs k0
  | ldc_w x0 => exact mh_ldc_w hX hF hI hW hS hl hs k0
  | ldc2_w x0 => exact mh_ldc2_w hX hF hI hW hS hl hs k0
  | ldiv => cases hs
  | lload x0 =>
    obtain ⟨hd, hn⟩ := mm_okI_dec hI (fun _ _ _ _ q => by cases q)
    subst hn
    exact mp_lload hF.1 hF.2.1 hd hl hs k0
  | lload_n x0 =>
    obtain ⟨hd, hn⟩ := mm_okI_dec hI (fun _ _ _ _ q => by cases q)
    subst hn
    exact mp_lload_n hF.1 hF.2.1 hd hl hs k0
  | lmul => cases hs
  | lneg => cases hs
  | lookupswitch x0 x1 => cases hs
  | lor => cases hs
  | lrem => cases hs
  | lreturn => cases hs
  | lshl => cases hs
  | lshr => cases hs
  | lstore x0 =>
    obtain ⟨hd, hn⟩ := mm_okI_dec hI (fun _ _ _ _ q => by cases q)
    subst hn
    exact mp_lstore hF.1 hF.2.1 hd hl hs k0
  | lstore_n x0 => cases hs
  | lsub => cases hs
  | lushr => cases hs
  | lxor => cases hs
  | monitorenter => cases hs
  | monitorexit => cases hs
  | multianewarray x0 x1 => cases hs
  | new x0 => exact mh_new hC hF hI hG hZ hW hS hl hs hR k2
  | newarray x0 => exact mh_newarray hY hF hI hG hZ hW hS hl hs hR k2
  | nop => cases hs
  | pop =>
    obtain ⟨hd, hn⟩ := mm_okI_dec hI (fun _ _ _ _ q => by cases q)
    subst hn
    exact mp_pop hF.1 hF.2.1 hd hl hs k0
  | pop2 => cases hs
  | putfield x0 => exact mh_putfield hC hF hmn hI hG hZ hW hS hl hs k1
  | putstatic x0 => cases hs
  | ret x0 => cases hs
  | return_ => cases hs
  | saload => cases hs
  | sastore => cases hs
  | sipush x0 =>
    obtain ⟨hd, hn⟩ := mm_okI_dec hI (fun _ _ _ _ q => by cases q)
    subst hn
    exact mp_sipush hF.1 hF.2.1 hd hl hs k0
  | swap => cases hs
  | tableswitch x0 x1 x2 x3 => exact mh_tsw hX hF hI hW hS hl hs k0
end MV
