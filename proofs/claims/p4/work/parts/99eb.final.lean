/-! ===== the claim ===== -/
theorem mw_NP {X : mm_X} {fuel : Nat} (d : Nat) {j : Nat} {as : List Value} {h : mm_H} {v : mm_V} {h' : mm_H} (hc : mm_run X mm_P fuel d j as h = some (v, h')) : ∃ y, mm_nm j = some y := by
  cases d with
  | zero => cases hc
  | succ d =>
    simp only [mm_run] at hc
    split at hc
    · cases hc
    · rename_i M hM
      exact mx_NP j M hM
theorem mw_Xt0 : (List.range 64).all (fun k => match mm_ext k with
  | some c => my_nt c && (match c with
    | .inr (.inr (ci, _)) => Nat.beq ci 0
    | _ => true)
  | none => true) = true := by decide +kernel
theorem mw_Xt : ∀ k c, mz_X.1 k = some c → my_nt c = true := by
  intro k c h
  have h : mm_ext k = some c := h
  have h1 := List.all_eq_true.mp mw_Xt0 k (List.mem_range.mpr (mx_ext64 k c h))
  rw [h] at h1
  exact (mf_b1 h1).1
theorem mw_Xok (L : Nat) (xs : Nat → Int32) : mm_Xok (mm_ext, (L, fun j => some (xs j)), mm_stc, mm_fty) := by
  refine ⟨mx_ext64, fun k ci fs h => ?_⟩
  have h : mm_ext k = some (.inr (.inr (ci, fs))) := h
  have h1 := List.all_eq_true.mp mw_Xt0 k (List.mem_range.mpr (mx_ext64 k _ h))
  rw [h] at h1
  exact Nat.beq_eq.mp (mf_b1 h1).2
/-! ===== the law's run, from its entry to its end with 1 ===== -/
def plO (o : Option Value) : Bool := match o with
  | none => true
  | some (.int _) => true
  | some (.ref _) => true
  | _ => false
theorem lr_eq {md : Bool} {xs : Nat → Int32} : ∀ (L L' : mm_L), my_lr md xs L L' → L.all plO = true → L' = L
  | [], [], _, _ => rfl
  | o :: r, o2 :: r2, ⟨h1, h2⟩, hp => by
    have hp : (plO o && r.all plO) = true := hp
    obtain ⟨p1, p2⟩ := mf_b1 hp
    have e : o2 = o := by
      match o, p1, h1 with
      | none, _, h1 => exact h1
      | some (.int x), _, h1 =>
        obtain ⟨w, e, g⟩ := h1
        have g : w = .int x := g
        rw [e, g]
      | some (.ref x), _, h1 =>
        obtain ⟨w, e, g⟩ := h1
        have g : w = .ref x := g
        rw [e, g]
    rw [lr_eq r r2 h2 p2, e]
  | [], _ :: _, h, _ => h.elim
  | _ :: _, [], h, _ => h.elim
theorem mw_all {xs : Nat → Int32} {L : Nat} (hL : L ≤ 3072) : ∃ F n pc L1 h1, mm_exe (mm_ext, (L, fun j => some (xs j)), mm_stc, mm_fty) mm_P (mm_run (mm_ext, (L, fun j => some (xs j)), mm_stc, mm_fty) mm_P F 200) mz_M n 0 (mm_entry 9 [.ref 0]) [] [] = some (.inl (pc, L1, [.int 1]), h1) ∧ h1.length ≤ 601024 ∧ mm_sum h1 ≤ 7293034 := by
  have W := law_loop (S := (L, fun j => some (xs j))) (Q := fun v g => v = .inl (some (.int 1)) ∧ g.length ≤ 601024 ∧ mm_sum g ≤ 7293034) hL (xs := xs) (fun q => rfl) (fun g a b => ⟨rfl, a, b⟩) 513 0 0 0 Sh0 Va0 _ none none none none rfl lawt_0 (fun k hk => absurd hk (Nat.not_lt_zero k)) (by decide) (by decide)
  obtain ⟨v, h9, ⟨e0, q1, q2⟩, r, hr, F, e⟩ := W
  subst e0
  have hA := mf_A0
  unfold mf_A at hA
  split at hA
  · rename_i pc L0 st g he
    obtain ⟨b1, b2⟩ := mf_b1 hA
    obtain ⟨b2, b3⟩ := mf_b1 b2
    obtain ⟨b3, b4⟩ := mf_b1 b3
    have b1 := Nat.beq_eq.mp b1
    have b2 := of_decide_eq_true b2
    have b3 := of_decide_eq_true b3
    have b4 := mf_qH_eq b4
    subst b1 b2 b3 b4
    obtain ⟨h1, e1, R1⟩ := mf_pre_ok (mf_run_ok 60) 13 (0, mm_entry 9 [.ref 0], [], (mf_e9, (0, 0))) [] _ ⟨rfl, rfl, fun k => by rw [List.getElem?_nil]; exact mf_e9_g k⟩ he
    have hE0 : my_Ok (mf_E0 false) xs (mm_ext, (L, fun j => some (xs j)), mm_stc, mm_fty) := ⟨fun _ _ h => (by cases h), fun _ _ _ h => (by cases h), fun _ h => (by cases h)⟩
    have hc : my_cl (mf_E0 false) xs (my_run (mf_E0 false) mz_X mm_P 1000000 60) (mm_run (mm_ext, (L, fun j => some (xs j)), mm_stc, mm_fty) mm_P (F + 1000000) 200) := by
      intro j as as' h h' v h1 a1 a2 a3
      obtain ⟨v', h1', c1, c2, c3⟩ := my_run_ok (X := mz_X) (X' := (mm_ext, (L, fun j => some (xs j)), mm_stc, mm_fty)) (P := mm_P) rfl rfl mw_Xt (fun _ => rfl) hE0 1000000 60 j as as' h h' v h1 a1 a2 a3
      exact ⟨v', h1', run_up (by omega) 60 200 (by decide) _ _ _ _ c1, c2, c3⟩
    obtain ⟨L1, st1, h1', r1, r2, r3, r4⟩ := my_pre_ok (X := mz_X) (X' := (mm_ext, (L, fun j => some (xs j)), mm_stc, mm_fty)) (P := mm_P) (callee' := mm_run (mm_ext, (L, fun j => some (xs j)), mm_stc, mm_fty) mm_P (F + 1000000) 200) rfl rfl mw_Xt (fun _ => rfl) hE0 hc 13 (0, mm_entry 9 [.ref 0], [], []) (mm_entry 9 [.ref 0]) [] [] _ trivial (my_entry (show my_sr (mf_E0 false).1 xs [.ref 0] [.ref 0] from ⟨rfl, trivial⟩) 9) trivial e1
    have eh := st_start R1 r1
    have eL := lr_eq mf_L0 L1 r2 (by decide)
    have es : st1 = [] := by
      cases st1 with
      | nil => rfl
      | cons _ _ => exact r3.elim
    subst eh eL es
    have e := e (F + 1000000) (by omega) 200 (Nat.le_refl _) F (Nat.le_refl _)
    match r, hr with
    | .inl (pc9, L9, st9), hr =>
      have hr : mm_ans 2 st9 = some (.inl (some (.int 1))) := hr
      have hs : st9 = [.int 1] := by
        unfold mm_ans at hr
        split at hr
        · rename_i z
          cases z
        · split at hr
          · split at hr
            · cases hr
              rfl
            · cases hr
          · cases hr
      subst hs
      exact ⟨F + 1000000, F + 13, pc9, L9, h9, (r4 F).trans e, q1, q2⟩
    | .inr ci, hr =>
      have hr : some (Sum.inr ci : mm_V) = some (.inl (some (.int 1))) := hr
      cases hr
  · cases hA
theorem whole_start {p : Program} {e : Env} {s : State} {m : MethodId} {below : List Frame} {meth : Method} {c : Code} (l : Launch) (hflags : l.flags = flags0) {b L : Nat} {xs : Nat → Int32} (hL : L ≤ 3072) (C0 : lw_At p s m meth c b L xs) (ht : ∀ x ∈ c.exceptionTable.toList, False) (hmn : meth.name = "law") : W p l e room_1 s m #[Value.ref b] below meth c s.heap [] 0 0 (lw_Z below #[Value.ref b] s) (entryFrame m ([Value.ref b] : List Value).toArray 9) := by
  obtain ⟨G, hG1, hEv, hG0⟩ := mx_start C0
  obtain ⟨hx, hb, hr, hml, hown, hts0, hX, hbl, hlk, hgv⟩ := C0
  obtain ⟨F, n, pc9, L', h', hrun, hc, hs⟩ := mw_all (xs := xs) (L := L) hL
  have hts := mx_hts hts0
  have hF : mm_Fx p s m #[Value.ref b] c code "WhoKnowsLaw" G (mm_ext, (L, fun j => some (xs j)), mm_stc, mm_fty) := ⟨hx, hb, hown, fun w hw => hts w (List.mem_filter.mp hw).1, hEv, rfl⟩
  have hst : l.stackTraces = false := by
    unfold Launch.stackTraces
    rw [hflags]
    decide +kernel
  have hl := mm_entry_LH (G := G) (as := [Value.ref 0]) (n := 9) (by decide)
  have hd0 : [Value.ref 0].map (mm_dn G) = [Value.ref b] := by
    rw [List.map_cons, List.map_nil, mm_dn_some hG0]
  rw [hd0] at hl
  rw [lg_entry_eq]
  have hlen : (mm_entry 9 [Value.ref 0]).length = 9 := rfl
  generalize (lg_sl [Value.ref b] ++ List.replicate (9 - (lg_sl [Value.ref b]).length) Slot.unset).toArray = ls at hl ⊢
  have hcode : ∀ mi ∈ mz_M.1, mm_okI "WhoKnowsLaw" "law" mm_nm code mi = true := fun mi hmi => List.all_eq_true.mp mx_law mi hmi
  have hE : mm_End p l e room_1 s m #[Value.ref b] below meth c (lw_Z below #[Value.ref b] s) G mz_M 0 0 (.inl (pc9, L', [.int 1])) h' := by
    intro H' locs' ls' i nx ax hW' hS' hl' hmem hri
    have hi : i = .ireturn := by
      have h1 := List.all_eq_true.mp law_R (pc9, i, nx, ax) hmem
      rw [show (pc9, i, nx, ax).2.1 = i from rfl, hri] at h1
      exact law_iR_eq h1
    obtain ⟨i1, i2⟩ := mm_isR_ln hri
    obtain ⟨hdg, -⟩ := mm_okI_dec (hcode _ hmem) i2
    rw [i1, hi] at hdg
    refine va_forget (fun q hq => by have := hS'.2.2 q hq; rw [← hG1]; exact this) ?_
    refine W.widen (k := 601024) (n := 7293034) (by rw [Nat.sub_zero]; exact hc) (by rw [Nat.sub_zero]; exact hs) ?_
    refine W.base ?_
    have hd0 := Drawn.sameBut.refl s.drawn lw_cs
    exact lw_ret hd0 hx hb hr hlk hdg
  have K := mm_exe_ok (R := room_1) (d := 200) (n0 := 0) (s0 := 0) (mw_Xok L xs) mx_Cok mx_Sys mx_Thr mx_Yok (mm_sound l hst (mw_Xok L xs) rfl mx_Cok mx_Sys mx_Thr mx_Yok mx_Zok mx_NP F 200) (fun j as h v h' => mm_run_mono 200 j as h v h') hF hmn hcode (fun j9 as9 h8 v8 h8' hc8 => mw_NP 200 hc8) hml hlk hst ht (Nat.le_of_eq hG1) (Nat.le_of_ble_eq_true rfl) (Nat.le_of_ble_eq_true rfl) hG1.symm hE ⟨by rw [Nat.sub_zero]; exact hc, by rw [Nat.sub_zero]; exact hs⟩ n 0 (mm_entry 9 [.ref 0]) [] [] hrun s.heap [] ls ⟨fun i q hi => by simp [mm_ws] at hi, hG1.symm⟩ va_S.rf hl hlen (Nat.le_refl _) (Nat.le_refl _)
  exact K
set_option maxHeartbeats 4000000 in
theorem lw_walk (l : Launch) (hflags : l.flags = flags0) (b : Addr) (xs : List Int32) : MetFree l x (headSpec (Jvm.Cond.code x code maxLocals ret :: tables_1) room_1) (lw_P b xs) (fun _ _ _ _ _ => True) lw_Q := by
  refine MetFree.of_bodyS (code := code) (maxLocals := maxLocals) (ret := ret) (by decide) ?_ ?_
  · intro args s m h hn
    obtain ⟨meth, c, h1, h2, h3, h4, h5, h6, -, -⟩ := Cond.code_spec hn (atoms_spec (ws := Jvm.Cond.code x code maxLocals ret :: tables_1) h _ List.mem_cons_self)
    exact ⟨meth, c, h1, h2, h3, h4, h5, h6⟩
  · intro p e s m args below meth c s₁ B hml0 hP _
    obtain ⟨rfl, hx, hbd, hgv⟩ := hP
    obtain ⟨scr, harrAt, hlist, hof, hsmall⟩ := hx
    obtain ⟨hcb, hkn, -, -⟩ := State.arrayAt?_spec harrAt
    have hown : s.vm.findClass R_law = some m.cls := findClass_of_methodNamed B.named
    have hts0 : ∀ c ∈ (Jvm.Cond.code x code maxLocals ret :: tables_1), c.before #[Value.ref b] s = true := atoms_spec (ws := Jvm.Cond.code x code maxLocals ret :: tables_1) B.pre
    have hts : ∀ w ∈ lw_tbl, w.before #[Value.ref b] s = true := k2_hts_sels lw_privs (fun w hw => hts0 w (List.mem_cons_of_mem _ hw)) lw_privs_ok
    have hml : c.maxLocals = 9 := B.maxLocals_eq (hts0 _ List.mem_cons_self)
    have ht : ∀ x ∈ c.exceptionTable.toList, False := by
      obtain ⟨meth9, c9, h1, h2, -, -, -, -, h7, -⟩ := Cond.code_spec B.named (hts0 _ List.mem_cons_self)
      cases Option.some.inj (h1.symm.trans B.method)
      cases Option.some.inj (h2.symm.trans (Stand.of_body B).code)
      intro x hx
      rw [Array.isEmpty_iff.mp h7] at hx
      cases hx
    have hmn : meth.name = "law" := (name_of_methodNamed B.named B.method).1
    have X₀ : Stand p l e room_1 s m #[Value.ref b] below meth c s₁ [] 0 0 := Stand.of_body B
    have hh0 : s₁.heap = s.heap := by rw [B.state]; rfl
    have hsz : scr.slots.size = xs.length := by rw [← Array.length_toList, hlist, List.length_map]
    have hval : ∀ j : Nat, j < xs.length → scr.slots[j]? = some (.int (xs.getD j 0)) := fun j hj => by
      rw [← Array.getElem?_toList, hlist]
      simp [hj]
    have hbl : b < s.heap.size := (Array.getElem?_eq_some_iff.mp hcb).1
    have hX : va_X b xs.length (fun j => xs.getD j 0) s s.heap := ⟨scr, hcb, hof, hkn, hsz, hval⟩
    have K : W p l e room_1 s m #[Value.ref b] below meth c s₁.heap [] 0 0 (lw_Z below #[Value.ref b] s) (entryFrame m ([Value.ref b] : List Value).toArray 9) := by
      rw [hh0]
      exact whole_start l hflags hbd ⟨B.exec, B.bytes, B.returns, hml, hown, hts, hX, hbl, B.notSynchronized, hgv⟩ ht hmn
    obtain ⟨t, a1, o, b1, b2, b3⟩ := K s₁ rfl X₀
    exact ⟨t, o, a1, b1, b2, b3⟩
theorem lw_pre_spec {args : Array Value} {s : State} (h : (Jvm.Cond.and given_1 narrow_1).before args s = true) (hr : rest_1_c.before args s = true) : ∃ (b : Addr) (xs : List Int32), lw_P b xs args s := by
  have hs := flat_of_before _ h
  have hq := flat_of_before _ hr
  have hc : (Cond.count 1).before args s = true := hs _ (by decide +kernel)
  have harr : (Cond.arrayOf (.arg 0) .int).before args s = true := hs _ (by decide +kernel)
  have hle : (Cond.le (.length (.arg 0)) (.int 3072)).before args s = true := hs _ (by decide +kernel)
  have hlen : (Cond.isInt (.length (.arg 0))).before args s = true := hq _ (by decide +kernel)
  have hall : (Cond.all (.arg 0) (.isInt (.elem (.arg 0) (.index 0)))).before args s = true := hq _ (by decide +kernel)
  obtain ⟨b, xs, hb, hx⟩ := State.ints_of_pre rfl harr hlen hall
  have hsm : xs.length < 2 ^ 31 := hx.choose_spec.2.2.2
  have hev : (Term.length (.arg 0)).eval args s none [] s = some (.int xs.length.toInt32) := hx.length_eval hb
  have hv := Cond.le_ints hev (show (Term.int 3072).eval args s none [] s = some (.int 3072) from rfl)
  have hd : xs.length.toInt32 ≤ 3072 := by
    simpa [Cond.before, Cond.holds, hv] using hle
  have hN : xs.length ≤ 3072 := (Int32.ofNat_le_ofNat hsm (by decide)).mp (show Int32.ofNat xs.length ≤ Int32.ofNat 3072 from hd)
  exact ⟨b, xs, Cond.one_arg hc (show args[0]? = some (.ref b) from hb), hx, hN, h⟩
theorem lw_comes (l : Launch) (hflags : l.flags = flags0) : Comes l x (Jvm.Cond.code x code maxLocals ret :: tables_1) room_1 (fun tb e args s => Calls_1 tb e args s ∧ rest_1 tb e args s ∧ Pre_1 tb e args s)
    (fun _ _ args s o t => lw_Q args s o t) := by
  intro p e ha hc hk s m args below hf hfit hheap happ hpre
  obtain ⟨b, xs, hP⟩ := lw_pre_spec hpre.2.2 hpre.2.1
  obtain ⟨k, o, h1, h2, h3, hQ⟩ := lw_walk l hflags b xs p e ha hc hk s m args below hf ((Spec.applies_iff_loose hf).mp happ).1 hP trivial
  exact ⟨k, o, h1, h2, h3, hQ⟩
theorem lw_frame {s t : State} {o : Outcome} {args : Array Value} (h : State.butDraws s t lw_cs (fun t1 => Framed s o t1 [] 601024 7293034)) :
    State.butDraws s t [Jvm.Choice.named "NaN.bits"] (fun t1 => Framed s o t1 (fieldLocs frame_1_writes args s ++ arrayLocs frame_1_arrays args s ++ staticLocs frame_1_statics s) 601024 7293034) := h
theorem lw_limb (L : Cond) (hL : ∀ (args : Array Value) (s t : State), L.after args s (.returned (some (.int 1))) t = true) :
    ArmFor flags0 classFile x code maxLocals ret World_1 tables_1 room_1 Calls_1 rest_1 Pre_1
      (fun tb e a s o t => postC L tb e a s o t ∧ State.butDraws s t [Jvm.Choice.named "NaN.bits"] (fun t1 => Framed s o t1 (fieldLocs frame_1_writes a s ++ arrayLocs frame_1_arrays a s ++ staticLocs frame_1_statics s) 601024 7293034)) := by
  intro l hflags _ _ p e ha hc hk s m args below hf hfit hheap happ hpre
  obtain ⟨k, o, h1, h2, h3, rfl, hF⟩ := lw_comes l hflags p e ha hc hk s m args below hf hfit hheap happ hpre
  exact ⟨k, _, h1, h2, h3, hL args s _, lw_frame hF⟩
theorem i_vc : Claimed_1_1 ∧ Claimed_1_2 := ⟨lw_limb limb_1_1 (fun args s t => by simp [limb_1_1, Cond.after, Cond.holds, Cond.value]), lw_limb limb_1_2 (fun args s t => Cond.after_iff.mpr (by
  first | (rw [show limb_1_2 = Cond.eq .result (.int 1) from rfl, Cond.eq_ints (x := 1) (y := 1) rfl rfl]; simp; done) | (simp [limb_1_2, Cond.value, Term.eval]; done)))⟩
