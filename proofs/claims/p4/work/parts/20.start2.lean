/-! ===== the start: the world that the Statement gives ===== -/
def mx_ins : List (Nat × Nat) := [(4, 1198), (4, 361), (4, 291), (4, 246), (6, 266), (3, 226), (5, 779), (2, 462), (5, 317), (4, 310), (6, 456), (12, 173), (4, 769), (14, 165), (27, 1809), (6, 1230), (6, 1601), (6, 1448)]
set_option maxRecDepth 100000 in
theorem mx_C3 : (List.range mm_cls.length).all (fun ci => match mm_cls[ci]?, mx_ins[ci]? with
  | some q, some r => decide (mt_tbl[r.2]? = some (.instantiable q.1 r.1))
  | _, _ => false) = true := by decide +kernel
/-- words of the tables that the start needs, with their places behind mt_sels -/
def mx_wds : List (Nat × Jvm.Cond) := [(370, .laysStatic "java/lang/String" "COMPACT_STRINGS" "Z"), (142, .initialized "java/lang/String"), (443, .laysStatic "java/lang/StringUTF16" "$assertionsDisabled" "Z"), (143, .initialized "java/lang/StringUTF16"), (445, .laysStatic "java/lang/StringUTF16" "HI_BYTE_SHIFT" "I"), (143, .initialized "java/lang/StringUTF16"), (447, .laysStatic "java/lang/StringUTF16" "LO_BYTE_SHIFT" "I"), (143, .initialized "java/lang/StringUTF16"), (704, .laysStatic "WhoKnows" "HOLDING" "[I"), (132, .initialized "WhoKnows"), (1184, .laysStatic "java/lang/Integer" "DigitTens" "[B"), (157, .initialized "java/lang/Integer"), (1182, .laysStatic "java/lang/Integer" "DigitOnes" "[B"), (157, .initialized "java/lang/Integer"), (425, .laysStatic "jdk/internal/util/Preconditions" "SIOOBE_FORMATTER" "Ljava/util/function/BiFunction;"), (146, .initialized "jdk/internal/util/Preconditions"), (1256, .laysStatic "java/lang/Throwable" "UNASSIGNED_STACK" "[Ljava/lang/StackTraceElement;"), (152, .initialized "java/lang/Throwable"), (1258, .laysStatic "java/lang/Throwable" "SUPPRESSED_SENTINEL" "Ljava/util/List;"), (152, .initialized "java/lang/Throwable"), (224, .arrayClass .int), (2499, .arrayClass .long), (392, .arrayClass .byte), (840, .arrayOver (.object "WhoKnows$State")), (316, .arrayOver (.object "WhoKnows$Order")), (361, .instantiable "java/lang/StringBuilder" 4), (1116, .selects "java/lang/StringBuilder" ⟨"java/lang/AbstractStringBuilder", "isLatin1", "()Z"⟩ ⟨"java/lang/AbstractStringBuilder", "isLatin1", "()Z"⟩), (1081, .privateMethod ⟨"java/lang/AbstractStringBuilder", "appendNull", "()Ljava/lang/AbstractStringBuilder;"⟩), (1082, .instanceMethod ⟨"java/lang/AbstractStringBuilder", "appendNull", "()Ljava/lang/AbstractStringBuilder;"⟩), (1085, .privateMethod ⟨"java/lang/AbstractStringBuilder", "ensureCapacityInternal", "(I)V"⟩), (1086, .instanceMethod ⟨"java/lang/AbstractStringBuilder", "ensureCapacityInternal", "(I)V"⟩), (1089, .privateMethod ⟨"java/lang/AbstractStringBuilder", "newCapacity", "(I)I"⟩), (1090, .instanceMethod ⟨"java/lang/AbstractStringBuilder", "newCapacity", "(I)I"⟩), (1135, .privateMethod ⟨"java/lang/AbstractStringBuilder", "putStringAt", "(ILjava/lang/String;)V"⟩), (1136, .instanceMethod ⟨"java/lang/AbstractStringBuilder", "putStringAt", "(ILjava/lang/String;)V"⟩), (1139, .privateMethod ⟨"java/lang/AbstractStringBuilder", "inflateIfNeededFor", "(Ljava/lang/String;)V"⟩), (1140, .instanceMethod ⟨"java/lang/AbstractStringBuilder", "inflateIfNeededFor", "(Ljava/lang/String;)V"⟩), (1144, .privateMethod ⟨"java/lang/AbstractStringBuilder", "inflate", "()V"⟩), (1145, .instanceMethod ⟨"java/lang/AbstractStringBuilder", "inflate", "()V"⟩)]
set_option maxRecDepth 100000 in
theorem mx_wok : mx_wds.all (fun q => decide (mt_tbl[q.1]? = some q.2) && decide (6 ≤ q.1)) = true := by decide +kernel
set_option maxRecDepth 100000 in
theorem mx_U0 : mx_flat[223]? = some (.isRef (.static "java/lang/Throwable" "UNASSIGNED_STACK" "[Ljava/lang/StackTraceElement;")) := by decide +kernel
set_option maxRecDepth 100000 in
theorem mx_U1 : mx_flat[224]? = some (.isRef (.static "java/lang/Throwable" "SUPPRESSED_SENTINEL" "Ljava/util/List;")) := by decide +kernel
theorem mx_one : mx_prim.all (fun r => mx_prim.all (fun q => !(Nat.beq r.2.2.1 q.2.2.1) || decide (r = q))) = true := by decide +kernel
theorem mx_even : mx_prim.all (fun r => Nat.beq (r.2.2.1 % 2) 0 && (Nat.ble 4 r.2.2.1 && Nat.ble r.2.2.1 60)) = true := by decide +kernel
theorem mx_exts : (List.range 64).all (fun k => match mm_ext k with
  | none => true
  | some _ => Nat.beq k 1 || (Nat.beq k 2 || (Nat.beq k 3 || mx_prim.any (fun r => Nat.beq r.2.2.1 k || Nat.beq (r.2.2.1 + 1) k)))) = true := by decide +kernel
theorem mx_ext64 : ∀ k q, mm_ext k = some q → k < 64 := by
  intro k q h
  refine Nat.lt_of_not_le fun hk => ?_
  obtain ⟨j, rfl⟩ := Nat.exists_eq_add_of_le' hk
  cases h
/-- a private method of a class above, found by the receiver -/
theorem mx_selp {C : String} {y : MethodName} {s : State} {args : Array Value} {n : Nat} (hy : y.cls ≠ "java/lang/invoke/MethodHandle" ∧ y.cls ≠ "java/lang/invoke/VarHandle")
    (hins : (Cond.instantiable C n).before args s = true) (hsup : ∀ cm k, s.vm.findClass y.cls = some cm → s.vm.classes[cm]? = some k → k.isInterface = false) (hpriv : (Cond.privateMethod y).before args s = true) (hinst : (Cond.instanceMethod y).before args s = true) :
    (Cond.selects C y y).before args s = true := by
  obtain ⟨c, k, hc, hk, -, hniab, -, -⟩ := Cond.instantiable_spec hins
  obtain ⟨mk, methM, hnamed, hmethM, -, -⟩ := Cond.instanceMethod_spec hinst
  have hfound : s.methodFound? y.cls y.name y.desc = some mk := State.methodFound?_of_named hnamed hy
  have hcm : s.vm.findClass y.cls = some mk.cls := findClass_of_methodNamed hnamed
  have hsel : selectMethod {} s.vm c mk = .method mk := selectMethod_private hmethM (Cond.privateMethod_at hpriv mk methM hnamed hmethM)
  simp only [Cond.before, Cond.holds, Cond.value, hc, hfound, hnamed, hsel]
  have hm : ∃ km, s.vm.classes[mk.cls]? = some km := by
    cases hq : s.vm.classes[mk.cls]? with
    | some km => exact ⟨km, rfl⟩
    | none => simp [Vm.method?, hq] at hmethM
  obtain ⟨km, hkm⟩ := hm
  have hi := hsup _ _ hcm hkm
  simp [hkm, hi]
theorem mx_sup {C : String} {y : MethodName} {s : State} {args : Array Value} (h : (Cond.selects C y y).before args s = true) : ∀ cm k, s.vm.findClass y.cls = some cm → s.vm.classes[cm]? = some k → k.isInterface = false := by
  intro cm k hc hk
  cases h3 : s.methodNamed? y with
  | none => simp [Cond.before, Cond.holds, Cond.value, h3] at h
  | some m =>
    cases hc.symm.trans (findClass_of_methodNamed h3)
    cases h1 : s.vm.findClass C with
    | none => simp [Cond.before, Cond.holds, Cond.value, h1] at h
    | some c =>
      cases h2 : s.methodFound? y.cls y.name y.desc with
      | none => simp [Cond.before, Cond.holds, Cond.value, h1, h2] at h
      | some r =>
        simp only [Cond.before, Cond.holds, Cond.value, h1, h2, h3, hk] at h
        cases hs : selectMethod {} s.vm c r <;> simp_all
theorem mx_hgs {args : Array Value} {s : State} (hts : ∀ w ∈ lw_tbl, w.before args s = true) : ∀ (i n : Nat) (w : Jvm.Cond), mx_wds[i]? = some (n, w) → w.before args s = true := by
  intro i n w hq
  have h1 := List.all_eq_true.mp mx_wok (n, w) (List.mem_of_getElem? hq)
  rw [Bool.and_eq_true, decide_eq_true_eq, decide_eq_true_eq] at h1
  refine hts _ ?_
  have h2 : mt_tbl[n]? = some w := h1.1
  unfold mt_tbl at h2
  rw [List.getElem?_append_right (show mt_sels.length ≤ n from h1.2)] at h2
  exact List.mem_of_getElem? h2
theorem mx_hts {args : Array Value} {s : State} (hts : ∀ w ∈ lw_tbl, w.before args s = true) : ∀ w ∈ mt_tbl, w.before args s = true := by
  have hg := mx_hgs hts
  have hsup : ∀ cm k, s.vm.findClass "java/lang/AbstractStringBuilder" = some cm → s.vm.classes[cm]? = some k → k.isInterface = false := mx_sup (C := "java/lang/StringBuilder") (y := ⟨"java/lang/AbstractStringBuilder", "isLatin1", "()Z"⟩) (hg 26 _ _ rfl)
  intro w hw
  rcases List.mem_append.mp hw with hw | hw
  · simp only [mt_sels, List.mem_cons, List.not_mem_nil, or_false] at hw
    rcases hw with rfl | rfl | rfl | rfl | rfl | rfl
    · exact mx_selp ⟨by decide, by decide⟩ (hg 25 _ _ rfl) hsup (hg 27 _ _ rfl) (hg 28 _ _ rfl)
    · exact mx_selp ⟨by decide, by decide⟩ (hg 25 _ _ rfl) hsup (hg 29 _ _ rfl) (hg 30 _ _ rfl)
    · exact mx_selp ⟨by decide, by decide⟩ (hg 25 _ _ rfl) hsup (hg 31 _ _ rfl) (hg 32 _ _ rfl)
    · exact mx_selp ⟨by decide, by decide⟩ (hg 25 _ _ rfl) hsup (hg 33 _ _ rfl) (hg 34 _ _ rfl)
    · exact mx_selp ⟨by decide, by decide⟩ (hg 25 _ _ rfl) hsup (hg 35 _ _ rfl) (hg 36 _ _ rfl)
    · exact mx_selp ⟨by decide, by decide⟩ (hg 25 _ _ rfl) hsup (hg 37 _ _ rfl) (hg 38 _ _ rfl)
  · exact hts w hw
/-- a table that a static holds -/
theorem mx_arr_ok {args : Array Value} {s : State} {C n d : String} {ty : FieldType} {len N p : Nat} {A : Nat → Prop} (hf : ∀ w ∈ mx_flat, w.before args s = true) (h : mx_arr C n d ty len N p = true) (hlen : len ≤ 100000) (hA : ∀ a : Nat, a < s.heap.size → ¬ A a) : ∃ t : Nat, (Term.static C n d).eval args s none [] s = some (.ref t) ∧ va_T ty t len (fun j => .int (Int32.ofNat (mm_ag 32 N j))) A s s.heap := by
  have h := of_decide_eq_true h
  have hw : ∀ w ∈ [Jvm.Cond.arrayOf (.static C n d) ty, .eq (.length (.static C n d)) (.int (Int32.ofNat len))] ++ (List.range len).map (fun j => Jvm.Cond.eq (.elem (.static C n d) (.int (Int32.ofNat j))) (.int (Int32.ofNat (mm_ag 32 N j)))), w.before args s = true := fun w hw => by
    rw [← h] at hw
    exact hf w (List.mem_of_mem_drop (List.mem_of_mem_take hw))
  refine va_Tof (by omega) (hw _ List.mem_cons_self) (va_eqt (hw _ (List.mem_cons_of_mem _ List.mem_cons_self))) (fun j hj => va_eqt (hw _ (List.mem_append_right _ (List.mem_map.mpr ⟨j, List.mem_range.mpr hj, rfl⟩)))) hA
/-- the addresses of what the machine has from the start -/
def mx_ex (b h t o : Nat) (fo : Option Nat) (ad : Nat → Nat × Nat) (k : Nat) : Option Nat := match k with
  | 0 => some b
  | 1 => some h
  | 2 => some t
  | 3 => some o
  | k => if k = 63 then fo else if k % 2 = 0 then some (ad k).1 else some (ad (k - 1)).2
def mx_ty (t : Nat) : Option FieldType := match t with
  | 0 => some .int
  | 1 => some .long
  | 2 => some .byte
  | 3 => some (.object "WhoKnows$State")
  | 4 => some (.object "WhoKnows$Order")
  | _ => none
theorem mx_start {p : Program} {s : State} {m : MethodId} {meth : Method} {c : Code} {b L : Nat} {xs : Nat → Int32} (C0 : lw_At p s m meth c b L xs) : ∃ G : mm_G, G.1 = s.heap.size ∧ mm_Ev G (mm_ext, (L, fun j => some (xs j)), mm_stc, mm_fty) s ∧ mm_ad G 0 = some b := by
  obtain ⟨hx, hb, hr, hml, hown, hts0, hX, hbl, hlk, hgv⟩ := C0
  have hts := mx_hts hts0
  have hg := mx_hgs hts0
  have hf : ∀ w ∈ mx_flat, w.before #[Value.ref b] s = true := flat_of_before _ hgv
  have hfl : ∀ (i : Nat) (w : Jvm.Cond), mx_flat[i]? = some w → w.before #[Value.ref b] s = true := fun i w h => hf w (List.mem_of_getElem? h)
  have hA : ∀ a : Nat, a < s.heap.size → ¬ s.heap.size ≤ a := fun a h => Nat.not_le.mpr h
  have hK : ∀ c : Nat, ∃ q : ClassId × (Nat → Nat), ∀ C, mm_cl[c]? = some C → u_Kn s C.1 C.2.1 C.2.2 q.1 q.2 := by
    intro c
    by_cases hc : c < mm_cls.length
    · have hq : mm_cls[c]? = some mm_cls[c] := List.getElem?_eq_getElem hc
      have h3 := List.all_eq_true.mp mx_C3 c (List.mem_range.mpr hc)
      rw [hq] at h3
      split at h3
      · rename_i q r e1 e2
        cases e1
        have h3 := of_decide_eq_true h3
        obtain ⟨cC, iS, h4⟩ := u_known (T := mm_T mm_cls[c].2) (N := mm_cls[c].2.length) hts (fun w hw => (List.mem_filter.mp ((mx_Cok c _ hq).1 w hw)).1) (hts _ (List.mem_of_getElem? h3))
        refine ⟨(cC, iS), fun C hC => ?_⟩
        rw [mm_cl_get hq] at hC
        cases hC
        exact h4
      · cases h3
    · refine ⟨(0, fun _ => 0), fun C hC => ?_⟩
      have := (List.getElem?_eq_some_iff.mp hC).1
      unfold mm_cl at this
      rw [List.length_map] at this
      exact (hc this).elim
  obtain ⟨Dq, hD⟩ := Classical.axiomOfChoice hK
  have hTy : ∀ t : Nat, ∃ cA : ClassId, ∀ ty, mx_ty t = some ty → ArrOfT s cA ty ∧ va_RA s cA ty := by
    have hp : ∀ ty, (Jvm.Cond.arrayClass ty).before #[Value.ref b] s = true → (∀ C, ty ≠ .object C) → ∃ cA : ClassId, ArrOfT s cA ty ∧ va_RA s cA ty := by
      intro ty h hno
      obtain ⟨c, k, comp, h1, h2, h3⟩ := Cond.arrayClass_spec h
      refine ⟨c, fun n z => ⟨fun k h => (by cases h), k, h2, comp, h3⟩, ?_⟩
      cases ty with
      | object C => exact (hno C rfl).elim
      | _ => exact h1
    have ho : ∀ C, (Jvm.Cond.arrayOver (.object C)).before #[Value.ref b] s = true → ∃ cA : ClassId, ArrOfT s cA (.object C) ∧ va_RA s cA (.object C) := by
      intro C h
      obtain ⟨comp, c, k, h1, -, h2, h3, h4⟩ := Cond.arrayOver_spec h
      exact ⟨c, fun n z => ⟨fun k h => (by cases h), k, h2, comp, h3⟩, k, comp, h2, h3, h1, h4⟩
    intro t
    match t with
    | 0 => obtain ⟨cA, h⟩ := hp .int (hg 20 _ _ rfl) (fun _ z => by cases z); exact ⟨cA, fun ty e => by cases e; exact h⟩
    | 1 => obtain ⟨cA, h⟩ := hp .long (hg 21 _ _ rfl) (fun _ z => by cases z); exact ⟨cA, fun ty e => by cases e; exact h⟩
    | 2 => obtain ⟨cA, h⟩ := hp .byte (hg 22 _ _ rfl) (fun _ z => by cases z); exact ⟨cA, fun ty e => by cases e; exact h⟩
    | 3 => obtain ⟨cA, h⟩ := ho "WhoKnows$State" (hg 23 _ _ rfl); exact ⟨cA, fun ty e => by cases e; exact h⟩
    | 4 => obtain ⟨cA, h⟩ := ho "WhoKnows$Order" (hg 24 _ _ rfl); exact ⟨cA, fun ty e => by cases e; exact h⟩
    | t + 5 => exact ⟨0, fun ty e => by cases e⟩
  obtain ⟨cA, hcA⟩ := Classical.axiomOfChoice hTy
  have hS : ∀ k : Nat, ∃ q : Nat × Nat, ∀ r ∈ mx_prim, r.2.2.1 = k → (Term.string r.1 r.2.1).eval #[Value.ref b] s none [] s = some (.ref q.1) ∧ ∃ n N, mm_ext k = some (.inr (.inr (0, [.ref (k + 1), .int 0]))) ∧ mm_ext (k + 1) = some (.inl (2, n, N)) ∧ va_O "java/lang/String" q.1 (fun a => s.heap.size ≤ a) s s.heap ∧ va_OF "java/lang/String" "coder" "B" (.int 0) q.1 (fun a => s.heap.size ≤ a) s s.heap ∧ va_OF "java/lang/String" "value" "[B" (.ref q.2) q.1 (fun a => s.heap.size ≤ a) s s.heap ∧ va_T .byte q.2 n (fun j => .int (Int32.ofNat (mm_ag 32 N j))) (fun a => s.heap.size ≤ a) s s.heap := by
    intro k
    by_cases hk : ∃ r ∈ mx_prim, r.2.2.1 = k
    · obtain ⟨r, hr, e⟩ := hk
      subst e
      have h1 := List.all_eq_true.mp mx_P1 r hr
      unfold mx_sck at h1
      split at h1
      · rename_i a z n N e1 e2
        simp only [Bool.and_eq_true, decide_eq_true_eq, Nat.ble_eq] at h1
        obtain ⟨rfl, rfl, g3, g4⟩ := h1
        have hw : ∀ w ∈ mx_scs r.1 r.2.1 n N, w.before #[Value.ref b] s = true := fun w hw => by
          rw [← g4] at hw
          exact hf w (List.mem_of_mem_drop (List.mem_of_mem_take hw))
        have w0 := hw _ List.mem_cons_self
        have w1 := hw _ (List.mem_cons_of_mem _ List.mem_cons_self)
        have w2 := hw _ (List.mem_cons_of_mem _ (List.mem_cons_of_mem _ List.mem_cons_self))
        have w3 := hw _ (List.mem_cons_of_mem _ (List.mem_cons_of_mem _ (List.mem_cons_of_mem _ List.mem_cons_self)))
        obtain ⟨a, c, cA, kA, q1, q2, q3, q4, q5, q6, -⟩ := Cond.exactly_spec w0
        obtain ⟨t, ht, hT⟩ := va_Tof (f := fun j => .int (Int32.ofNat (mm_ag 32 N j))) (A := fun a => s.heap.size ≤ a) (by omega) w2 (va_eqt w3) (fun j hj => va_eqt (hw _ (List.mem_append_right _ (List.mem_map.mpr ⟨j, List.mem_range.mpr hj, rfl⟩)))) hA
        refine ⟨(a, t), fun r' hr' e => ?_⟩
        have h5 := List.all_eq_true.mp (List.all_eq_true.mp mx_one r' hr') r hr
        rw [show Nat.beq r'.2.2.1 r.2.2.1 = true from Nat.beq_eq.mpr e, Bool.not_true, Bool.false_or] at h5
        cases of_decide_eq_true h5
        exact ⟨q1, n, N, e1, e2, ⟨cA, q3, q5, by rw [q6]; exact q2, hA a (Array.getElem?_eq_some_iff.mp q3).1⟩, vk_OFof q1 (va_eqt w1) hA, vk_OFof q1 ht hA, hT⟩
      · cases h1
    · exact ⟨(0, 0), fun r hr e => (hk ⟨r, hr, e⟩).elim⟩
  obtain ⟨ad, had⟩ := Classical.axiomOfChoice hS
  obtain ⟨n1, N1, x1, aH, v1, T1⟩ : ∃ n N, mm_ext 1 = some (.inl (0, n, N)) ∧ ∃ t : Nat, (Term.static "WhoKnows" "HOLDING" "[I").eval #[Value.ref b] s none [] s = some (.ref t) ∧ va_T .int t n (fun j => .int (Int32.ofNat (mm_ag 32 N j))) (fun a => s.heap.size ≤ a) s s.heap := by
    have h := mx_A1
    split at h
    · rename_i t n N e
      rw [Bool.and_eq_true, Nat.ble_eq] at h
      have e0 : t = 0 := by cases e; rfl
      subst e0
      exact ⟨n, N, e, mx_arr_ok hf h.1 h.2 hA⟩
    · cases h
  obtain ⟨n2, N2, x2, aT, v2, T2⟩ : ∃ n N, mm_ext 2 = some (.inl (2, n, N)) ∧ ∃ t : Nat, (Term.static "java/lang/Integer" "DigitTens" "[B").eval #[Value.ref b] s none [] s = some (.ref t) ∧ va_T .byte t n (fun j => .int (Int32.ofNat (mm_ag 32 N j))) (fun a => s.heap.size ≤ a) s s.heap := by
    have h := mx_A2
    split at h
    · rename_i t n N e
      rw [Bool.and_eq_true, Nat.ble_eq] at h
      have e0 : t = 2 := by cases e; rfl
      subst e0
      exact ⟨n, N, e, mx_arr_ok hf h.1 h.2 hA⟩
    · cases h
  obtain ⟨n3, N3, x3, aO, v3, T3⟩ : ∃ n N, mm_ext 3 = some (.inl (2, n, N)) ∧ ∃ t : Nat, (Term.static "java/lang/Integer" "DigitOnes" "[B").eval #[Value.ref b] s none [] s = some (.ref t) ∧ va_T .byte t n (fun j => .int (Int32.ofNat (mm_ag 32 N j))) (fun a => s.heap.size ≤ a) s s.heap := by
    have h := mx_A3
    split at h
    · rename_i t n N e
      rw [Bool.and_eq_true, Nat.ble_eq] at h
      have e0 : t = 2 := by cases e; rfl
      subst e0
      exact ⟨n, N, e, mx_arr_ok hf h.1 h.2 hA⟩
    · cases h
  obtain ⟨fo, hfo⟩ : ∃ fo : Option Nat, va_Z "jdk/internal/util/Preconditions" "SIOOBE_FORMATTER" "Ljava/util/function/BiFunction;" (va_rf fo) (fun a => s.heap.size ≤ a) s s.heap := by
    rcases va_Zqof (hg 14 _ _ rfl) (hg 15 _ _ rfl) (hfl _ _ mx_F0) hA with h | ⟨t, h⟩
    · exact ⟨none, h⟩
    · exact ⟨some t, h⟩
  have hpr : ∀ r ∈ mx_prim, r.2.2.1 % 2 = 0 ∧ 4 ≤ r.2.2.1 ∧ r.2.2.1 ≤ 60 := by
    intro r hr
    have h := List.all_eq_true.mp mx_even r hr
    simp only [Bool.and_eq_true, Nat.beq_eq, Nat.ble_eq] at h
    exact h
  have hexE : ∀ k, 4 ≤ k → k ≤ 60 → k % 2 = 0 → mx_ex b aH aT aO fo ad k = some (ad k).1 ∧ mx_ex b aH aT aO fo ad (k + 1) = some (ad k).2 := by
    intro k h1 h2 h3
    obtain ⟨j, rfl⟩ := Nat.exists_eq_add_of_le' h1
    constructor
    · show (if j + 4 = 63 then fo else if (j + 4) % 2 = 0 then some (ad (j + 4)).1 else some (ad (j + 4 - 1)).2) = _
      rw [if_neg (by omega), if_pos h3]
    · show (if j + 4 + 1 = 63 then fo else if (j + 4 + 1) % 2 = 0 then some (ad (j + 4 + 1)).1 else some (ad (j + 4 + 1 - 1)).2) = _
      rw [if_neg (by omega), if_neg (by omega), Nat.add_sub_cancel]
  have hrA : ∀ (o : Nat), mm_Ar (s.heap.size, mx_ex b aH aT aO fo ad, ((fun c => (Dq c).1), fun c => (Dq c).2), cA) o = (s.heap.size ≤ o) := fun _ => rfl
  refine ⟨(s.heap.size, mx_ex b aH aT aO fo ad, ((fun c => (Dq c).1), fun c => (Dq c).2), cA), rfl, ⟨⟨fun c q hq => hD c q hq, ?_⟩, ?_, ?_, ?_, ⟨b, xs, rfl, hX, hbl, hA b hbl, fun j x e => Option.some.inj e⟩, ⟨vx_Zqof (hg 16 _ _ rfl) (hg 17 _ _ rfl) (hfl _ _ mx_U0) hA, vx_Zqof (hg 18 _ _ rfl) (hg 19 _ _ rfl) (hfl _ _ mx_U1) hA⟩, ?_, ?_⟩, rfl⟩
  · intro k q hk
    match k, hk with
    | 0, hk => cases hk; exact hcA 0 _ rfl
    | 1, hk => cases hk; exact hcA 1 _ rfl
    | 2, hk => cases hk; exact hcA 2 _ rfl
    | 3, hk => cases hk; exact hcA 3 _ rfl
    | 4, hk => cases hk; exact hcA 4 _ rfl
    | k + 5, hk => cases hk
  · intro k f v hk hv
    match k, hk, hv with
    | 0, hk, hv => cases hk; cases hv; exact va_Zof (hg 0 _ _ rfl) (hg 1 _ _ rfl) (va_eqi (hfl _ _ mx_I0)) hA
    | 1, hk, hv => cases hk; cases hv; exact va_Zof (hg 2 _ _ rfl) (hg 3 _ _ rfl) (va_eqi (hfl _ _ mx_I1)) hA
    | 2, hk, hv => cases hk; cases hv; exact va_Zof (hg 4 _ _ rfl) (hg 5 _ _ rfl) (va_eqi (hfl _ _ mx_I2)) hA
    | 3, hk, hv => cases hk; cases hv; exact va_Zof (hg 6 _ _ rfl) (hg 7 _ _ rfl) (va_eqi (hfl _ _ mx_I3)) hA
    | 4, hk, hv => cases hk; cases hv; exact va_Zof (hg 8 _ _ rfl) (hg 9 _ _ rfl) v1 hA
    | 5, hk, hv => cases hk; cases hv; exact va_Zof (hg 10 _ _ rfl) (hg 11 _ _ rfl) v2 hA
    | 6, hk, hv => cases hk; cases hv; exact va_Zof (hg 12 _ _ rfl) (hg 13 _ _ rfl) v3 hA
    | 7, hk, hv => cases hk; cases hv; exact hfo
    | k + 8, hk, hv => cases hv
  · intro own x k hm
    have h3 := List.all_eq_true.mp mx_P3 _ hm
    obtain ⟨r, hr, h4⟩ := List.any_eq_true.mp h3
    have h4 := of_decide_eq_true h4
    have h2 := List.all_eq_true.mp mx_P2 r hr
    obtain ⟨own', x', k', p', tx, how, pe, own0, x0⟩ := r
    dsimp only at h4
    obtain ⟨rfl, rfl, rfl⟩ := h4
    unfold mx_eck at h2
    simp only [Bool.and_eq_true] at h2
    obtain ⟨g1, g2, g3⟩ := h2
    have g1 := of_decide_eq_true g1
    obtain ⟨r0, hr0, g4⟩ := List.any_eq_true.mp g2
    have g4 := of_decide_eq_true g4
    obtain ⟨own1, x1', k1, p1⟩ := r0
    dsimp only at g4
    obtain ⟨rfl, rfl, rfl⟩ := g4
    obtain ⟨q1, n, N, q2, q3, q4⟩ := had k1 _ hr0 rfl
    obtain ⟨m1, m2, m3⟩ := hpr _ hr0
    have q1 : (Term.string own1 x1').eval #[Value.ref b] s none [] s = some (.ref (ad k1).1) := q1
    have hev : (Term.string own' x').eval #[Value.ref b] s none [] s = some (.ref (ad k1).1) := by
      split at g3
      · have w := hfl _ _ (of_decide_eq_true g3)
        cases hv : (Term.string own' x').eval #[Value.ref b] s none [] s with
        | none => simp [Cond.before, Cond.holds, Cond.value, hv] at w
        | some u =>
          simp only [Cond.before, Cond.holds, Cond.value, hv, q1] at w
          cases u <;> simp_all
      · have w := hfl _ _ (of_decide_eq_true g3)
        cases hv : (Term.string own' x').eval #[Value.ref b] s none [] s with
        | none => simp [Cond.before, Cond.holds, Cond.value, hv, q1] at w
        | some u =>
          simp only [Cond.before, Cond.holds, Cond.value, hv, q1] at w
          cases u <;> simp_all
      · obtain ⟨rfl, rfl⟩ := of_decide_eq_true g3
        exact q1
    refine ⟨(ad k1).1, tx, ?_, vk_R.of (hts _ (List.mem_of_getElem? g1)) (by rw [← hev])⟩
    show (if k1 < 64 then mx_ex b aH aT aO fo ad k1 else _) = _
    rw [if_pos (show k1 < 64 from Nat.lt_of_le_of_lt m3 (by decide)), (hexE k1 m2 m3 m1).1]
  · intro k c hk hc
    have h1 := List.all_eq_true.mp mx_exts k (List.mem_range.mpr hk)
    have hc : mm_ext k = some c := hc
    rw [hc] at h1
    simp only [Bool.or_eq_true, Nat.beq_eq] at h1
    have hadk : ∀ k, k < 64 → mm_ad (s.heap.size, mx_ex b aH aT aO fo ad, ((fun c => (Dq c).1), fun c => (Dq c).2), cA) k = mx_ex b aH aT aO fo ad k := fun k h => by
      show (if k < 64 then mx_ex b aH aT aO fo ad k else _) = _
      rw [if_pos h]
    rcases h1 with rfl | rfl | rfl | h1
    · cases x1.symm.trans hc
      exact ⟨aH, hadk 1 hk, Or.inl ⟨rfl, T1⟩⟩
    · cases x2.symm.trans hc
      exact ⟨aT, hadk 2 hk, Or.inr ⟨rfl, T2⟩⟩
    · cases x3.symm.trans hc
      exact ⟨aO, hadk 3 hk, Or.inr ⟨rfl, T3⟩⟩
    · obtain ⟨r, hr, h2⟩ := List.any_eq_true.mp h1
      simp only [Bool.or_eq_true, Nat.beq_eq] at h2
      obtain ⟨m1, m2, m3⟩ := hpr r hr
      obtain ⟨q1, n, N, q2, q3, q4, q5, q6, q7⟩ := had _ r hr rfl
      obtain ⟨m4, m5⟩ := hexE _ m2 m3 m1
      rcases h2 with h2 | h2
      · subst h2
        cases q2.symm.trans hc
        refine ⟨_, _, (hadk _ hk).trans m4, rfl, q4, ?_⟩
        intro f v d hfv hd
        match f, hfv, hd with
        | 0, hfv, hd =>
          cases hfv
          cases hd
          have e : mm_dn (s.heap.size, mx_ex b aH aT aO fo ad, ((fun c => (Dq c).1), fun c => (Dq c).2), cA) (.ref (r.2.2.1 + 1)) = .ref (ad r.2.2.1).2 := by
            show va_rf (mm_ad _ (r.2.2.1 + 1)) = _
            rw [hadk _ (by omega), m5]
            rfl
          rw [e]
          exact q6
        | 1, hfv, hd => cases hfv; cases hd; exact q5
        | f + 2, hfv, hd => cases hfv
      · subst h2
        cases q3.symm.trans hc
        exact ⟨_, (hadk _ hk).trans m5, Or.inr ⟨rfl, q7⟩⟩
  · intro w hw hn
    have h := hts w hw
    match w, hn, h with
    | .fieldLinkNest a i b n d h, _, h1 => exact va_Nw.of rfl h1
    | .methodLinkNest a i x h, _, h1 => exact va_Nw.of rfl h1
    | .castable a b, _, h1 => exact va_Nw.of rfl h1
    | .declares a, _, h1 => exact va_Nw.of rfl h1
    | .arrayOver (.object C), _, h1 => exact h1
  · intro k hk
    have hadk : mm_ad (s.heap.size, mx_ex b aH aT aO fo ad, ((fun c => (Dq c).1), fun c => (Dq c).2), cA) k = mx_ex b aH aT aO fo ad k := by
      show (if k < 64 then mx_ex b aH aT aO fo ad k else _) = _
      rw [if_pos (by omega)]
    rw [hadk]
    match k, hk with
    | 0, _ => exact ⟨_, rfl⟩
    | 1, _ => exact ⟨_, rfl⟩
    | 2, _ => exact ⟨_, rfl⟩
    | 3, _ => exact ⟨_, rfl⟩
    | k + 4, hk =>
      show ∃ q, (if k + 4 = 63 then fo else if (k + 4) % 2 = 0 then some (ad (k + 4)).1 else some (ad (k + 4 - 1)).2) = some q
      rw [if_neg (by omega)]
      split
      · exact ⟨_, rfl⟩
      · exact ⟨_, rfl⟩
