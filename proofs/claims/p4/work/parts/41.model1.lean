/-! ===== the reference's object and arrays ===== -/
def mo_o : mm_C := .inr (.inr (14, [.ref 313, .ref 314, .ref 315, .ref 316, .ref 317, .int 0, .int 0, .int 0, .ref 318, .ref 319, .int 0, .int 0, .int 0, .int 0, .int 0, .int 0, .int 0, .int 0, .ref 320, .int 0, .int 0, .int 0, .int 0, .ref 321, .int 0, .ref 322, .int 0]))
def MS (sh : List mm_C) : Prop := sh[312 - 64]? = some mo_o ∧ sh[313 - 64]? = some (.inl (0, 564, 0)) ∧ sh[314 - 64]? = some (.inl (0, 564, 0)) ∧ sh[315 - 64]? = some (.inl (0, 564, 0)) ∧ sh[316 - 64]? = some (.inl (0, 564, 0)) ∧ sh[317 - 64]? = some (.inl (0, 4512, 0)) ∧ sh[318 - 64]? = some (.inl (0, 60, 0)) ∧ sh[319 - 64]? = some (.inl (0, 600, 0)) ∧ sh[320 - 64]? = some (.inl (0, 5061, 0)) ∧ sh[321 - 64]? = some (.inl (0, 60, 0)) ∧ sh[322 - 64]? = some (.inl (0, 2000, 0))
theorem MS.o {sh : List mm_C} (h : MS sh) : sh[312 - 64]? = some (.inr (.inr (14, [.ref 313, .ref 314, .ref 315, .ref 316, .ref 317, .int 0, .int 0, .int 0, .ref 318, .ref 319, .int 0, .int 0, .int 0, .int 0, .int 0, .int 0, .int 0, .int 0, .ref 320, .int 0, .int 0, .int 0, .int 0, .ref 321, .int 0, .ref 322, .int 0]))) := h.1
theorem MS.a313 {sh : List mm_C} (h : MS sh) : sh[313 - 64]? = some (.inl (0, 564, 0)) := h.2.1
theorem MS.a314 {sh : List mm_C} (h : MS sh) : sh[314 - 64]? = some (.inl (0, 564, 0)) := h.2.2.1
theorem MS.a315 {sh : List mm_C} (h : MS sh) : sh[315 - 64]? = some (.inl (0, 564, 0)) := h.2.2.2.1
theorem MS.a316 {sh : List mm_C} (h : MS sh) : sh[316 - 64]? = some (.inl (0, 564, 0)) := h.2.2.2.2.1
theorem MS.a317 {sh : List mm_C} (h : MS sh) : sh[317 - 64]? = some (.inl (0, 4512, 0)) := h.2.2.2.2.2.1
theorem MS.a318 {sh : List mm_C} (h : MS sh) : sh[318 - 64]? = some (.inl (0, 60, 0)) := h.2.2.2.2.2.2.1
theorem MS.a319 {sh : List mm_C} (h : MS sh) : sh[319 - 64]? = some (.inl (0, 600, 0)) := h.2.2.2.2.2.2.2.1
theorem MS.a320 {sh : List mm_C} (h : MS sh) : sh[320 - 64]? = some (.inl (0, 5061, 0)) := h.2.2.2.2.2.2.2.2.1
theorem MS.a321 {sh : List mm_C} (h : MS sh) : sh[321 - 64]? = some (.inl (0, 60, 0)) := h.2.2.2.2.2.2.2.2.2.1
theorem MS.a322 {sh : List mm_C} (h : MS sh) : sh[322 - 64]? = some (.inl (0, 2000, 0)) := h.2.2.2.2.2.2.2.2.2.2
/-- the bit k of a set -/
def hasB (set k : Int32) : Bool := decide ((set.toUInt32 >>> (k.toUInt32 &&& Int32.toUInt32 31)).toInt32 &&& 1 = 1)
def inI (x a b : Int32) : Bool := decide (a ≤ x ∧ x ≤ b)
theorem lc_cases (x y : Int64) : (mm_lcmp x y = -1 ∧ x < y) ∨ (mm_lcmp x y = 0 ∧ x = y) ∨ (mm_lcmp x y = 1 ∧ y < x) := by
  unfold mm_lcmp
  cases h1 : Nat.ble (mm_lsn x + 1) (mm_lsn y) with
  | true => exact Or.inl ⟨rfl, (mm_lsn_lt x y).mp (Nat.le_of_ble_eq_true h1)⟩
  | false =>
    have h1 : ¬ mm_lsn x + 1 ≤ mm_lsn y := fun q => by rw [Nat.ble_eq_true_of_le q] at h1; cases h1
    dsimp only
    cases h2 : Nat.beq (mm_lsn x) (mm_lsn y) with
    | true =>
      have h2 := Nat.beq_eq.mp h2
      refine Or.inr (Or.inl ⟨rfl, ?_⟩)
      have a1 : ¬ x < y := fun q => by have := (mm_lsn_lt x y).mpr q; omega
      have a2 : ¬ y < x := fun q => by have := (mm_lsn_lt y x).mpr q; omega
      rw [Int64.lt_iff_toInt_lt] at a1 a2
      exact Int64.toInt_inj.mp (by omega)
    | false =>
      have h2 : ¬ mm_lsn x = mm_lsn y := fun q => by rw [Nat.beq_eq.mpr q] at h2; cases h2
      exact Or.inr (Or.inr ⟨rfl, (mm_lsn_lt y x).mp (by omega)⟩)
theorem lc_lt {x y : Int64} : mm_lcmp x y < 0 ↔ x < y := by
  rcases lc_cases x y with ⟨e, h⟩ | ⟨e, h⟩ | ⟨e, h⟩
  · rw [e]; exact ⟨fun _ => h, fun _ => by decide⟩
  · rw [e, h]; exact ⟨fun q => absurd q (by decide), fun q => absurd q (by rw [Int64.lt_iff_toInt_lt]; omega)⟩
  · rw [e]; exact ⟨fun q => absurd q (by decide), fun q => by rw [Int64.lt_iff_toInt_lt] at q h; omega⟩
theorem lc_gt {x y : Int64} : 0 < mm_lcmp x y ↔ y < x := by
  rcases lc_cases x y with ⟨e, h⟩ | ⟨e, h⟩ | ⟨e, h⟩
  · rw [e]; exact ⟨fun q => absurd q (by decide), fun q => by rw [Int64.lt_iff_toInt_lt] at q h; omega⟩
  · rw [e, h]; exact ⟨fun q => absurd q (by decide), fun q => absurd q (by rw [Int64.lt_iff_toInt_lt]; omega)⟩
  · rw [e]; exact ⟨fun _ => h, fun _ => by decide⟩
theorem L_nlt {x y : Int64} : x ≤ y ↔ ¬ y < x := by rw [Int64.le_iff_toInt_le, Int64.lt_iff_toInt_lt]; omega
theorem l_lt {x y : Int32} : x.toInt64 < y.toInt64 ↔ x < y := by rw [Int64.lt_iff_toInt_lt, Int32.lt_iff_toInt_lt, Int32.toInt_toInt64, Int32.toInt_toInt64]
theorem le_nlt {x y : Int32} : x ≤ y ↔ ¬ y < x := by rw [Int32.le_iff_toInt_le, Int32.lt_iff_toInt_lt]; omega
theorem ix_alike (p w : Nat) : (160 : Int32) + 32 * Int32.ofNat p + Int32.ofNat w = Int32.ofNat (160 + 32 * p + w) := by
  rw [show (160 : Int32) = Int32.ofNat 160 from rfl, show (32 : Int32) = Int32.ofNat 32 from rfl, ← Int32.ofNat_mul, ← Int32.ofNat_add, ← Int32.ofNat_add]
def alk (V : hV) (p w : Nat) : Int32 := if hasB (V.1 313 2) (Int32.ofNat w) = true then V.1 313 (160 + 32 * p + w) &&& V.1 313 2 else 0
/-- the set of the numbers below n for which f says so -/
def orF (f : Nat → Bool) : Nat → Int32
  | 0 => 0
  | k + 1 => orF f k ||| (bI (f k) <<< (Int32.ofNat k &&& 31))
theorem orF_t {f : Nat → Bool} {k : Nat} (h : f k = true) : orF f k ||| ((if (1 : Int32) = 0 then 0 else 1) <<< (Int32.ofNat k &&& 31)) = orF f (k + 1) := by
  rw [if_neg (by decide)]
  show _ = orF f k ||| (bI (f k) <<< (Int32.ofNat k &&& 31))
  rw [h]
  rfl
theorem orF_f {f : Nat → Bool} {k : Nat} (h : f k = false) : orF f k ||| ((if (0 : Int32) = 0 then 0 else 1) <<< (Int32.ofNat k &&& 31)) = orF f (k + 1) := by
  rw [if_pos rfl]
  show _ = orF f k ||| (bI (f k) <<< (Int32.ofNat k &&& 31))
  rw [h]
  rfl
theorem orF_b {f : Nat → Bool} {k : Nat} {b : Bool} (h : f k = b) : orF f k ||| ((if bI b = 0 then 0 else 1) <<< (Int32.ofNat k &&& 31)) = orF f (k + 1) := by
  cases b
  · exact orF_f h
  · exact orF_t h
section M1
theorem e_in {S : ww_S} {h : mm_H} {x a b : Int64}  : EV S 1 171 [.long x, .long a, .long b] h (.inl (some (.int (bI (decide (a ≤ x ∧ x ≤ b)))))) h := by
  refine ev_qe P171 rfl ?_
  refine wp_lload_n k171_0 rfl rfl ?_
  refine wp_lload_n k171_1 rfl rfl ?_
  refine wp_lcmp k171_2 ?_
  refine wp_if_lt k171_3 (fun c3 => ?_) (fun c3 => ?_)
  · refine wp_iconst 0 k171_17 (by decide) ?_
    exact wp_retz k171_18 rfl (by rw [decide_eq_false (fun q => L_nlt.mp q.1 (lc_lt.mp c3))]; rfl) rfl
  · refine wp_lload_n k171_6 rfl rfl ?_
    refine wp_lload k171_7 rfl rfl ?_
    refine wp_lcmp k171_9 ?_
    refine wp_if_gt k171_10 (fun c10 => ?_) (fun c10 => ?_)
    · refine wp_iconst 0 k171_17 (by decide) ?_
      exact wp_retz k171_18 rfl (by rw [decide_eq_false (fun q => L_nlt.mp q.2 (lc_gt.mp c10))]; rfl) rfl
    · refine wp_iconst 1 k171_13 (by decide) ?_
      refine wp_goto k171_14 ?_
      exact wp_retz k171_18 rfl (by rw [decide_eq_true ⟨L_nlt.mpr fun q => c3 (lc_lt.mpr q), L_nlt.mpr fun q => c10 (lc_gt.mpr q)⟩]; rfl) rfl
theorem e_truth {S : ww_S} {h : mm_H} {x : Int32}  : EV S 1 172 [.int x] h (.inl (some (.int (if x = 0 then 0 else 1)))) h := by
  refine ev_qe P172 rfl ?_
  refine wp_iload_n k172_0 rfl rfl ?_
  refine wp_if_eq k172_1 (fun c1 => ?_) (fun c1 => ?_)
  · refine wp_iconst 0 k172_8 (by decide) ?_
    exact wp_reti k172_9 rfl (by simp_all) rfl
  · refine wp_iconst 1 k172_4 (by decide) ?_
    refine wp_goto k172_5 ?_
    exact wp_reti k172_9 rfl (by simp_all) rfl
theorem e_has {S : ww_S} {h : mm_H} {set k : Int32}  : EV S 1 173 [.int set, .int k] h (.inl (some (.int (bI (hasB set k))))) h := by
  refine ev_qe P173 rfl ?_
  refine wp_iload_n k173_0 rfl rfl ?_
  refine wp_iload_n k173_1 rfl rfl ?_
  refine wp_iushr k173_2 ?_
  refine wp_iconst 1 k173_3 (by decide) ?_
  refine wp_iand k173_4 ?_
  refine wp_iconst 1 k173_5 (by decide) ?_
  refine wp_if_icmp_ne k173_6 (fun c6 => ?_) (fun c6 => ?_)
  · refine wp_iconst 0 k173_13 (by decide) ?_
    exact wp_retz k173_14 rfl (by unfold hasB; simp_all [bI]) rfl
  · refine wp_iconst 1 k173_9 (by decide) ?_
    refine wp_goto k173_10 ?_
    exact wp_retz k173_14 rfl (by unfold hasB; simp_all [bI]) rfl
theorem e_passes {S : ww_S} {sh : List mm_C} {V : hV} (hM : MS sh) {b : Bool}  : EV S 1 176 [.ref 312, .int (bI b)] (hH sh V) (.inl (some (.int (bI (b))))) (hH sh (up V 312 6 (bI (!b)))) := by
  refine ev_qe P176 rfl ?_
  refine wp_aload_n k176_0 rfl rfl ?_
  refine wp_iload_n k176_1 rfl rfl ?_
  refine wp_if_eq k176_2 (fun c2 => ?_) (fun c2 => ?_)
  · refine wp_iconst 1 k176_9 (by decide) ?_
    refine wp_putI k176_10 (by decide) hM.o rfl rfl rfl ?_
    refine wp_iload_n k176_13 rfl rfl ?_
    exact wp_retz k176_14 rfl rfl (by cases b <;> simp_all [bI])
  · refine wp_iconst 0 k176_5 (by decide) ?_
    refine wp_goto k176_6 ?_
    refine wp_putI k176_10 (by decide) hM.o rfl rfl rfl ?_
    refine wp_iload_n k176_13 rfl rfl ?_
    exact wp_retz k176_14 rfl rfl (by cases b <;> simp_all [bI])
theorem e_facts {S : ww_S} {sh : List mm_C} {V : hV} (hM : MS sh)  : EV S 1 178 [.ref 312] (hH sh V) (.inl (some (.int (V.1 313 0)))) (hH sh (V)) := by
  refine ev_qe P178 rfl ?_
  refine wp_aload_n k178_0 rfl rfl ?_
  refine wp_getR k178_1 (by decide) hM.o rfl ?_
  refine wp_iconst 0 k178_4 (by decide) ?_
  refine wp_iaload k178_5 (by decide) (hM.a313) (by decide) 0 (by decide) _ rfl ?_
  exact wp_reti k178_6 rfl rfl rfl
theorem e_persons {S : ww_S} {sh : List mm_C} {V : hV} (hM : MS sh)  : EV S 1 179 [.ref 312] (hH sh V) (.inl (some (.int (V.1 313 1)))) (hH sh (V)) := by
  refine ev_qe P179 rfl ?_
  refine wp_aload_n k179_0 rfl rfl ?_
  refine wp_getR k179_1 (by decide) hM.o rfl ?_
  refine wp_iconst 1 k179_4 (by decide) ?_
  refine wp_iaload k179_5 (by decide) (hM.a313) (by decide) 1 (by decide) _ rfl ?_
  exact wp_reti k179_6 rfl rfl rfl
theorem e_isFact {S : ww_S} {sh : List mm_C} {V : hV} (hM : MS sh) {f : Int32}  : EV S 2 180 [.ref 312, .int f] (hH sh V) (.inl (some (.int (bI (inI f 0 (V.1 313 0 - 1)))))) (hH sh (V)) := by
  refine ev_qe P180 rfl ?_
  refine wp_iload_n k180_0 rfl rfl ?_
  refine wp_i2l k180_1 ?_
  refine wp_lconst 0 k180_2 (by decide) ?_
  refine wp_aload_n k180_3 rfl rfl ?_
  refine wp_cv (st2 := [_, _]) k180_4 (e_facts hM) (by decide) rfl rfl rfl rfl (by decide) hM.o (by decide) ?_
  refine wp_iconst 1 k180_7 (by decide) ?_
  refine wp_isub k180_8 ?_
  refine wp_i2l k180_9 ?_
  refine wp_cs (st2 := []) k180_10 (e_in) (by decide) rfl rfl rfl (by decide) ?_
  exact wp_retz k180_13 rfl (by
    congr 1
    unfold inI
    have n1 : ∀ u v : Int64, u ≤ v ↔ ¬ v < u := fun u v => by rw [Int64.le_iff_toInt_le, Int64.lt_iff_toInt_lt]; omega
    simp only [n1, le_nlt, show (0 : Int64) = (0 : Int32).toInt64 from rfl, l_lt]) rfl
theorem e_isPerson {S : ww_S} {sh : List mm_C} {V : hV} (hM : MS sh) {f : Int32}  : EV S 2 181 [.ref 312, .int f] (hH sh V) (.inl (some (.int (bI (inI f 0 (V.1 313 1 - 1)))))) (hH sh (V)) := by
  refine ev_qe P181 rfl ?_
  refine wp_iload_n k181_0 rfl rfl ?_
  refine wp_i2l k181_1 ?_
  refine wp_lconst 0 k181_2 (by decide) ?_
  refine wp_aload_n k181_3 rfl rfl ?_
  refine wp_cv (st2 := [_, _]) k181_4 (e_persons hM) (by decide) rfl rfl rfl rfl (by decide) hM.o (by decide) ?_
  refine wp_iconst 1 k181_7 (by decide) ?_
  refine wp_isub k181_8 ?_
  refine wp_i2l k181_9 ?_
  refine wp_cs (st2 := []) k181_10 (e_in) (by decide) rfl rfl rfl (by decide) ?_
  exact wp_retz k181_13 rfl (by
    congr 1
    unfold inI
    have n1 : ∀ u v : Int64, u ≤ v ↔ ¬ v < u := fun u v => by rw [Int64.le_iff_toInt_le, Int64.lt_iff_toInt_lt]; omega
    simp only [n1, le_nlt, show (0 : Int64) = (0 : Int32).toInt64 from rfl, l_lt]) rfl
theorem e_isWorld {S : ww_S} {sh : List mm_C} {V : hV} (hM : MS sh) {f : Int32}  : EV S 2 182 [.ref 312, .int f] (hH sh V) (.inl (some (.int (bI (inI f 0 (1 <<< (V.1 313 0 &&& 31) - 1)))))) (hH sh (V)) := by
  refine ev_qe P182 rfl ?_
  refine wp_iload_n k182_0 rfl rfl ?_
  refine wp_i2l k182_1 ?_
  refine wp_lconst 0 k182_2 (by decide) ?_
  refine wp_iconst 1 k182_3 (by decide) ?_
  refine wp_aload_n k182_4 rfl rfl ?_
  refine wp_cv (st2 := [_, _, _]) k182_5 (e_facts hM) (by decide) rfl rfl rfl rfl (by decide) hM.o (by decide) ?_
  refine wp_ishl k182_8 ?_
  refine wp_iconst 1 k182_9 (by decide) ?_
  refine wp_isub k182_10 ?_
  refine wp_i2l k182_11 ?_
  refine wp_cs (st2 := []) k182_12 (e_in) (by decide) rfl rfl rfl (by decide) ?_
  exact wp_retz k182_15 rfl (by
    congr 1
    unfold inI
    have n1 : ∀ u v : Int64, u ≤ v ↔ ¬ v < u := fun u v => by rw [Int64.le_iff_toInt_le, Int64.lt_iff_toInt_lt]; omega
    simp only [n1, le_nlt, show (0 : Int64) = (0 : Int32).toInt64 from rfl, l_lt]) rfl
theorem e_everybody {S : ww_S} {sh : List mm_C} {V : hV} (hM : MS sh)  : EV S 2 183 [.ref 312] (hH sh V) (.inl (some (.int (1 <<< (V.1 313 1 &&& 31) - 1)))) (hH sh (V)) := by
  refine ev_qe P183 rfl ?_
  refine wp_iconst 1 k183_0 (by decide) ?_
  refine wp_aload_n k183_1 rfl rfl ?_
  refine wp_cv (st2 := [_]) k183_2 (e_persons hM) (by decide) rfl rfl rfl rfl (by decide) hM.o (by decide) ?_
  refine wp_ishl k183_5 ?_
  refine wp_iconst 1 k183_6 (by decide) ?_
  refine wp_isub k183_7 ?_
  exact wp_reti k183_8 rfl rfl rfl
theorem e_isLeft {S : ww_S} {sh : List mm_C} {V : hV} (hM : MS sh) {w : Int32}  : EV S 2 185 [.ref 312, .int w] (hH sh V) (.inl (some (.int (bI (hasB (V.1 313 2) w))))) (hH sh (V)) := by
  refine ev_qe P185 rfl ?_
  refine wp_aload_n k185_0 rfl rfl ?_
  refine wp_getR k185_1 (by decide) hM.o rfl ?_
  refine wp_iconst 2 k185_4 (by decide) ?_
  refine wp_iaload k185_5 (by decide) (hM.a313) (by decide) 2 (by decide) _ rfl ?_
  refine wp_iload_n k185_6 rfl rfl ?_
  refine wp_cs (st2 := []) k185_7 (e_has) (by decide) rfl rfl rfl (by decide) ?_
  exact wp_retz k185_10 rfl rfl rfl
theorem e_alikeTo {S : ww_S} {sh : List mm_C} {V : hV} (hM : MS sh) {p w : Nat} (hp : p < 5) (hw : w < 32)  : EV S 3 186 [.ref 312, .int (Int32.ofNat p), .int (Int32.ofNat w)] (hH sh V) (.inl (some (.int (alk V p w)))) (hH sh (V)) := by
  refine ev_qe P186 rfl ?_
  refine wp_aload_n k186_0 rfl rfl ?_
  refine wp_iload_n k186_1 rfl rfl ?_
  refine wp_cv (st2 := []) k186_2 (e_isLeft hM) (by decide) rfl rfl rfl rfl (by decide) hM.o (by decide) ?_
  refine wp_if_eq k186_5 (fun c5 => ?_) (fun c5 => ?_)
  · refine wp_iconst 0 k186_33 (by decide) ?_
    exact wp_reti k186_34 rfl (by
      unfold alk
      simp only [bI_0, bI_n0] at *
      simp_all) rfl
  · refine wp_aload_n k186_8 rfl rfl ?_
    refine wp_getR k186_9 (by decide) hM.o rfl ?_
    refine wp_sipush 160 k186_12 (by decide) ?_
    refine wp_bipush 32 k186_15 (by decide) ?_
    refine wp_iload_n k186_17 rfl rfl ?_
    refine wp_imul k186_18 ?_
    refine wp_iadd k186_19 ?_
    refine wp_iload_n k186_20 rfl rfl ?_
    refine wp_iadd k186_21 ?_
    refine wp_iaload k186_22 (by decide) (hM.a313) (by rw [ix_alike]; exact i_inO (by omega) (by decide)) (160 + 32 * p + w) (by rw [ix_alike]; exact i_un (by omega)) _ rfl ?_
    refine wp_aload_n k186_23 rfl rfl ?_
    refine wp_getR k186_24 (by decide) hM.o rfl ?_
    refine wp_iconst 2 k186_27 (by decide) ?_
    refine wp_iaload k186_28 (by decide) (hM.a313) (by decide) 2 (by decide) _ rfl ?_
    refine wp_iand k186_29 ?_
    refine wp_goto k186_30 ?_
    exact wp_reti k186_34 rfl (by
      unfold alk
      simp only [bI_0, bI_n0] at *
      simp_all) rfl
/-- the lowest bit of a set, from k on -/
def lowF (set : Int32) : Nat → Nat → Int32
  | 0, _ => -1
  | f + 1, k => if hasB set (Int32.ofNat k) = true then Int32.ofNat k else lowF set f (k + 1)
theorem lowF_t {set : Int32} {f k : Nat} (h : hasB set (Int32.ofNat k) = true) : lowF set (f + 1) k = Int32.ofNat k := if_pos h
theorem lowF_f {set : Int32} {f k : Nat} (h : ¬ hasB set (Int32.ofNat k) = true) : lowF set (f + 1) k = lowF set f (k + 1) := if_neg h
abbrev lowest (set : Int32) : Int32 := lowF set 32 0
theorem l_lowest {S : ww_S} {h : mm_H} {set : Int32} : ∀ f k : Nat, f + k = 32 → WP S 1 mm_m175 2 [some (.int set), some (.int (Int32.ofNat k))] [] h (qe (.inl (some (.int (lowF set f k)))) h) := by
  intro f
  induction f with
  | zero =>
    intro k hk
    have hk : k = 32 := by omega
    subst hk
    refine wp_iload_n k175_2 rfl rfl ?_
    refine wp_bipush 32 k175_3 (by decide) ?_
    refine wp_if_icmp_ge_T k175_5 (show ¬ Int32.ofNat 32 < Int32.ofNat 32 from i_nlt (Nat.le_refl 32) (by decide)) ?_
    refine wp_iconst (-1) k175_24 (by decide) ?_
    exact wp_reti k175_25 rfl rfl rfl
  | succ f ih =>
    intro k hk
    refine wp_iload_n k175_2 rfl rfl ?_
    refine wp_bipush 32 k175_3 (by decide) ?_
    refine wp_if_icmp_ge_F k175_5 (show Int32.ofNat k < Int32.ofNat 32 from i_lt (by omega) (by decide)) ?_
    refine wp_iload_n k175_8 rfl rfl ?_
    refine wp_iload_n k175_9 rfl rfl ?_
    refine wp_cs (st2 := []) k175_10 (e_has) (by decide) rfl rfl rfl (by decide) ?_
    refine wp_if_eq k175_13 (fun c13 => ?_) (fun c13 => ?_)
    · refine wp_iinc (L1 := [_, _]) 1 k175_18 rfl (by decide) rfl ?_
      refine wp_goto k175_21 ?_
      rw [lowF_f (by rw [bI_0] at c13; rw [c13]; decide)]
      exact wp_eq (ih (k + 1) (by omega)) (by rw [i_succ]) rfl rfl
    · refine wp_iload_n k175_16 rfl rfl ?_
      exact wp_reti k175_17 rfl (by rw [lowF_t (bI_n0.mp c13)]) rfl
theorem e_lowest {S : ww_S} {h : mm_H} {set : Int32}  : EV S 2 175 [.int set] h (.inl (some (.int (lowest set)))) h := by
  refine ev_qe P175 rfl ?_
  refine wp_iconst 0 k175_0 (by decide) ?_
  refine wp_istore_n (L1 := [_, _]) k175_1 rfl rfl ?_
  exact l_lowest 32 0 rfl
abbrev isl (V : hV) (w : Nat) : Bool := hasB (V.1 313 2) (Int32.ofNat w)
def wof (fact : Int32) : Int32 := orF (fun w => hasB (Int32.ofNat w) fact) 32
def kb (V : hV) (p : Nat) (set : Int32) : Int32 := orF (fun w => isl V w && decide (alk V p w &&& (set ^^^ -1) = 0)) 32
def tb (V : hV) (p : Nat) (set : Int32) : Int32 := orF (fun w => decide (¬ alk V p w &&& set = 0)) 32
def kba (V : hV) (set : Int32) : Nat → Int32
  | 0 => V.1 313 2
  | p + 1 => kba V set p &&& kb V p set
def besP (V : hV) (w : Nat) (its : Int32) : Nat → Int32
  | 0 => its
  | p + 1 => besP V w its p ||| alk V p w
def besF (V : hV) (n : Nat) (set : Int32) : Nat → Int32
  | 0 => set
  | w + 1 => if hasB set (Int32.ofNat w) = true then besP V w (besF V n set w) n else besF V n set w
abbrev bes (V : hV) (n : Nat) (set : Int32) : Int32 := besF V n set 32
def fixF (f : Int32 → Int32) : Nat → Int32 → Int32
  | 0, s => s
  | m + 1, s => if f s = s then s else fixF f m (f s)
def rch (V : hV) (n : Nat) (s : Int32) : Int32 := fixF (bes V n) 4294967296 s
def com (V : hV) (n : Nat) (set : Int32) : Int32 := orF (fun w => isl V w && decide (rch V n (V.1 313 2 &&& 1 <<< (Int32.ofNat w &&& 31)) &&& (set ^^^ -1) = 0)) 32
theorem un_or (a b : Int32) : mm_un (a ||| b) = mm_un a ||| mm_un b := by
  rw [mm_un_bv, mm_un_bv, mm_un_bv]
  show (a.toBitVec ||| b.toBitVec).toNat = _
  rw [BitVec.toNat_or]
theorem un_le_or (a b : Int32) : mm_un a ≤ mm_un (a ||| b) := by rw [un_or]; exact Nat.left_le_or
theorem besP_le (V : hV) (w : Nat) (its : Int32) : ∀ p, mm_un its ≤ mm_un (besP V w its p)
  | 0 => Nat.le_refl _
  | p + 1 => Nat.le_trans (besP_le V w its p) (un_le_or _ _)
theorem besF_le (V : hV) (n : Nat) (set : Int32) : ∀ w, mm_un set ≤ mm_un (besF V n set w)
  | 0 => Nat.le_refl _
  | w + 1 => by
    unfold besF
    split
    · exact Nat.le_trans (besF_le V n set w) (besP_le V w _ n)
    · exact besF_le V n set w
theorem un_inj {x y : Int32} (h : mm_un x = mm_un y) : x = y := by rw [← wx_un x, h, wx_un]
theorem l_worldsOf {S : ww_S} {h : mm_H} {fact : Int32} : WP S 1 mm_m184 4 [some (.int (fact)), some (.int (0)), some (.int (Int32.ofNat 0))] [] h (qe (.inl (some (.int (orF (fun w => hasB (Int32.ofNat w) fact) 32)))) h) := by
  refine wp_loop (M := mm_m184) (pc := 4) (fun k => ([some (.int (fact)), some (.int ((orF (fun w => hasB (Int32.ofNat w) fact) k))), some (.int (Int32.ofNat k))], [], h)) 32 (fun k hk ih => ?_) ?_
  · dsimp only at ih ⊢
    refine wp_iload_n k184_4 rfl rfl ?_
    refine wp_bipush 32 k184_5 (by decide) ?_
    refine wp_if_icmp_ge_F k184_7 (show Int32.ofNat k < Int32.ofNat 32 from i_lt hk (by decide)) ?_
    refine wp_iload_n k184_10 rfl rfl ?_
    refine wp_iload_n k184_11 rfl rfl ?_
    refine wp_iload_n k184_12 rfl rfl ?_
    refine wp_cs (st2 := [_]) k184_13 (e_has) (by decide) rfl rfl rfl (by decide) ?_
    refine wp_cs (st2 := [_]) k184_16 (e_truth) (by decide) rfl rfl rfl (by decide) ?_
    refine wp_iload_n k184_19 rfl rfl ?_
    refine wp_ishl k184_20 ?_
    refine wp_ior k184_21 ?_
    refine wp_istore_n (L1 := [_, _, _]) k184_22 rfl rfl ?_
    refine wp_iinc (L1 := [_, _, _]) 1 k184_23 rfl (by decide) rfl ?_
    refine wp_goto k184_26 ?_
    exact wp_eq ih (by rw [orF_b rfl, i_succ]) rfl rfl
  · dsimp only
    refine wp_iload_n k184_4 rfl rfl ?_
    refine wp_bipush 32 k184_5 (by decide) ?_
    refine wp_if_icmp_ge_T k184_7 (show ¬ Int32.ofNat 32 < Int32.ofNat 32 from i_nlt (Nat.le_refl 32) (by decide)) ?_
    refine wp_iload_n k184_29 rfl rfl ?_
    exact wp_reti k184_30 rfl rfl rfl
theorem e_worldsOf {S : ww_S} {h : mm_H} {fact : Int32}  : EV S 2 184 [.int fact] h (.inl (some (.int (wof fact)))) h := by
  refine ev_qe P184 rfl ?_
  refine wp_iconst 0 k184_0 (by decide) ?_
  refine wp_istore_n (L1 := [_, _, _]) k184_1 rfl rfl ?_
  refine wp_iconst 0 k184_2 (by decide) ?_
  refine wp_istore_n (L1 := [_, _, _]) k184_3 rfl rfl ?_
  exact l_worldsOf
theorem l_knownBy {S : ww_S} {sh : List mm_C} {V : hV} (hM : MS sh) {p : Nat} (hp : p < 5) {set : Int32} : WP S 3 mm_m188 5 [some (.ref 312), some (.int (Int32.ofNat p)), some (.int (set)), some (.int (0)), some (.int (Int32.ofNat 0))] [] (hH sh V) (qe (.inl (some (.int (orF (fun w => isl V w && decide (alk V p w &&& (set ^^^ -1) = 0)) 32)))) (hH sh V)) := by
  refine wp_loop (M := mm_m188) (pc := 5) (fun k => ([some (.ref 312), some (.int (Int32.ofNat p)), some (.int (set)), some (.int ((orF (fun w => isl V w && decide (alk V p w &&& (set ^^^ -1) = 0)) k))), some (.int (Int32.ofNat k))], [], (hH sh V))) 32 (fun k hk ih => ?_) ?_
  · dsimp only at ih ⊢
    refine wp_iload k188_5 rfl rfl ?_
    refine wp_bipush 32 k188_7 (by decide) ?_
    refine wp_if_icmp_ge_F k188_9 (show Int32.ofNat k < Int32.ofNat 32 from i_lt hk (by decide)) ?_
    refine wp_iload_n k188_12 rfl rfl ?_
    refine wp_aload_n k188_13 rfl rfl ?_
    refine wp_iload k188_14 rfl rfl ?_
    refine wp_cv (st2 := [_]) k188_16 (e_isLeft hM) (by decide) rfl rfl rfl rfl (by decide) hM.o (by decide) ?_
    refine wp_if_eq k188_19 (fun c19 => ?_) (fun c19 => ?_)
    · refine wp_iconst 0 k188_40 (by decide) ?_
      refine wp_cs (st2 := [_]) k188_41 (e_truth) (by decide) rfl rfl rfl (by decide) ?_
      refine wp_iload k188_44 rfl rfl ?_
      refine wp_ishl k188_46 ?_
      refine wp_ior k188_47 ?_
      refine wp_istore_n (L1 := [_, _, _, _, _]) k188_48 rfl rfl ?_
      refine wp_iinc (L1 := [_, _, _, _, _]) 1 k188_49 rfl (by decide) rfl ?_
      refine wp_goto k188_52 ?_
      first
        | exact wp_eq ih (by rw [orF_t (by simp_all [bI_0, bI_n0]), i_succ]) rfl rfl
        | exact wp_eq ih (by rw [orF_f (by simp_all [bI_0, bI_n0]), i_succ]) rfl rfl
    · refine wp_aload_n k188_22 rfl rfl ?_
      refine wp_iload_n k188_23 rfl rfl ?_
      refine wp_iload k188_24 rfl rfl ?_
      refine wp_cv (st2 := [_]) k188_26 (e_alikeTo hM (by omega) (by omega)) (by decide) rfl rfl rfl rfl (by decide) hM.o (by decide) ?_
      refine wp_iload_n k188_29 rfl rfl ?_
      refine wp_iconst (-1) k188_30 (by decide) ?_
      refine wp_ixor k188_31 ?_
      refine wp_iand k188_32 ?_
      refine wp_if_ne k188_33 (fun c33 => ?_) (fun c33 => ?_)
      · refine wp_iconst 0 k188_40 (by decide) ?_
        refine wp_cs (st2 := [_]) k188_41 (e_truth) (by decide) rfl rfl rfl (by decide) ?_
        refine wp_iload k188_44 rfl rfl ?_
        refine wp_ishl k188_46 ?_
        refine wp_ior k188_47 ?_
        refine wp_istore_n (L1 := [_, _, _, _, _]) k188_48 rfl rfl ?_
        refine wp_iinc (L1 := [_, _, _, _, _]) 1 k188_49 rfl (by decide) rfl ?_
        refine wp_goto k188_52 ?_
        first
          | exact wp_eq ih (by rw [orF_t (by simp_all [bI_0, bI_n0]), i_succ]) rfl rfl
          | exact wp_eq ih (by rw [orF_f (by simp_all [bI_0, bI_n0]), i_succ]) rfl rfl
      · refine wp_iconst 1 k188_36 (by decide) ?_
        refine wp_goto k188_37 ?_
        refine wp_cs (st2 := [_]) k188_41 (e_truth) (by decide) rfl rfl rfl (by decide) ?_
        refine wp_iload k188_44 rfl rfl ?_
        refine wp_ishl k188_46 ?_
        refine wp_ior k188_47 ?_
        refine wp_istore_n (L1 := [_, _, _, _, _]) k188_48 rfl rfl ?_
        refine wp_iinc (L1 := [_, _, _, _, _]) 1 k188_49 rfl (by decide) rfl ?_
        refine wp_goto k188_52 ?_
        first
          | exact wp_eq ih (by rw [orF_t (by simp_all [bI_0, bI_n0]), i_succ]) rfl rfl
          | exact wp_eq ih (by rw [orF_f (by simp_all [bI_0, bI_n0]), i_succ]) rfl rfl
  · dsimp only
    refine wp_iload k188_5 rfl rfl ?_
    refine wp_bipush 32 k188_7 (by decide) ?_
    refine wp_if_icmp_ge_T k188_9 (show ¬ Int32.ofNat 32 < Int32.ofNat 32 from i_nlt (Nat.le_refl 32) (by decide)) ?_
    refine wp_iload_n k188_55 rfl rfl ?_
    exact wp_reti k188_56 rfl rfl rfl
theorem e_knownBy {S : ww_S} {sh : List mm_C} {V : hV} (hM : MS sh) {p : Nat} (hp : p < 5) {set : Int32}  : EV S 4 188 [.ref 312, .int (Int32.ofNat p), .int set] (hH sh V) (.inl (some (.int (kb V p set)))) (hH sh (V)) := by
  refine ev_qe P188 rfl ?_
  refine wp_iconst 0 k188_0 (by decide) ?_
  refine wp_istore_n (L1 := [_, _, _, _, _]) k188_1 rfl rfl ?_
  refine wp_iconst 0 k188_2 (by decide) ?_
  refine wp_istore (L1 := [_, _, _, _, _]) k188_3 rfl rfl ?_
  exact l_knownBy hM hp
theorem l_thoughtBy {S : ww_S} {sh : List mm_C} {V : hV} (hM : MS sh) {p : Nat} (hp : p < 5) {set : Int32} : WP S 3 mm_m189 5 [some (.ref 312), some (.int (Int32.ofNat p)), some (.int (set)), some (.int (0)), some (.int (Int32.ofNat 0))] [] (hH sh V) (qe (.inl (some (.int (orF (fun w => decide (¬ alk V p w &&& set = 0)) 32)))) (hH sh V)) := by
  refine wp_loop (M := mm_m189) (pc := 5) (fun k => ([some (.ref 312), some (.int (Int32.ofNat p)), some (.int (set)), some (.int ((orF (fun w => decide (¬ alk V p w &&& set = 0)) k))), some (.int (Int32.ofNat k))], [], (hH sh V))) 32 (fun k hk ih => ?_) ?_
  · dsimp only at ih ⊢
    refine wp_iload k189_5 rfl rfl ?_
    refine wp_bipush 32 k189_7 (by decide) ?_
    refine wp_if_icmp_ge_F k189_9 (show Int32.ofNat k < Int32.ofNat 32 from i_lt hk (by decide)) ?_
    refine wp_iload_n k189_12 rfl rfl ?_
    refine wp_aload_n k189_13 rfl rfl ?_
    refine wp_iload_n k189_14 rfl rfl ?_
    refine wp_iload k189_15 rfl rfl ?_
    refine wp_cv (st2 := [_]) k189_17 (e_alikeTo hM (by omega) (by omega)) (by decide) rfl rfl rfl rfl (by decide) hM.o (by decide) ?_
    refine wp_iload_n k189_20 rfl rfl ?_
    refine wp_iand k189_21 ?_
    refine wp_if_eq k189_22 (fun c22 => ?_) (fun c22 => ?_)
    · refine wp_iconst 0 k189_29 (by decide) ?_
      refine wp_cs (st2 := [_]) k189_30 (e_truth) (by decide) rfl rfl rfl (by decide) ?_
      refine wp_iload k189_33 rfl rfl ?_
      refine wp_ishl k189_35 ?_
      refine wp_ior k189_36 ?_
      refine wp_istore_n (L1 := [_, _, _, _, _]) k189_37 rfl rfl ?_
      refine wp_iinc (L1 := [_, _, _, _, _]) 1 k189_38 rfl (by decide) rfl ?_
      refine wp_goto k189_41 ?_
      first
        | exact wp_eq ih (by rw [orF_t (by simp_all [bI_0, bI_n0]), i_succ]) rfl rfl
        | exact wp_eq ih (by rw [orF_f (by simp_all [bI_0, bI_n0]), i_succ]) rfl rfl
    · refine wp_iconst 1 k189_25 (by decide) ?_
      refine wp_goto k189_26 ?_
      refine wp_cs (st2 := [_]) k189_30 (e_truth) (by decide) rfl rfl rfl (by decide) ?_
      refine wp_iload k189_33 rfl rfl ?_
      refine wp_ishl k189_35 ?_
      refine wp_ior k189_36 ?_
      refine wp_istore_n (L1 := [_, _, _, _, _]) k189_37 rfl rfl ?_
      refine wp_iinc (L1 := [_, _, _, _, _]) 1 k189_38 rfl (by decide) rfl ?_
      refine wp_goto k189_41 ?_
      first
        | exact wp_eq ih (by rw [orF_t (by simp_all [bI_0, bI_n0]), i_succ]) rfl rfl
        | exact wp_eq ih (by rw [orF_f (by simp_all [bI_0, bI_n0]), i_succ]) rfl rfl
  · dsimp only
    refine wp_iload k189_5 rfl rfl ?_
    refine wp_bipush 32 k189_7 (by decide) ?_
    refine wp_if_icmp_ge_T k189_9 (show ¬ Int32.ofNat 32 < Int32.ofNat 32 from i_nlt (Nat.le_refl 32) (by decide)) ?_
    refine wp_iload_n k189_44 rfl rfl ?_
    exact wp_reti k189_45 rfl rfl rfl
theorem e_thoughtBy {S : ww_S} {sh : List mm_C} {V : hV} (hM : MS sh) {p : Nat} (hp : p < 5) {set : Int32}  : EV S 4 189 [.ref 312, .int (Int32.ofNat p), .int set] (hH sh V) (.inl (some (.int (tb V p set)))) (hH sh (V)) := by
  refine ev_qe P189 rfl ?_
  refine wp_iconst 0 k189_0 (by decide) ?_
  refine wp_istore_n (L1 := [_, _, _, _, _]) k189_1 rfl rfl ?_
  refine wp_iconst 0 k189_2 (by decide) ?_
  refine wp_istore (L1 := [_, _, _, _, _]) k189_3 rfl rfl ?_
  exact l_thoughtBy hM hp
theorem l_knownByAll {S : ww_S} {sh : List mm_C} {V : hV} (hM : MS sh) {n : Nat} (hn : V.1 313 1 = Int32.ofNat n) (h5 : n ≤ 5) {set : Int32} : WP S 4 mm_m190 9 [some (.ref 312), some (.int (set)), some (.int (V.1 313 2)), some (.int (Int32.ofNat 0))] [] (hH sh V) (qe (.inl (some (.int (kba V set n)))) (hH sh V)) := by
  refine wp_loop (M := mm_m190) (pc := 9) (fun k => ([some (.ref 312), some (.int (set)), some (.int (kba V set k)), some (.int (Int32.ofNat k))], [], hH sh V)) n (fun k hk ih => ?_) ?_
  · dsimp only at ih ⊢
    refine wp_iload_n k190_9 rfl rfl ?_
    refine wp_aload_n k190_10 rfl rfl ?_
    refine wp_cv (st2 := [_]) k190_11 (e_persons hM) (by decide) rfl rfl rfl rfl (by decide) hM.o (by decide) ?_
    refine wp_if_icmp_ge_F k190_14 (by rw [hn]; exact i_lt hk (by omega)) ?_
    refine wp_iload_n k190_17 rfl rfl ?_
    refine wp_aload_n k190_18 rfl rfl ?_
    refine wp_iload_n k190_19 rfl rfl ?_
    refine wp_iload_n k190_20 rfl rfl ?_
    refine wp_cv (st2 := [_]) k190_21 (e_knownBy hM (by omega)) (by decide) rfl rfl rfl rfl (by decide) hM.o (by decide) ?_
    refine wp_iand k190_24 ?_
    refine wp_istore_n (L1 := [_, _, _, _]) k190_25 rfl rfl ?_
    refine wp_iinc (L1 := [_, _, _, _]) 1 k190_26 rfl (by decide) rfl ?_
    refine wp_goto k190_29 ?_
    exact wp_eq ih (by rw [i_succ]; rfl) rfl rfl
  · dsimp only
    refine wp_iload_n k190_9 rfl rfl ?_
    refine wp_aload_n k190_10 rfl rfl ?_
    refine wp_cv (st2 := [_]) k190_11 (e_persons hM) (by decide) rfl rfl rfl rfl (by decide) hM.o (by decide) ?_
    refine wp_if_icmp_ge_T k190_14 (by rw [hn]; exact i_nlt (Nat.le_refl n) (by omega)) ?_
    refine wp_iload_n k190_32 rfl rfl ?_
    exact wp_reti k190_33 rfl rfl rfl
theorem e_knownByAll {S : ww_S} {sh : List mm_C} {V : hV} (hM : MS sh) {n : Nat} (hn : V.1 313 1 = Int32.ofNat n) (h5 : n ≤ 5) {set : Int32}  : EV S 5 190 [.ref 312, .int set] (hH sh V) (.inl (some (.int (kba V set n)))) (hH sh (V)) := by
  refine ev_qe P190 rfl ?_
  refine wp_aload_n k190_0 rfl rfl ?_
  refine wp_getR k190_1 (by decide) hM.o rfl ?_
  refine wp_iconst 2 k190_4 (by decide) ?_
  refine wp_iaload k190_5 (by decide) (hM.a313) (by decide) 2 (by decide) _ rfl ?_
  refine wp_istore_n (L1 := [_, _, _, _]) k190_6 rfl rfl ?_
  refine wp_iconst 0 k190_7 (by decide) ?_
  refine wp_istore_n (L1 := [_, _, _, _]) k190_8 rfl rfl ?_
  exact l_knownByAll hM hn h5
theorem l_beside1 {S : ww_S} {sh : List mm_C} {V : hV} (hM : MS sh) {n : Nat} (hn : V.1 313 1 = Int32.ofNat n) (h5 : n ≤ 5) {set its : Int32} {w : Nat} (hw : w < 32) {Q : mm_V → mm_H → Prop} (K : WP S 3 mm_m191 4 [some (.ref 312), some (.int (set)), some (.int (besP V w its n)), some (.int (Int32.ofNat (w + 1))), some (.int (Int32.ofNat n))] [] (hH sh V) Q) : WP S 3 mm_m191 24 [some (.ref 312), some (.int (set)), some (.int (its)), some (.int (Int32.ofNat w)), some (.int (Int32.ofNat 0))] [] (hH sh V) Q := by
  refine wp_loop (M := mm_m191) (pc := 24) (fun k => ([some (.ref 312), some (.int (set)), some (.int (besP V w its k)), some (.int (Int32.ofNat w)), some (.int (Int32.ofNat k))], [], hH sh V)) n (fun k hk ih => ?_) ?_
  · dsimp only at ih ⊢
    refine wp_iload k191_24 rfl rfl ?_
    refine wp_aload_n k191_26 rfl rfl ?_
    refine wp_cv (st2 := [_]) k191_27 (e_persons hM) (by decide) rfl rfl rfl rfl (by decide) hM.o (by decide) ?_
    refine wp_if_icmp_ge_F k191_30 (by rw [hn]; exact i_lt hk (by omega)) ?_
    refine wp_iload_n k191_33 rfl rfl ?_
    refine wp_aload_n k191_34 rfl rfl ?_
    refine wp_iload k191_35 rfl rfl ?_
    refine wp_iload_n k191_37 rfl rfl ?_
    refine wp_cv (st2 := [_]) k191_38 (e_alikeTo hM (by omega) (by omega)) (by decide) rfl rfl rfl rfl (by decide) hM.o (by decide) ?_
    refine wp_ior k191_41 ?_
    refine wp_istore_n (L1 := [_, _, _, _, _]) k191_42 rfl rfl ?_
    refine wp_iinc (L1 := [_, _, _, _, _]) 1 k191_43 rfl (by decide) rfl ?_
    refine wp_goto k191_46 ?_
    exact wp_eq ih (by rw [i_succ]; rfl) rfl rfl
  · dsimp only
    refine wp_iload k191_24 rfl rfl ?_
    refine wp_aload_n k191_26 rfl rfl ?_
    refine wp_cv (st2 := [_]) k191_27 (e_persons hM) (by decide) rfl rfl rfl rfl (by decide) hM.o (by decide) ?_
    refine wp_if_icmp_ge_T k191_30 (by rw [hn]; exact i_nlt (Nat.le_refl n) (by omega)) ?_
    refine wp_iinc (L1 := [_, _, _, _, _]) 1 k191_49 rfl (by decide) rfl ?_
    refine wp_goto k191_52 ?_
    exact wp_eq K (by rw [i_succ]) rfl rfl
theorem l_beside {S : ww_S} {sh : List mm_C} {V : hV} (hM : MS sh) {n : Nat} (hn : V.1 313 1 = Int32.ofNat n) (h5 : n ≤ 5) {set : Int32} : ∀ (f w : Nat) (o : Option Value), f + w = 32 → WP S 3 mm_m191 4 [some (.ref 312), some (.int (set)), some (.int (besF V n set w)), some (.int (Int32.ofNat w)), o] [] (hH sh V) (qe (.inl (some (.int (bes V n set)))) (hH sh V)) := by
  intro f
  induction f with
  | zero =>
    intro w o hw
    have hw : w = 32 := by omega
    subst hw
    refine wp_iload_n k191_4 rfl rfl ?_
    refine wp_bipush 32 k191_5 (by decide) ?_
    refine wp_if_icmp_ge_T k191_7 (show ¬ Int32.ofNat 32 < Int32.ofNat 32 from i_nlt (Nat.le_refl 32) (by decide)) ?_
    refine wp_iload_n k191_55 rfl rfl ?_
    exact wp_reti k191_56 rfl rfl rfl
  | succ f ih =>
    intro w o hw
    refine wp_iload_n k191_4 rfl rfl ?_
    refine wp_bipush 32 k191_5 (by decide) ?_
    refine wp_if_icmp_ge_F k191_7 (show Int32.ofNat w < Int32.ofNat 32 from i_lt (by omega) (by decide)) ?_
    refine wp_iload_n k191_10 rfl rfl ?_
    refine wp_iload_n k191_11 rfl rfl ?_
    refine wp_cs (st2 := []) k191_12 (e_has) (by decide) rfl rfl rfl (by decide) ?_
    refine wp_if_ne k191_15 (fun c15 => ?_) (fun c15 => ?_)
    · refine wp_iconst 0 k191_21 (by decide) ?_
      refine wp_istore (L1 := [_, _, _, _, _]) k191_22 rfl rfl ?_
      refine l_beside1 hM hn h5 (by omega) ?_
      exact wp_eq (ih (w + 1) _ (by omega)) (by simp only [besF]; rw [if_pos (bI_n0.mp c15)]) rfl rfl
    · refine wp_goto k191_18 ?_
      refine wp_iinc (L1 := [_, _, _, _, _]) 1 k191_49 rfl (by decide) rfl ?_
      refine wp_goto k191_52 ?_
      exact wp_eq (ih (w + 1) _ (by omega)) (by simp only [besF]; rw [if_neg (by rw [bI_0.mp c15]; decide), i_succ]) rfl rfl
theorem e_beside {S : ww_S} {sh : List mm_C} {V : hV} (hM : MS sh) {n : Nat} (hn : V.1 313 1 = Int32.ofNat n) (h5 : n ≤ 5) {set : Int32}  : EV S 4 191 [.ref 312, .int set] (hH sh V) (.inl (some (.int (bes V n set)))) (hH sh (V)) := by
  refine ev_qe P191 rfl ?_
  refine wp_iload_n k191_0 rfl rfl ?_
  refine wp_istore_n (L1 := [_, _, _, _, _]) k191_1 rfl rfl ?_
  refine wp_iconst 0 k191_2 (by decide) ?_
  refine wp_istore_n (L1 := [_, _, _, _, _]) k191_3 rfl rfl ?_
  exact l_beside hM hn h5 32 0 none rfl
theorem l_reached {S : ww_S} {sh : List mm_C} {V : hV} (hM : MS sh) {n : Nat} (hn : V.1 313 1 = Int32.ofNat n) (h5 : n ≤ 5) {w : Int32} : ∀ (m : Nat) (s : Int32), 4294967296 ≤ mm_un s + m → WP S 4 mm_m192 13 [some (.ref 312), some (.int (w)), some (.int (bes V n s)), some (.int (s))] [] (hH sh V) (qe (.inl (some (.int (fixF (bes V n) m s)))) (hH sh V)) := by
  intro m
  induction m with
  | zero =>
    intro s hs
    exact absurd (mm_un_lt s) (by omega)
  | succ m ih =>
    intro s hs
    have hle : mm_un s ≤ mm_un (bes V n s) := besF_le V n s 32
    refine wp_iload_n k192_13 rfl rfl ?_
    refine wp_iload_n k192_14 rfl rfl ?_
    refine wp_if_icmp_eq k192_15 (fun c15 => ?_) (fun c15 => ?_)
    · refine wp_iload_n k192_29 rfl rfl ?_
      exact wp_reti k192_30 rfl (by rw [show fixF (bes V n) (m + 1) s = s from if_pos c15]; exact c15) rfl
    · refine wp_iload_n k192_18 rfl rfl ?_
      refine wp_istore_n (L1 := [_, _, _, _]) k192_19 rfl rfl ?_
      refine wp_aload_n k192_20 rfl rfl ?_
      refine wp_iload_n k192_21 rfl rfl ?_
      refine wp_cv (st2 := []) k192_22 (e_beside hM hn h5) (by decide) rfl rfl rfl rfl (by decide) hM.o (by decide) ?_
      refine wp_istore_n (L1 := [_, _, _, _]) k192_25 rfl rfl ?_
      refine wp_goto k192_26 ?_
      rw [show fixF (bes V n) (m + 1) s = fixF (bes V n) m (bes V n s) from if_neg c15]
      exact ih (bes V n s) (by
        have : mm_un (bes V n s) ≠ mm_un s := fun q => c15 (un_inj q)
        omega)
theorem hasB_0 (k : Nat) (hk : k < 32) : hasB 0 (Int32.ofNat k) = false := by
  have : ∀ k : Fin 32, hasB 0 (Int32.ofNat k.val) = false := by decide
  exact this ⟨k, hk⟩
theorem besF_0 (V : hV) (n : Nat) : ∀ w, w ≤ 32 → besF V n 0 w = 0
  | 0, _ => rfl
  | w + 1, h => by
    unfold besF
    rw [hasB_0 w (by omega), if_neg (by decide), besF_0 V n w (by omega)]
theorem rch_0 (V : hV) (n : Nat) : rch V n 0 = 0 := by
  have h : ∀ m, fixF (bes V n) (m + 1) 0 = 0 := fun m => if_pos (besF_0 V n 32 (Nat.le_refl 32))
  exact h 4294967295
theorem e_reachedFrom {S : ww_S} {sh : List mm_C} {V : hV} (hM : MS sh) {n : Nat} (hn : V.1 313 1 = Int32.ofNat n) (h5 : n ≤ 5) {w : Int32}  : EV S 5 192 [.ref 312, .int w] (hH sh V) (.inl (some (.int (rch V n (V.1 313 2 &&& 1 <<< (w &&& 31)))))) (hH sh (V)) := by
  refine ev_qe P192 rfl ?_
  refine wp_aload_n k192_0 rfl rfl ?_
  refine wp_getR k192_1 (by decide) hM.o rfl ?_
  refine wp_iconst 2 k192_4 (by decide) ?_
  refine wp_iaload k192_5 (by decide) (hM.a313) (by decide) 2 (by decide) _ rfl ?_
  refine wp_iconst 1 k192_6 (by decide) ?_
  refine wp_iload_n k192_7 rfl rfl ?_
  refine wp_ishl k192_8 ?_
  refine wp_iand k192_9 ?_
  refine wp_istore_n (L1 := [_, _, _, _]) k192_10 rfl rfl ?_
  refine wp_iconst 0 k192_11 (by decide) ?_
  refine wp_istore_n (L1 := [_, _, _, _]) k192_12 rfl rfl ?_
  refine wp_iload_n k192_13 rfl rfl ?_
  refine wp_iload_n k192_14 rfl rfl ?_
  refine wp_if_icmp_eq k192_15 (fun c15 => ?_) (fun c15 => ?_)
  · refine wp_iload_n k192_29 rfl rfl ?_
    exact wp_reti k192_30 rfl (by rw [c15, rch_0]) rfl
  · have key := l_reached hM hn h5 (S := S) (w := w) 4294967296 (V.1 313 2 &&& 1 <<< (w &&& 31)) (by omega)
    refine wp_iload_n k192_18 rfl rfl ?_
    refine wp_istore_n k192_19 rfl rfl ?_
    refine wp_aload_n k192_20 rfl rfl ?_
    refine wp_iload_n k192_21 rfl rfl ?_
    refine wp_cv k192_22 (e_beside hM hn h5) (by decide) rfl rfl rfl rfl (by decide) hM.o (by decide) ?_
    refine wp_istore_n k192_25 rfl rfl ?_
    refine wp_goto k192_26 ?_
    exact key
theorem l_commonOf {S : ww_S} {sh : List mm_C} {V : hV} (hM : MS sh) {n : Nat} (hn : V.1 313 1 = Int32.ofNat n) (h5 : n ≤ 5) {set : Int32} : WP S 5 mm_m193 4 [some (.ref 312), some (.int (set)), some (.int (0)), some (.int (Int32.ofNat 0))] [] (hH sh V) (qe (.inl (some (.int (orF (fun w => isl V w && decide (rch V n (V.1 313 2 &&& 1 <<< (Int32.ofNat w &&& 31)) &&& (set ^^^ -1) = 0)) 32)))) (hH sh V)) := by
  refine wp_loop (M := mm_m193) (pc := 4) (fun k => ([some (.ref 312), some (.int (set)), some (.int ((orF (fun w => isl V w && decide (rch V n (V.1 313 2 &&& 1 <<< (Int32.ofNat w &&& 31)) &&& (set ^^^ -1) = 0)) k))), some (.int (Int32.ofNat k))], [], (hH sh V))) 32 (fun k hk ih => ?_) ?_
  · dsimp only at ih ⊢
    refine wp_iload_n k193_4 rfl rfl ?_
    refine wp_bipush 32 k193_5 (by decide) ?_
    refine wp_if_icmp_ge_F k193_7 (show Int32.ofNat k < Int32.ofNat 32 from i_lt hk (by decide)) ?_
    refine wp_iload_n k193_10 rfl rfl ?_
    refine wp_aload_n k193_11 rfl rfl ?_
    refine wp_iload_n k193_12 rfl rfl ?_
    refine wp_cv (st2 := [_]) k193_13 (e_isLeft hM) (by decide) rfl rfl rfl rfl (by decide) hM.o (by decide) ?_
    refine wp_if_eq k193_16 (fun c16 => ?_) (fun c16 => ?_)
    · refine wp_iconst 0 k193_35 (by decide) ?_
      refine wp_cs (st2 := [_]) k193_36 (e_truth) (by decide) rfl rfl rfl (by decide) ?_
      refine wp_iload_n k193_39 rfl rfl ?_
      refine wp_ishl k193_40 ?_
      refine wp_ior k193_41 ?_
      refine wp_istore_n (L1 := [_, _, _, _]) k193_42 rfl rfl ?_
      refine wp_iinc (L1 := [_, _, _, _]) 1 k193_43 rfl (by decide) rfl ?_
      refine wp_goto k193_46 ?_
      first
        | exact wp_eq ih (by rw [orF_t (by simp_all [bI_0, bI_n0]), i_succ]) rfl rfl
        | exact wp_eq ih (by rw [orF_f (by simp_all [bI_0, bI_n0]), i_succ]) rfl rfl
    · refine wp_aload_n k193_19 rfl rfl ?_
      refine wp_iload_n k193_20 rfl rfl ?_
      refine wp_cv (st2 := [_]) k193_21 (e_reachedFrom hM hn h5) (by decide) rfl rfl rfl rfl (by decide) hM.o (by decide) ?_
      refine wp_iload_n k193_24 rfl rfl ?_
      refine wp_iconst (-1) k193_25 (by decide) ?_
      refine wp_ixor k193_26 ?_
      refine wp_iand k193_27 ?_
      refine wp_if_ne k193_28 (fun c28 => ?_) (fun c28 => ?_)
      · refine wp_iconst 0 k193_35 (by decide) ?_
        refine wp_cs (st2 := [_]) k193_36 (e_truth) (by decide) rfl rfl rfl (by decide) ?_
        refine wp_iload_n k193_39 rfl rfl ?_
        refine wp_ishl k193_40 ?_
        refine wp_ior k193_41 ?_
        refine wp_istore_n (L1 := [_, _, _, _]) k193_42 rfl rfl ?_
        refine wp_iinc (L1 := [_, _, _, _]) 1 k193_43 rfl (by decide) rfl ?_
        refine wp_goto k193_46 ?_
        first
          | exact wp_eq ih (by rw [orF_t (by simp_all [bI_0, bI_n0]), i_succ]) rfl rfl
          | exact wp_eq ih (by rw [orF_f (by simp_all [bI_0, bI_n0]), i_succ]) rfl rfl
      · refine wp_iconst 1 k193_31 (by decide) ?_
        refine wp_goto k193_32 ?_
        refine wp_cs (st2 := [_]) k193_36 (e_truth) (by decide) rfl rfl rfl (by decide) ?_
        refine wp_iload_n k193_39 rfl rfl ?_
        refine wp_ishl k193_40 ?_
        refine wp_ior k193_41 ?_
        refine wp_istore_n (L1 := [_, _, _, _]) k193_42 rfl rfl ?_
        refine wp_iinc (L1 := [_, _, _, _]) 1 k193_43 rfl (by decide) rfl ?_
        refine wp_goto k193_46 ?_
        first
          | exact wp_eq ih (by rw [orF_t (by simp_all [bI_0, bI_n0]), i_succ]) rfl rfl
          | exact wp_eq ih (by rw [orF_f (by simp_all [bI_0, bI_n0]), i_succ]) rfl rfl
  · dsimp only
    refine wp_iload_n k193_4 rfl rfl ?_
    refine wp_bipush 32 k193_5 (by decide) ?_
    refine wp_if_icmp_ge_T k193_7 (show ¬ Int32.ofNat 32 < Int32.ofNat 32 from i_nlt (Nat.le_refl 32) (by decide)) ?_
    refine wp_iload_n k193_49 rfl rfl ?_
    exact wp_reti k193_50 rfl rfl rfl
theorem e_commonOf {S : ww_S} {sh : List mm_C} {V : hV} (hM : MS sh) {n : Nat} (hn : V.1 313 1 = Int32.ofNat n) (h5 : n ≤ 5) {set : Int32}  : EV S 6 193 [.ref 312, .int set] (hH sh V) (.inl (some (.int (com V n set)))) (hH sh (V)) := by
  refine ev_qe P193 rfl ?_
  refine wp_iconst 0 k193_0 (by decide) ?_
  refine wp_istore_n (L1 := [_, _, _, _]) k193_1 rfl rfl ?_
  refine wp_iconst 0 k193_2 (by decide) ?_
  refine wp_istore_n (L1 := [_, _, _, _]) k193_3 rfl rfl ?_
  exact l_commonOf hM hn h5
end M1
