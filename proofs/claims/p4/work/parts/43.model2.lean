section M2
/-! ===== the reference: bits, copies, beginnings, formulas ===== -/
def cntN : Nat → Nat → Nat
  | 0, _ => 0
  | f + 1, n => n % 2 + cntN f (n / 2)
/-- how many bits -/
def cnt (x : Int32) : Nat := cntN 32 (mm_un x)
theorem cntN_0 : ∀ f, cntN f 0 = 0
  | 0 => rfl
  | f + 1 => by
    show 0 % 2 + cntN f (0 / 2) = 0
    rw [Nat.zero_div, cntN_0 f]
theorem cntN_le : ∀ f n, cntN f n ≤ f
  | 0, _ => Nat.le_refl 0
  | f + 1, n => by
    show n % 2 + cntN f (n / 2) ≤ f + 1
    have := cntN_le f (n / 2)
    omega
theorem cntN_clear : ∀ f n, 0 < n → n < 2 ^ f → cntN f (n &&& (n - 1)) + 1 = cntN f n
  | 0, n, h, h2 => by rw [Nat.pow_zero] at h2; omega
  | f + 1, n, h, h2 => by
    show (n &&& (n - 1)) % 2 + cntN f ((n &&& (n - 1)) / 2) + 1 = n % 2 + cntN f (n / 2)
    have hm : (n &&& (n - 1)) % 2 = 0 := by
      rcases Nat.mod_two_eq_zero_or_one (n &&& (n - 1)) with e | e
      · exact e
      · have := Nat.and_mod_two_eq_one.mp e
        omega
    rw [hm, Nat.and_div_two]
    rcases Nat.mod_two_eq_zero_or_one n with e | e
    · have h3 : (n - 1) / 2 = n / 2 - 1 := by omega
      have := cntN_clear f (n / 2) (by omega) (by rw [Nat.pow_succ] at h2; omega)
      rw [h3, e]
      omega
    · have h3 : (n - 1) / 2 = n / 2 := by omega
      rw [h3, Nat.and_self, e]
      omega
theorem un_and (a b : Int32) : mm_un (a &&& b) = mm_un a &&& mm_un b := by
  rw [mm_un_bv, mm_un_bv, mm_un_bv]
  show (a.toBitVec &&& b.toBitVec).toNat = _
  rw [BitVec.toNat_and]
theorem un_pred {x : Int32} (h : ¬ x = 0) : mm_un (x - 1) = mm_un x - 1 := by
  have h0 : mm_un x ≠ 0 := fun q => h (un_inj q)
  have hl := mm_un_lt x
  rw [mm_un_bv] at *
  rw [mm_un_bv]
  show (x.toBitVec - (1 : Int32).toBitVec).toNat = _
  rw [BitVec.toNat_sub]
  show (2 ^ 32 - 1 + x.toBitVec.toNat) % 2 ^ 32 = _
  omega
theorem cnt_clear {x : Int32} (h : ¬ x = 0) : cnt (x &&& (x - 1)) + 1 = cnt x := by
  unfold cnt
  have h0 : mm_un x ≠ 0 := fun q => h (un_inj q)
  rw [un_and, un_pred h]
  exact cntN_clear 32 _ (by omega) (mm_un_lt x)
theorem cnt_0 : cnt 0 = 0 := by decide
theorem cnt_le (x : Int32) : cnt x ≤ 32 := cntN_le 32 _
theorem l_bits {S : ww_S} {h : mm_H} {set : Int32} : ∀ (f k : Nat) (x : Int32), cnt x = f → WP S 0 mm_m174 4 [some (.int set), some (.int (Int32.ofNat k)), some (.int x)] [] h (qe (.inl (some (.int (Int32.ofNat (k + f))))) h) := by
  intro f
  induction f with
  | zero =>
    intro k x hx
    by_cases e : x = 0
    · refine wp_iload_n k174_4 rfl rfl ?_
      refine wp_if_eq_T k174_5 e ?_
      refine wp_iload_n k174_20 rfl rfl ?_
      exact wp_reti k174_21 rfl rfl rfl
    · exact absurd (cnt_clear e) (by omega)
  | succ f ih =>
    intro k x hx
    have e : ¬ x = 0 := fun q => by rw [q, cnt_0] at hx; exact absurd hx (by omega)
    have h2 := cnt_clear e
    refine wp_iload_n k174_4 rfl rfl ?_
    refine wp_if_eq_F k174_5 e ?_
    refine wp_iinc (L1 := [_, _, _]) 1 k174_8 rfl (by decide) rfl ?_
    refine wp_iload_n k174_11 rfl rfl ?_
    refine wp_iload_n k174_12 rfl rfl ?_
    refine wp_iconst 1 k174_13 (by decide) ?_
    refine wp_isub k174_14 ?_
    refine wp_iand k174_15 ?_
    refine wp_istore_n (L1 := [_, _, _]) k174_16 rfl rfl ?_
    refine wp_goto k174_17 ?_
    exact wp_eq (show WP S 0 mm_m174 4 [some (.int set), some (.int (Int32.ofNat (k + 1))), some (.int (x &&& (x - 1)))] [] h (qe (.inl (some (.int (Int32.ofNat (k + (f + 1)))))) h) from by rw [show k + (f + 1) = k + 1 + f by omega]; exact ih (k + 1) _ (by omega)) (by rw [i_succ]) rfl rfl
theorem e_bits {S : ww_S} {h : mm_H} {set : Int32}  : EV S 1 174 [.int set] h (.inl (some (.int (Int32.ofNat (cnt set))))) h := by
  refine ev_qe P174 rfl ?_
  refine wp_iconst 0 k174_0 (by decide) ?_
  refine wp_istore_n (L1 := [_, _, _]) k174_1 rfl rfl ?_
  refine wp_iload_n k174_2 rfl rfl ?_
  refine wp_istore_n (L1 := [_, _, _]) k174_3 rfl rfl ?_
  exact wp_eq (l_bits (cnt set) 0 set rfl) rfl rfl rfl |>.imp (fun v g q => by rw [Nat.zero_add] at q; exact q)
/-- numbers of the cell a laid over -/
def ovr (V : hV) (a : Nat) (g : Nat → Option Int32) : hV := (fun b j => if b = a then (match g j with
  | some x => x
  | none => V.1 a j) else V.1 b j, V.2)
theorem ovr_ne (V : hV) {a b : Nat} (g : Nat → Option Int32) (h : b ≠ a) (j : Nat) : (ovr V a g).1 b j = V.1 b j := by
  unfold ovr
  dsimp only
  rw [if_neg h]
theorem ovr_some (V : hV) {a j : Nat} {g : Nat → Option Int32} {x : Int32} (h : g j = some x) : (ovr V a g).1 a j = x := by
  unfold ovr
  dsimp only
  rw [if_pos rfl, h]
theorem ovr_none (V : hV) {a j : Nat} {g : Nat → Option Int32} (h : g j = none) : (ovr V a g).1 a j = V.1 a j := by
  unfold ovr
  dsimp only
  rw [if_pos rfl, h]
theorem ovr_up (V : hV) (a k : Nat) (g : Nat → Option Int32) (x : Int32) : up (ovr V a g) a k x = ovr V a (fun j => if j = k then some x else g j) := by
  unfold up ovr
  refine Prod.ext ?_ rfl
  funext b j
  dsimp only
  by_cases e : b = a
  · subst e
    rw [if_pos rfl, if_pos rfl]
    by_cases e2 : j = k
    · rw [if_pos e2, if_pos e2, if_pos rfl]
    · rw [if_neg e2, if_neg e2, if_pos rfl]
  · rw [if_neg e, if_neg e, if_neg e]
theorem ovr_0 (V : hV) (a : Nat) : ovr V a (fun _ => none) = V := by
  unfold ovr
  refine Prod.ext ?_ rfl
  funext b j
  dsimp only
  by_cases e : b = a
  · rw [if_pos e, e]
  · rw [if_neg e]
theorem up_ovr (V : hV) (a k : Nat) (x : Int32) : up V a k x = ovr V a (fun j => if j = k then some x else none) := by
  have := ovr_up V a k (fun _ => none) x
  rw [ovr_0] at this
  exact this
theorem hV_ext {V W : hV} (h : ∀ a k, V.1 a k = W.1 a k) (h2 : V.2 = W.2) : V = W := Prod.ext (funext fun a => funext fun k => h a k) h2
/-- a row of 564 numbers copied -/
def cpV (V : hV) (f a t b n : Nat) : hV := ovr V t (fun j => if b ≤ j ∧ j < b + n then some (V.1 f (a + (j - b))) else none)
theorem l_copies {S : ww_S} {sh : List mm_C} {V : hV} {f t nf nt a b : Nat} (hf64 : 64 ≤ f) (ht64 : 64 ≤ t) (hf : sh[f - 64]? = some (.inl (0, nf, 0))) (ht : sh[t - 64]? = some (.inl (0, nt, 0))) (hne : f ≠ t) (ha : a + 564 ≤ nf) (hb : b + 564 ≤ nt) (hnf : nf ≤ 100000) (hnt : nt ≤ 100000) : WP S 0 mm_m177 3 [some (.ref f), some (.int (Int32.ofNat a)), some (.ref t), some (.int (Int32.ofNat b)), some (.int (Int32.ofNat 0))] [] (hH sh V) (qe (.inl none) (hH sh (cpV V f a t b 564))) := by
  have h0 : cpV V f a t b 0 = V := by
    unfold cpV
    rw [show (fun j => if b ≤ j ∧ j < b + 0 then some (V.1 f (a + (j - b))) else none) = (fun _ => none) from funext fun j => if_neg (by omega)]
    exact ovr_0 V t
  have key := wp_loop (S := S) (D := 0) (Q := qe (.inl none) (hH sh (cpV V f a t b 564))) (M := mm_m177) (pc := 3) (fun k => ([some (.ref f), some (.int (Int32.ofNat a)), some (.ref t), some (.int (Int32.ofNat b)), some (.int (Int32.ofNat k))], [], hH sh (cpV V f a t b k))) 564 (fun k hk ih => ?_) ?_
  · rw [h0] at key
    exact key
  · dsimp only at ih ⊢
    refine wp_iload k177_3 rfl rfl ?_
    refine wp_sipush 564 k177_5 (by decide) ?_
    refine wp_if_icmp_ge_F k177_8 (show Int32.ofNat k < Int32.ofNat 564 from i_lt hk (by decide)) ?_
    refine wp_aload_n k177_11 rfl rfl ?_
    refine wp_iload_n k177_12 rfl rfl ?_
    refine wp_iload k177_13 rfl rfl ?_
    refine wp_iadd k177_15 ?_
    refine wp_aload_n k177_16 rfl rfl ?_
    refine wp_iload_n k177_17 rfl rfl ?_
    refine wp_iload k177_18 rfl rfl ?_
    refine wp_iadd k177_20 ?_
    refine wp_iaload k177_21 hf64 hf (by rw [← Int32.ofNat_add]; exact i_inO (by omega) (by omega)) (a + k) (by rw [← Int32.ofNat_add]; exact i_un (by omega)) (V.1 f (a + k)) (by unfold cpV; rw [ovr_ne _ _ hne]) ?_
    refine wp_iastore k177_22 ht64 ht (by rw [← Int32.ofNat_add]; exact i_inO (by omega) (by omega)) (b + k) (by rw [← Int32.ofNat_add]; exact i_un (by omega)) ?_
    refine wp_iinc (L1 := [_, _, _, _, _]) 1 k177_23 rfl (by decide) rfl ?_
    refine wp_goto k177_26 ?_
    refine wp_eq ih (by rw [i_succ]) rfl ?_
    congr 1
    unfold cpV
    rw [ovr_up]
    congr 1
    funext j
    by_cases e : j = b + k
    · subst e
      rw [if_pos rfl, if_pos (by omega), show b + k - b = k by omega]
    · rw [if_neg e]
      by_cases e2 : b ≤ j ∧ j < b + k
      · rw [if_pos e2, if_pos (by omega)]
      · rw [if_neg e2, if_neg (by omega)]
  · dsimp only
    refine wp_iload k177_3 rfl rfl ?_
    refine wp_sipush 564 k177_5 (by decide) ?_
    refine wp_if_icmp_ge_T k177_8 (show ¬ Int32.ofNat 564 < Int32.ofNat 564 from i_nlt (Nat.le_refl 564) (by decide)) ?_
    exact wp_retn k177_29 rfl rfl
theorem e_copies {S : ww_S} {sh : List mm_C} {V : hV} {f t nf nt a b : Nat} (hf64 : 64 ≤ f) (ht64 : 64 ≤ t) (hf : sh[f - 64]? = some (.inl (0, nf, 0))) (ht : sh[t - 64]? = some (.inl (0, nt, 0))) (hne : f ≠ t) (ha : a + 564 ≤ nf) (hb : b + 564 ≤ nt) (hnf : nf ≤ 100000) (hnt : nt ≤ 100000) : EV S 1 177 [.ref f, .int (Int32.ofNat a), .ref t, .int (Int32.ofNat b)] (hH sh V) (.inl none) (hH sh (cpV V f a t b 564)) := by
  refine ev_qe P177 rfl ?_
  refine wp_iconst 0 k177_0 (by decide) ?_
  refine wp_istore (L1 := [_, _, _, _, _]) k177_1 rfl rfl ?_
  exact l_copies hf64 ht64 hf ht hne ha hb hnf hnt
/-- what a node is true in, its parts' places being a (and b) -/
def nodeF (V : hV) (n k a b : Nat) : Int32 := match k with
  | 0 => wof (Int32.ofNat a) &&& V.1 313 2
  | 1 => (V.1 318 a ^^^ -1) &&& V.1 313 2
  | 2 => V.1 318 a &&& V.1 318 b
  | 3 => V.1 318 a ||| V.1 318 b
  | 4 => kb V b (V.1 318 a)
  | 5 => tb V b (V.1 318 a)
  | 6 => kba V (V.1 318 a) n
  | _ => com V n (V.1 318 a)
theorem e_nodeIs {S : ww_S} {sh : List mm_C} {V : hV} (hM : MS sh) {n : Nat} (hn : V.1 313 1 = Int32.ofNat n) (h5 : n ≤ 5) {k a b : Nat} (hk : k ≤ 7) (ha : a < 60) (hb : b < 60) (hp : k = 4 ∨ k = 5 → b < 5) : EV S 7 194 [.ref 312, .int (Int32.ofNat k), .int (Int32.ofNat a), .int (Int32.ofNat b)] (hH sh V) (.inl (some (.int (nodeF V n k a b)))) (hH sh V) := by
  refine ev_qe P194 rfl ?_
  refine wp_iload_n k194_0 rfl rfl ?_
  refine wp_tsw k194_1 (fun i9 t9 g9 e9 => ?_) (fun c1 => ?_) (by decide)
  · have b9 : i9 < 7 := (List.getElem?_eq_some_iff.mp g9).1
    rw [i_un (by omega), Nat.zero_add] at e9
    subst e9
    obtain rfl | rfl | rfl | rfl | rfl | rfl | rfl : k = 0 ∨ k = 1 ∨ k = 2 ∨ k = 3 ∨ k = 4 ∨ k = 5 ∨ k = 6 := by omega
    · cases g9
      refine wp_iload_n k194_44 rfl rfl ?_
      refine wp_cs (st2 := []) k194_45 (e_worldsOf) (by decide) rfl rfl rfl (by decide) ?_
      refine wp_aload_n k194_48 rfl rfl ?_
      refine wp_getR k194_49 (by decide) hM.o rfl ?_
      refine wp_iconst 2 k194_52 (by decide) ?_
      refine wp_iaload k194_53 (by decide) (hM.a313) (by decide) 2 (by decide) _ rfl ?_
      refine wp_iand k194_54 ?_
      exact wp_reti k194_55 rfl rfl rfl
    · cases g9
      refine wp_aload_n k194_56 rfl rfl ?_
      refine wp_getR k194_57 (by decide) hM.o rfl ?_
      refine wp_iload_n k194_60 rfl rfl ?_
      refine wp_iaload k194_61 (by decide) (hM.a318) (i_inO (by omega) (by decide)) (a) (i_un (by omega)) _ rfl ?_
      refine wp_iconst (-1) k194_62 (by decide) ?_
      refine wp_ixor k194_63 ?_
      refine wp_aload_n k194_64 rfl rfl ?_
      refine wp_getR k194_65 (by decide) hM.o rfl ?_
      refine wp_iconst 2 k194_68 (by decide) ?_
      refine wp_iaload k194_69 (by decide) (hM.a313) (by decide) 2 (by decide) _ rfl ?_
      refine wp_iand k194_70 ?_
      exact wp_reti k194_71 rfl rfl rfl
    · cases g9
      refine wp_aload_n k194_72 rfl rfl ?_
      refine wp_getR k194_73 (by decide) hM.o rfl ?_
      refine wp_iload_n k194_76 rfl rfl ?_
      refine wp_iaload k194_77 (by decide) (hM.a318) (i_inO (by omega) (by decide)) (a) (i_un (by omega)) _ rfl ?_
      refine wp_aload_n k194_78 rfl rfl ?_
      refine wp_getR k194_79 (by decide) hM.o rfl ?_
      refine wp_iload_n k194_82 rfl rfl ?_
      refine wp_iaload k194_83 (by decide) (hM.a318) (i_inO (by omega) (by decide)) (b) (i_un (by omega)) _ rfl ?_
      refine wp_iand k194_84 ?_
      exact wp_reti k194_85 rfl rfl rfl
    · cases g9
      refine wp_aload_n k194_86 rfl rfl ?_
      refine wp_getR k194_87 (by decide) hM.o rfl ?_
      refine wp_iload_n k194_90 rfl rfl ?_
      refine wp_iaload k194_91 (by decide) (hM.a318) (i_inO (by omega) (by decide)) (a) (i_un (by omega)) _ rfl ?_
      refine wp_aload_n k194_92 rfl rfl ?_
      refine wp_getR k194_93 (by decide) hM.o rfl ?_
      refine wp_iload_n k194_96 rfl rfl ?_
      refine wp_iaload k194_97 (by decide) (hM.a318) (i_inO (by omega) (by decide)) (b) (i_un (by omega)) _ rfl ?_
      refine wp_ior k194_98 ?_
      exact wp_reti k194_99 rfl rfl rfl
    · cases g9
      have hp := hp (by omega)
      refine wp_aload_n k194_100 rfl rfl ?_
      refine wp_iload_n k194_101 rfl rfl ?_
      refine wp_aload_n k194_102 rfl rfl ?_
      refine wp_getR k194_103 (by decide) hM.o rfl ?_
      refine wp_iload_n k194_106 rfl rfl ?_
      refine wp_iaload k194_107 (by decide) (hM.a318) (i_inO (by omega) (by decide)) (a) (i_un (by omega)) _ rfl ?_
      refine wp_cv (st2 := []) k194_108 (e_knownBy hM (by omega)) (by decide) rfl rfl rfl rfl (by decide) hM.o (by decide) ?_
      exact wp_reti k194_111 rfl rfl rfl
    · cases g9
      have hp := hp (by omega)
      refine wp_aload_n k194_112 rfl rfl ?_
      refine wp_iload_n k194_113 rfl rfl ?_
      refine wp_aload_n k194_114 rfl rfl ?_
      refine wp_getR k194_115 (by decide) hM.o rfl ?_
      refine wp_iload_n k194_118 rfl rfl ?_
      refine wp_iaload k194_119 (by decide) (hM.a318) (i_inO (by omega) (by decide)) (a) (i_un (by omega)) _ rfl ?_
      refine wp_cv (st2 := []) k194_120 (e_thoughtBy hM (by omega)) (by decide) rfl rfl rfl rfl (by decide) hM.o (by decide) ?_
      exact wp_reti k194_123 rfl rfl rfl
    · cases g9
      refine wp_aload_n k194_124 rfl rfl ?_
      refine wp_aload_n k194_125 rfl rfl ?_
      refine wp_getR k194_126 (by decide) hM.o rfl ?_
      refine wp_iload_n k194_129 rfl rfl ?_
      refine wp_iaload k194_130 (by decide) (hM.a318) (i_inO (by omega) (by decide)) (a) (i_un (by omega)) _ rfl ?_
      refine wp_cv (st2 := []) k194_131 (e_knownByAll hM hn h5) (by decide) rfl rfl rfl rfl (by decide) hM.o (by decide) ?_
      exact wp_reti k194_134 rfl rfl rfl
  · have e7 : k = 7 := by
      have := c1 k
      rw [i_un (by omega), Nat.zero_add] at this
      have h9 : ¬ k < 7 := fun q => this q rfl
      omega
    subst e7
    refine wp_aload_n k194_135 rfl rfl ?_
    refine wp_aload_n k194_136 rfl rfl ?_
    refine wp_getR k194_137 (by decide) hM.o rfl ?_
    refine wp_iload_n k194_140 rfl rfl ?_
    refine wp_iaload k194_141 (by decide) (hM.a318) (i_inO (by omega) (by decide)) (a) (i_un (by omega)) _ rfl ?_
    refine wp_cv (st2 := []) k194_142 (e_commonOf hM hn h5) (by decide) rfl rfl rfl rfl (by decide) hM.o (by decide) ?_
    exact wp_reti k194_145 rfl rfl rfl
end M2
