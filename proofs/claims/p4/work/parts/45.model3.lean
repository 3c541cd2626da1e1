section M3
/-! ===== the reference: beginnings, asked formulas, depth ===== -/
def begR (V : hV) (p w : Nat) : Int32 := orF (fun v => decide ((Int32.ofNat v ^^^ Int32.ofNat w) &&& V.1 313 (150 + p) = 0)) 32
def begG (V : hV) (left : Int32) (p w j : Nat) : Option Int32 := if j = 2 then some left else if j = 3 then some (Int32.ofNat (cnt left)) else if 160 ≤ j ∧ j < 160 + 32 * p + w then some (begR V ((j - 160) / 32) ((j - 160) % 32) &&& left) else none
/-- begun anew: the worlds left, those at first, likeness by what is seen, the first fact as question -/
def begH (V : hV) (left : Int32) (n j : Nat) : Option Int32 := if 320 ≤ j ∧ j ≤ 324 then some (if j = 320 then 1 else 0) else begG V left n 0 j
theorem begG_n {V : hV} {left : Int32} {p w j : Nat} (h2 : j ≠ 2) (h3 : j ≠ 3) (h : j < 160 ∨ 160 + 32 * p + w ≤ j) : begG V left p w j = none := by
  unfold begG
  rw [if_neg h2, if_neg h3, if_neg (by omega)]
theorem begG_s {V : hV} {left : Int32} {p w : Nat} (hw : w < 32) : (fun j => if j = 160 + 32 * p + w then some (begR V p w &&& left) else begG V left p w j) = begG V left p (w + 1) := by
  funext j
  by_cases e : j = 160 + 32 * p + w
  · rw [if_pos e]
    unfold begG
    rw [if_neg (by omega), if_neg (by omega), if_pos (by omega), show (j - 160) / 32 = p by omega, show (j - 160) % 32 = w by omega]
  · rw [if_neg e]
    unfold begG
    by_cases e2 : 160 ≤ j ∧ j < 160 + 32 * p + w
    · rw [if_pos e2, if_pos (show 160 ≤ j ∧ j < 160 + 32 * p + (w + 1) by omega)]
    · rw [if_neg e2, if_neg (show ¬ (160 ≤ j ∧ j < 160 + 32 * p + (w + 1)) by omega)]
theorem begG_p {V : hV} {left : Int32} {p : Nat} : begG V left p 32 = begG V left (p + 1) 0 := by
  funext j
  unfold begG
  rw [show 160 + 32 * p + 32 = 160 + 32 * (p + 1) + 0 by omega]
theorem ix_sees (p : Nat) : (150 : Int32) + Int32.ofNat p = Int32.ofNat (150 + p) := by
  rw [show (150 : Int32) = Int32.ofNat 150 from rfl, ← Int32.ofNat_add]
theorem l_beg_v {S : ww_S} {sh : List mm_C} {W : hV} (hM : MS sh) {left x : Int32} {p w : Nat} (hp : p < 5) (hs : W.1 313 (150 + p) = x) {Q : mm_V → mm_H → Prop} (K : WP S 1 mm_m187 88 [some (.ref 312), some (.int (left)), some (.int (Int32.ofNat p)), some (.int (Int32.ofNat w)), some (.int (orF (fun v => decide ((Int32.ofNat v ^^^ Int32.ofNat w) &&& x = 0)) 32)), some (.int (Int32.ofNat 32))] [] (hH sh W) Q) : WP S 1 mm_m187 41 [some (.ref 312), some (.int (left)), some (.int (Int32.ofNat p)), some (.int (Int32.ofNat w)), some (.int (0)), some (.int (Int32.ofNat 0))] [] (hH sh W) Q := by
  refine wp_loop (M := mm_m187) (pc := 41) (fun k => ([some (.ref 312), some (.int (left)), some (.int (Int32.ofNat p)), some (.int (Int32.ofNat w)), some (.int (orF (fun v => decide ((Int32.ofNat v ^^^ Int32.ofNat w) &&& x = 0)) k)), some (.int (Int32.ofNat k))], [], hH sh W)) 32 (fun k hk ih => ?_) ?_
  · dsimp only at ih ⊢
    refine wp_iload k187_41 rfl rfl ?_
    refine wp_bipush 32 k187_43 (by decide) ?_
    refine wp_if_icmp_ge_F k187_45 (show Int32.ofNat k < Int32.ofNat 32 from i_lt hk (by decide)) ?_
    refine wp_iload k187_48 rfl rfl ?_
    refine wp_iload k187_50 rfl rfl ?_
    refine wp_iload_n k187_52 rfl rfl ?_
    refine wp_ixor k187_53 ?_
    refine wp_aload_n k187_54 rfl rfl ?_
    refine wp_getR k187_55 (by decide) hM.o rfl ?_
    refine wp_sipush 150 k187_58 (by decide) ?_
    refine wp_iload_n k187_61 rfl rfl ?_
    refine wp_iadd k187_62 ?_
    refine wp_iaload k187_63 (by decide) (hM.a313) (by rw [ix_sees]; exact i_inO (by omega) (by decide)) (150 + p) (by rw [ix_sees]; exact i_un (by omega)) (x) hs ?_
    refine wp_iand k187_64 ?_
    refine wp_if_ne k187_65 (fun c65 => ?_) (fun c65 => ?_)
    · refine wp_iconst 0 k187_72 (by decide) ?_
      refine wp_cs (st2 := [_]) k187_73 (e_truth) (by decide) rfl rfl rfl (by decide) ?_
      refine wp_iload k187_76 rfl rfl ?_
      refine wp_ishl k187_78 ?_
      refine wp_ior k187_79 ?_
      refine wp_istore (L1 := [_, _, _, _, _, _]) k187_80 rfl rfl ?_
      refine wp_iinc (L1 := [_, _, _, _, _, _]) 1 k187_82 rfl (by decide) rfl ?_
      refine wp_goto k187_85 ?_
      first
        | exact wp_eq ih (by rw [orF_t (by simp_all [bI_0, bI_n0]), i_succ]) rfl rfl
        | exact wp_eq ih (by rw [orF_f (by simp_all [bI_0, bI_n0]), i_succ]) rfl rfl
    · refine wp_iconst 1 k187_68 (by decide) ?_
      refine wp_goto k187_69 ?_
      refine wp_cs (st2 := [_]) k187_73 (e_truth) (by decide) rfl rfl rfl (by decide) ?_
      refine wp_iload k187_76 rfl rfl ?_
      refine wp_ishl k187_78 ?_
      refine wp_ior k187_79 ?_
      refine wp_istore (L1 := [_, _, _, _, _, _]) k187_80 rfl rfl ?_
      refine wp_iinc (L1 := [_, _, _, _, _, _]) 1 k187_82 rfl (by decide) rfl ?_
      refine wp_goto k187_85 ?_
      first
        | exact wp_eq ih (by rw [orF_t (by simp_all [bI_0, bI_n0]), i_succ]) rfl rfl
        | exact wp_eq ih (by rw [orF_f (by simp_all [bI_0, bI_n0]), i_succ]) rfl rfl
  · dsimp only
    refine wp_iload k187_41 rfl rfl ?_
    refine wp_bipush 32 k187_43 (by decide) ?_
    refine wp_if_icmp_ge_T k187_45 (show ¬ Int32.ofNat 32 < Int32.ofNat 32 from i_nlt (Nat.le_refl 32) (by decide)) ?_
    exact K
theorem l_beg_w {S : ww_S} {sh : List mm_C} {V : hV} (hM : MS sh) {left : Int32} {p : Nat} (hp : p < 5) {Q : mm_V → mm_H → Prop} (K : ∀ o4 o5 : Option Value, WP S 1 mm_m187 113 [some (.ref 312), some (.int (left)), some (.int (Int32.ofNat p)), some (.int (Int32.ofNat 32)), o4, o5] [] (hH sh (ovr V 313 (begG V left p 32))) Q) : ∀ (f w : Nat) (o4 o5 : Option Value), f + w = 32 → WP S 1 mm_m187 29 [some (.ref 312), some (.int (left)), some (.int (Int32.ofNat p)), some (.int (Int32.ofNat w)), o4, o5] [] (hH sh (ovr V 313 (begG V left p w))) Q := by
  intro f
  induction f with
  | zero =>
    intro w o4 o5 hw
    have hw : w = 32 := by omega
    subst hw
    refine wp_iload_n k187_29 rfl rfl ?_
    refine wp_bipush 32 k187_30 (by decide) ?_
    refine wp_if_icmp_ge_T k187_32 (show ¬ Int32.ofNat 32 < Int32.ofNat 32 from i_nlt (Nat.le_refl 32) (by decide)) ?_
    exact K o4 o5
  | succ f ih =>
    intro w o4 o5 hw
    refine wp_iload_n k187_29 rfl rfl ?_
    refine wp_bipush 32 k187_30 (by decide) ?_
    refine wp_if_icmp_ge_F k187_32 (show Int32.ofNat w < Int32.ofNat 32 from i_lt (by omega) (by decide)) ?_
    refine wp_iconst 0 k187_35 (by decide) ?_
    refine wp_istore (L1 := [_, _, _, _, _, _]) k187_36 rfl rfl ?_
    refine wp_iconst 0 k187_38 (by decide) ?_
    refine wp_istore (L1 := [_, _, _, _, _, _]) k187_39 rfl rfl ?_
    refine l_beg_v hM hp (show (ovr V 313 (begG V left p w)).1 313 (150 + p) = V.1 313 (150 + p) from ovr_none V (begG_n (by omega) (by omega) (by omega))) ?_
    refine wp_aload_n k187_88 rfl rfl ?_
    refine wp_getR k187_89 (by decide) hM.o rfl ?_
    refine wp_sipush 160 k187_92 (by decide) ?_
    refine wp_bipush 32 k187_95 (by decide) ?_
    refine wp_iload_n k187_97 rfl rfl ?_
    refine wp_imul k187_98 ?_
    refine wp_iadd k187_99 ?_
    refine wp_iload_n k187_100 rfl rfl ?_
    refine wp_iadd k187_101 ?_
    refine wp_iload k187_102 rfl rfl ?_
    refine wp_iload_n k187_104 rfl rfl ?_
    refine wp_iand k187_105 ?_
    refine wp_iastore k187_106 (by decide) (hM.a313) (by rw [ix_alike]; exact i_inO (by omega) (by decide)) (160 + 32 * p + w) (by rw [ix_alike]; exact i_un (by omega)) ?_
    refine wp_iinc (L1 := [_, _, _, _, _, _]) 1 k187_107 rfl (by decide) rfl ?_
    refine wp_goto k187_110 ?_
    exact wp_eq (ih (w + 1) _ _ (by omega)) (by rw [i_succ]) rfl (by rw [ovr_up, show orF (fun v => decide ((Int32.ofNat v ^^^ Int32.ofNat w) &&& V.1 313 (150 + p) = 0)) 32 = begR V p w from rfl, begG_s (by omega)])
theorem l_beg_p {S : ww_S} {sh : List mm_C} {V : hV} (hM : MS sh) {left : Int32} {n : Nat} (hn : V.1 313 1 = Int32.ofNat n) (h5 : n ≤ 5) : ∀ (f p : Nat) (o3 o4 o5 : Option Value), f + p = n → WP S 1 mm_m187 19 [some (.ref 312), some (.int (left)), some (.int (Int32.ofNat p)), o3, o4, o5] [] (hH sh (ovr V 313 (begG V left p 0))) (qe (.inl none) (hH sh (ovr V 313 (begH V left n)))) := by
  intro f
  induction f with
  | zero =>
    intro p o3 o4 o5 hp
    have hp : p = n := by omega
    subst hp
    refine wp_iload_n k187_19 rfl rfl ?_
    refine wp_aload_n k187_20 rfl rfl ?_
    refine wp_cv (st2 := [_]) k187_21 (e_persons hM) (by decide) rfl rfl rfl rfl (by decide) hM.o (by decide) ?_
    refine wp_if_icmp_ge_T k187_24 (by rw [show (ovr V 313 (begG V left p 0)).1 313 1 = V.1 313 1 from ovr_none V (begG_n (by decide) (by decide) (by omega)), hn]; exact i_nlt (Nat.le_refl p) (by omega)) ?_
    refine wp_aload_n k187_119 rfl rfl ?_
    refine wp_getR k187_120 (by decide) hM.o rfl ?_
    refine wp_sipush 320 k187_123 (by decide) ?_
    refine wp_iconst 1 k187_126 (by decide) ?_
    refine wp_iastore k187_127 (by decide) (hM.a313) (by decide) 320 (by decide) ?_
    refine wp_iconst 1 k187_128 (by decide) ?_
    refine wp_istore_n (L1 := [_, _, _, _, _, _]) k187_129 rfl rfl ?_
    refine wp_iload_n k187_130 rfl rfl ?_
    refine wp_iconst 4 k187_131 (by decide) ?_
    refine wp_if_icmp_gt_F k187_132 (by decide) ?_
    refine wp_aload_n k187_135 rfl rfl ?_
    refine wp_getR k187_136 (by decide) hM.o rfl ?_
    refine wp_sipush 320 k187_139 (by decide) ?_
    refine wp_iload_n k187_142 rfl rfl ?_
    refine wp_iadd k187_143 ?_
    refine wp_iconst 0 k187_144 (by decide) ?_
    refine wp_iastore k187_145 (by decide) (hM.a313) (by decide) 321 (by decide) ?_
    refine wp_iinc (L1 := [_, _, _, _, _, _]) 1 k187_146 rfl (by decide) rfl ?_
    refine wp_goto k187_149 ?_
    refine wp_iload_n k187_130 rfl rfl ?_
    refine wp_iconst 4 k187_131 (by decide) ?_
    refine wp_if_icmp_gt_F k187_132 (by decide) ?_
    refine wp_aload_n k187_135 rfl rfl ?_
    refine wp_getR k187_136 (by decide) hM.o rfl ?_
    refine wp_sipush 320 k187_139 (by decide) ?_
    refine wp_iload_n k187_142 rfl rfl ?_
    refine wp_iadd k187_143 ?_
    refine wp_iconst 0 k187_144 (by decide) ?_
    refine wp_iastore k187_145 (by decide) (hM.a313) (by decide) 322 (by decide) ?_
    refine wp_iinc (L1 := [_, _, _, _, _, _]) 1 k187_146 rfl (by decide) rfl ?_
    refine wp_goto k187_149 ?_
    refine wp_iload_n k187_130 rfl rfl ?_
    refine wp_iconst 4 k187_131 (by decide) ?_
    refine wp_if_icmp_gt_F k187_132 (by decide) ?_
    refine wp_aload_n k187_135 rfl rfl ?_
    refine wp_getR k187_136 (by decide) hM.o rfl ?_
    refine wp_sipush 320 k187_139 (by decide) ?_
    refine wp_iload_n k187_142 rfl rfl ?_
    refine wp_iadd k187_143 ?_
    refine wp_iconst 0 k187_144 (by decide) ?_
    refine wp_iastore k187_145 (by decide) (hM.a313) (by decide) 323 (by decide) ?_
    refine wp_iinc (L1 := [_, _, _, _, _, _]) 1 k187_146 rfl (by decide) rfl ?_
    refine wp_goto k187_149 ?_
    refine wp_iload_n k187_130 rfl rfl ?_
    refine wp_iconst 4 k187_131 (by decide) ?_
    refine wp_if_icmp_gt_F k187_132 (by decide) ?_
    refine wp_aload_n k187_135 rfl rfl ?_
    refine wp_getR k187_136 (by decide) hM.o rfl ?_
    refine wp_sipush 320 k187_139 (by decide) ?_
    refine wp_iload_n k187_142 rfl rfl ?_
    refine wp_iadd k187_143 ?_
    refine wp_iconst 0 k187_144 (by decide) ?_
    refine wp_iastore k187_145 (by decide) (hM.a313) (by decide) 324 (by decide) ?_
    refine wp_iinc (L1 := [_, _, _, _, _, _]) 1 k187_146 rfl (by decide) rfl ?_
    refine wp_goto k187_149 ?_
    refine wp_iload_n k187_130 rfl rfl ?_
    refine wp_iconst 4 k187_131 (by decide) ?_
    refine wp_if_icmp_gt_T k187_132 (by decide) ?_
    exact wp_retn k187_152 rfl (by
      rw [ovr_up, ovr_up, ovr_up, ovr_up, ovr_up]
      congr 2
      funext j
      unfold begH
      by_cases e : 320 ≤ j ∧ j ≤ 324
      · rw [if_pos e]
        obtain rfl | rfl | rfl | rfl | rfl : j = 320 ∨ j = 321 ∨ j = 322 ∨ j = 323 ∨ j = 324 := by omega
        all_goals rfl
      · rw [if_neg e, if_neg (by omega), if_neg (by omega), if_neg (by omega), if_neg (by omega), if_neg (by omega)])
  | succ f ih =>
    intro p o3 o4 o5 hp
    refine wp_iload_n k187_19 rfl rfl ?_
    refine wp_aload_n k187_20 rfl rfl ?_
    refine wp_cv (st2 := [_]) k187_21 (e_persons hM) (by decide) rfl rfl rfl rfl (by decide) hM.o (by decide) ?_
    refine wp_if_icmp_ge_F k187_24 (by rw [show (ovr V 313 (begG V left p 0)).1 313 1 = V.1 313 1 from ovr_none V (begG_n (by decide) (by decide) (by omega)), hn]; exact i_lt (by omega) (by omega)) ?_
    refine wp_iconst 0 k187_27 (by decide) ?_
    refine wp_istore_n (L1 := [_, _, _, _, _, _]) k187_28 rfl rfl ?_
    refine l_beg_w hM (by omega) (fun o4 o5 => ?_) 32 0 o4 o5 rfl
    refine wp_iinc (L1 := [_, _, _, _, _, _]) 1 k187_113 rfl (by decide) rfl ?_
    refine wp_goto k187_116 ?_
    exact wp_eq (ih (p + 1) _ _ _ (by omega)) (by rw [i_succ]) rfl (by rw [begG_p])
theorem e_begins {S : ww_S} {sh : List mm_C} {V : hV} (hM : MS sh) {n : Nat} (hn : V.1 313 1 = Int32.ofNat n) (h5 : n ≤ 5) {left : Int32}  : EV S 2 187 [.ref 312, .int left] (hH sh V) (.inl none) (hH sh (ovr V 313 (begH V left n))) := by
  refine ev_qe P187 rfl ?_
  refine wp_aload_n k187_0 rfl rfl ?_
  refine wp_getR k187_1 (by decide) hM.o rfl ?_
  refine wp_iconst 2 k187_4 (by decide) ?_
  refine wp_iload_n k187_5 rfl rfl ?_
  refine wp_iastore k187_6 (by decide) (hM.a313) (by decide) 2 (by decide) ?_
  refine wp_aload_n k187_7 rfl rfl ?_
  refine wp_getR k187_8 (by decide) hM.o rfl ?_
  refine wp_iconst 3 k187_11 (by decide) ?_
  refine wp_iload_n k187_12 rfl rfl ?_
  refine wp_cs (st2 := [_, _]) k187_13 (e_bits) (by decide) rfl rfl rfl (by decide) ?_
  refine wp_iastore k187_16 (by decide) (hM.a313) (by decide) 3 (by decide) ?_
  refine wp_iconst 0 k187_17 (by decide) ?_
  refine wp_istore_n (L1 := [_, _, _, _, _, _]) k187_18 rfl rfl ?_
  have e9 : up (up V 313 2 left) 313 3 (Int32.ofNat (cnt left)) = ovr V 313 (begG V left 0 0) := by
    rw [up_ovr V 313 2 left, ovr_up]
    congr 1
    funext j
    unfold begG
    by_cases e : j = 3
    · rw [if_pos e, if_neg (by omega), if_pos e]
    · rw [if_neg e]
      by_cases e2 : j = 2
      · rw [if_pos e2, if_pos e2]
      · rw [if_neg e2, if_neg e2, if_neg e, if_neg (by omega)]
  rw [e9]
  exact l_beg_p hM hn h5 n 0 none none none (by omega)
/-- a formula of m nodes at the place b of the cell f -/
def FOK (V : hV) (n f b m : Nat) : Prop := V.1 f b = Int32.ofNat m ∧ 1 ≤ m ∧ m ≤ 60 ∧ ∀ k, k < m → ∃ kn a c : Nat, V.1 f (b + 1 + 4 * k) = Int32.ofNat kn ∧ V.1 f (b + 1 + 4 * k + 1) = Int32.ofNat a ∧ V.1 f (b + 1 + 4 * k + 2) = Int32.ofNat c ∧ kn ≤ 7 ∧ a < 60 ∧ c < 60 ∧ (kn = 4 ∨ kn = 5 → c < 5)
def askF (V : hV) (n f b : Nat) : Nat → hV
  | 0 => V
  | k + 1 => up (askF V n f b k) 318 k (nodeF (askF V n f b k) n (mm_un (V.1 f (b + 1 + 4 * k))) (mm_un (V.1 f (b + 1 + 4 * k + 1))) (mm_un (V.1 f (b + 1 + 4 * k + 2))))
theorem askF_ne (V : hV) (n f b : Nat) {a : Nat} (h : a ≠ 318) (j : Nat) : ∀ k, (askF V n f b k).1 a j = V.1 a j
  | 0 => rfl
  | k + 1 => by
    show (up _ 318 k _).1 a j = _
    rw [up_ne _ _ (Or.inl h), askF_ne V n f b h j k]
theorem ix_node (b k : Nat) : Int32.ofNat b + 1 + 4 * Int32.ofNat k = Int32.ofNat (b + 1 + 4 * k) := by
  rw [show (1 : Int32) = Int32.ofNat 1 from rfl, show (4 : Int32) = Int32.ofNat 4 from rfl, ← Int32.ofNat_mul, ← Int32.ofNat_add, ← Int32.ofNat_add]
theorem i_add (a b : Nat) : Int32.ofNat a + Int32.ofNat b = Int32.ofNat (a + b) := (Int32.ofNat_add a b).symm
theorem i_pred {a : Nat} (h : 1 ≤ a) : Int32.ofNat a - 1 = Int32.ofNat (a - 1) := by
  rw [show (1 : Int32) = Int32.ofNat 1 from rfl, ← Int32.ofNat_sub _ _ h]
theorem l_asked {S : ww_S} {sh : List mm_C} {V : hV} (hM : MS sh) {n : Nat} (hn : V.1 313 1 = Int32.ofNat n) (h5 : n ≤ 5) {f nf b m : Nat} (hf64 : 64 ≤ f) (hf : sh[f - 64]? = some (.inl (0, nf, 0))) (hne : f ≠ 318) (hb : b + 241 ≤ nf) (hnf : nf ≤ 100000) (hF : FOK V n f b m) : ∀ (g k : Nat) (o : Option Value), g + k = m → WP S 7 mm_m195 7 [some (.ref 312), some (.ref f), some (.int (Int32.ofNat b)), some (.int (Int32.ofNat m)), some (.int (Int32.ofNat k)), o] [] (hH sh (askF V n f b k)) (qe (.inl (some (.int ((askF V n f b m).1 318 (m - 1))))) (hH sh (askF V n f b m))) := by
  obtain ⟨hF1, hF2, hF3, hF4⟩ := hF
  intro g
  induction g with
  | zero =>
    intro k o hk
    have hk : k = m := by omega
    subst hk
    refine wp_iload k195_7 rfl rfl ?_
    refine wp_iload_n k195_9 rfl rfl ?_
    refine wp_if_icmp_ge_T k195_10 (i_nlt (Nat.le_refl k) (by omega)) ?_
    refine wp_aload_n k195_56 rfl rfl ?_
    refine wp_getR k195_57 (by decide) hM.o rfl ?_
    refine wp_iload_n k195_60 rfl rfl ?_
    refine wp_iconst 1 k195_61 (by decide) ?_
    refine wp_isub k195_62 ?_
    refine wp_iaload k195_63 (by decide) (hM.a318) (by rw [i_pred (by omega)]; exact i_inO (by omega) (by decide)) (k - 1) (by rw [i_pred (by omega)]; exact i_un (by omega)) _ rfl ?_
    exact wp_reti k195_64 rfl rfl rfl
  | succ g ih =>
    intro k o hk
    obtain ⟨kn, a, c, g1, g2, g3, g4, g5, g6, g7⟩ := hF4 k (by omega)
    have hx := i_add (b + 1 + 4 * k)
    refine wp_iload k195_7 rfl rfl ?_
    refine wp_iload_n k195_9 rfl rfl ?_
    refine wp_if_icmp_ge_F k195_10 (i_lt (by omega) (by omega)) ?_
    refine wp_iload_n k195_13 rfl rfl ?_
    refine wp_iconst 1 k195_14 (by decide) ?_
    refine wp_iadd k195_15 ?_
    refine wp_iconst 4 k195_16 (by decide) ?_
    refine wp_iload k195_17 rfl rfl ?_
    refine wp_imul k195_19 ?_
    refine wp_iadd k195_20 ?_
    refine wp_istore (L1 := [_, _, _, _, _, _]) k195_21 rfl rfl ?_
    refine wp_aload_n k195_23 rfl rfl ?_
    refine wp_getR k195_24 (by decide) hM.o rfl ?_
    refine wp_iload k195_27 rfl rfl ?_
    refine wp_aload_n k195_29 rfl rfl ?_
    refine wp_aload_n k195_30 rfl rfl ?_
    refine wp_iload k195_31 rfl rfl ?_
    refine wp_iaload k195_33 hf64 hf (by rw [ix_node]; exact i_inO (by omega) (by omega)) (b + 1 + 4 * k) (by rw [ix_node]; exact i_un (by omega)) (Int32.ofNat kn) (by rw [askF_ne V n f b hne]; exact g1) ?_
    refine wp_aload_n k195_34 rfl rfl ?_
    refine wp_iload k195_35 rfl rfl ?_
    refine wp_iconst 1 k195_37 (by decide) ?_
    refine wp_iadd k195_38 ?_
    refine wp_iaload k195_39 hf64 hf (by rw [ix_node, show (1 : Int32) = Int32.ofNat 1 from rfl, hx 1]; exact i_inO (by omega) (by omega)) (b + 1 + 4 * k + 1) (by rw [ix_node, show (1 : Int32) = Int32.ofNat 1 from rfl, hx 1]; exact i_un (by omega)) (Int32.ofNat a) (by rw [askF_ne V n f b hne]; exact g2) ?_
    refine wp_aload_n k195_40 rfl rfl ?_
    refine wp_iload k195_41 rfl rfl ?_
    refine wp_iconst 2 k195_43 (by decide) ?_
    refine wp_iadd k195_44 ?_
    refine wp_iaload k195_45 hf64 hf (by rw [ix_node, show (2 : Int32) = Int32.ofNat 2 from rfl, hx 2]; exact i_inO (by omega) (by omega)) (b + 1 + 4 * k + 2) (by rw [ix_node, show (2 : Int32) = Int32.ofNat 2 from rfl, hx 2]; exact i_un (by omega)) (Int32.ofNat c) (by rw [askF_ne V n f b hne]; exact g3) ?_
    refine wp_cv (st2 := [_, _]) k195_46 (e_nodeIs hM (show (askF V n f b k).1 313 1 = Int32.ofNat n from by rw [askF_ne V n f b (by decide) 1 k]; exact hn) h5 g4 g5 g6 g7) (by decide) rfl rfl rfl rfl (by decide) hM.o (by decide) ?_
    refine wp_iastore k195_49 (by decide) (hM.a318) (i_inO (by omega) (by decide)) (k) (i_un (by omega)) ?_
    refine wp_iinc (L1 := [_, _, _, _, _, _]) 1 k195_50 rfl (by decide) rfl ?_
    refine wp_goto k195_53 ?_
    refine wp_eq (ih (k + 1) _ (by omega)) (by rw [i_succ]) rfl ?_
    show hH sh (up _ 318 k _) = hH sh (up _ 318 k _)
    rw [g1, g2, g3, i_un (by omega), i_un (by omega), i_un (by omega)]
theorem e_asked {S : ww_S} {sh : List mm_C} {V : hV} (hM : MS sh) {n : Nat} (hn : V.1 313 1 = Int32.ofNat n) (h5 : n ≤ 5) {f nf b m : Nat} (hf64 : 64 ≤ f) (hf : sh[f - 64]? = some (.inl (0, nf, 0))) (hne : f ≠ 318) (hb : b + 241 ≤ nf) (hnf : nf ≤ 100000) (hF : FOK V n f b m) : EV S 8 195 [.ref 312, .ref f, .int (Int32.ofNat b)] (hH sh V) (.inl (some (.int ((askF V n f b m).1 318 (m - 1))))) (hH sh (askF V n f b m)) := by
  refine ev_qe P195 rfl ?_
  refine wp_aload_n k195_0 rfl rfl ?_
  refine wp_iload_n k195_1 rfl rfl ?_
  refine wp_iaload k195_2 hf64 hf (i_inO (by omega) (by omega)) (b) (i_un (by omega)) (Int32.ofNat m) hF.1 ?_
  refine wp_istore_n (L1 := [_, _, _, _, _, _]) k195_3 rfl rfl ?_
  refine wp_iconst 0 k195_4 (by decide) ?_
  refine wp_istore (L1 := [_, _, _, _, _, _]) k195_5 rfl rfl ?_
  exact l_asked hM hn h5 hf64 hf hne hb hnf hF m 0 none (by omega)
theorem e_question {S : ww_S} {sh : List mm_C} {V : hV} (hM : MS sh) {n m : Nat} (hn : V.1 313 1 = Int32.ofNat n) (h5 : n ≤ 5) (hF : FOK V n 313 320 m)  : EV S 9 196 [.ref 312] (hH sh V) (.inl (some (.int ((askF V n 313 320 m).1 318 (m - 1))))) (hH sh (askF V n 313 320 m)) := by
  refine ev_qe P196 rfl ?_
  refine wp_aload_n k196_0 rfl rfl ?_
  refine wp_aload_n k196_1 rfl rfl ?_
  refine wp_getR k196_2 (by decide) hM.o rfl ?_
  refine wp_sipush 320 k196_5 (by decide) ?_
  refine wp_cv (st2 := []) k196_8 (e_asked hM hn h5 (by decide) (hM.a313) (by decide) (by first | decide | omega) (by decide) hF) (by decide) rfl rfl rfl rfl (by decide) hM.o (by decide) ?_
  exact wp_reti k196_11 rfl rfl rfl
end M3
