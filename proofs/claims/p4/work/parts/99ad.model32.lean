section M32
/-! ===== the reference: what an order is about ===== -/
def rpQ (f : Nat → Int32) (l np nf j : Nat) (V : hV) (T : hP) : hQ := rfQ (V.1 313) f l (241 * j) false np nf (V.1 320) T
def rpU (V : hV) (j : Nat) (q : hQ) (a b : Int32) : hV × hP := (up (up (fmV (fxV V (241 * j) false) q.1 q.2.1 q.2.2.1) 321 (3 * j + 1) a) 321 (3 * j + 2) b, q.2.2.2)
def rpF (f : Nat → Int32) (l np nf j kd : Nat) (V : hV) (T : hP) : hV × hP := match kd with
  | 0 => rpU V j (rpQ f l np nf j V T) 0 0
  | 1 => rpU V j (rpQ f l np nf j V (knP (V.1 313) f l 115 np T).2) (knP (V.1 313) f l 115 np T).1 0
  | 2 => rpU V j (rpQ f l np nf j V (tdF (V.1 313) f l np (l + 3) 0 T).2) (tdF (V.1 313) f l np (l + 3) 0 T).1 0
  | 3 => (up (up V 321 (3 * j + 1) (knP (V.1 313) f l 115 np T).1) 321 (3 * j + 2) (knP (V.1 313) f l 80 nf (knP (V.1 313) f l 115 np T).2).1, (knP (V.1 313) f l 80 nf (knP (V.1 313) f l 115 np T).2).2)
  | _ => (up (up V 321 (3 * j + 1) 0) 321 (3 * j + 2) (knP (V.1 313) f l 80 nf T).1, (knP (V.1 313) f l 80 nf T).2)
theorem e_readsParts {S : ww_S} {sh : List mm_C} {V : hV} {T : hP} (hM : MS sh) {f : Nat → Int32} {l : Nat} (hT : TX V f l) (hO : TO l T) {np nf : Nat} (hnp : V.1 313 1 = Int32.ofNat np) (h5 : np ≤ 5) (hnf : V.1 313 0 = Int32.ofNat nf) (h5f : nf ≤ 5) {j : Nat} (hj : V.1 312 24 = Int32.ofNat j) (h20 : j < 20) {kd : Nat} (hk : kd ≤ 4) : EV S 190 250 [.ref 312, .int (Int32.ofNat kd)] (hH sh (pp V T)) (.inl none) (hH sh (pp (rpF f l np nf j kd V T).1 (rpF f l np nf j kd V T).2)) ∧ TO l (rpF f l np nf j kd V T).2 := by
  obtain rfl | rfl | rfl | rfl | rfl : kd = 0 ∨ kd = 1 ∨ kd = 2 ∨ kd = 3 ∨ kd = 4 := by omega
  · skip
    have EF := e_readsFormula (S := S) (V := V) (T := T) hM hT hO rfl hnp h5 hnf h5f (j := j) (by omega) (b := false)
    obtain ⟨q, hq⟩ : ∃ q, rpQ f l np nf j V T = q := ⟨_, rfl⟩
    rw [show rfQ (V.1 313) f l (241 * j) false np nf (V.1 320) T = q from hq] at EF
    obtain ⟨EF, e1, e2, _⟩ := EF
    have hR : rpF f l np nf j 0 V T = rpU V j q 0 0 := by
      unfold rpF
      rw [hq]
      rfl
    rw [hR]
    refine ⟨?_, e1, e2⟩
    refine ev_qe P250 rfl ?_
    refine wp_iconst 0 k250_0 (by decide) ?_
    refine wp_istore_n (L1 := [_, _, _, _]) k250_1 rfl rfl ?_
    refine wp_iconst 0 k250_2 (by decide) ?_
    refine wp_istore_n (L1 := [_, _, _, _]) k250_3 rfl rfl ?_
    refine wp_iload_n k250_4 rfl rfl ?_
    refine wp_iconst 1 k250_5 (by decide) ?_
    refine wp_if_icmp_eq_F k250_6 (by decide) ?_
    refine wp_iload_n k250_9 rfl rfl ?_
    refine wp_iconst 3 k250_10 (by decide) ?_
    refine wp_if_icmp_ne_T k250_11 (by decide) ?_
    refine wp_iload_n k250_20 rfl rfl ?_
    refine wp_iconst 2 k250_21 (by decide) ?_
    refine wp_if_icmp_ne_T k250_22 (by decide) ?_
    refine wp_iload_n k250_30 rfl rfl ?_
    refine wp_iconst 3 k250_31 (by decide) ?_
    refine wp_if_icmp_eq_F k250_32 (by decide) ?_
    refine wp_iload_n k250_35 rfl rfl ?_
    refine wp_iconst 4 k250_36 (by decide) ?_
    refine wp_if_icmp_ne_T k250_37 (by decide) ?_
    refine wp_iload_n k250_46 rfl rfl ?_
    refine wp_iconst 3 k250_47 (by decide) ?_
    refine wp_if_icmp_ge_F k250_48 (by decide) ?_
    refine wp_aload_n k250_51 rfl rfl ?_
    refine wp_aload_n k250_52 rfl rfl ?_
    refine wp_getIP k250_53 (by decide) hM.o rfl (by decide) (Int32.ofNat j) hj ?_
    refine wp_iconst 0 k250_56 (by decide) ?_
    refine wp_cvn (st2 := []) k250_57 EF (by decide) rfl rfl rfl rfl (by decide) hM.o (by decide) ?_
    refine wp_aload_n k250_60 rfl rfl ?_
    refine wp_getR k250_61 (by decide) hM.o rfl ?_
    refine wp_iconst 3 k250_64 (by decide) ?_
    refine wp_aload_n k250_65 rfl rfl ?_
    refine wp_getIP k250_66 (by decide) hM.o rfl (by decide) (Int32.ofNat j) hj ?_
    refine wp_imul k250_69 ?_
    refine wp_cast (show (3 : Int32) * Int32.ofNat (j) = Int32.ofNat (3 * j) from (Int32.ofNat_mul 3 _).symm) ?_
    refine wp_iconst 1 k250_70 (by decide) ?_
    refine wp_iadd k250_71 ?_
    refine wp_cast (show Int32.ofNat (3 * j) + (1 : Int32) = Int32.ofNat ((3 * j) + 1) from (Int32.ofNat_add _ 1).symm) ?_
    refine wp_iload_n k250_72 rfl rfl ?_
    refine wp_iastoreP k250_73 (by decide) (hM.a321) (i_inO (by omega) (by decide)) ((3 * j) + 1) (i_un (by omega)) (by decide) ?_
    refine wp_aload_n k250_74 rfl rfl ?_
    refine wp_getR k250_75 (by decide) hM.o rfl ?_
    refine wp_iconst 3 k250_78 (by decide) ?_
    refine wp_aload_n k250_79 rfl rfl ?_
    refine wp_getIP k250_80 (by decide) hM.o rfl (by decide) (Int32.ofNat j) hj ?_
    refine wp_imul k250_83 ?_
    refine wp_cast (show (3 : Int32) * Int32.ofNat (j) = Int32.ofNat (3 * j) from (Int32.ofNat_mul 3 _).symm) ?_
    refine wp_iconst 2 k250_84 (by decide) ?_
    refine wp_iadd k250_85 ?_
    refine wp_cast (show Int32.ofNat (3 * j) + (2 : Int32) = Int32.ofNat ((3 * j) + 2) from (Int32.ofNat_add _ 2).symm) ?_
    refine wp_iload_n k250_86 rfl rfl ?_
    refine wp_iastoreP k250_87 (by decide) (hM.a321) (i_inO (by omega) (by decide)) ((3 * j) + 2) (i_un (by omega)) (by decide) ?_
    exact wp_retn k250_88 rfl rfl
  · skip
    obtain ⟨k1, hk1⟩ : ∃ k1, knP (V.1 313) f l 115 np T = k1 := ⟨_, rfl⟩
    have EK := e_knownP (S := S) (T := T) hM hT (to_600 hO hT.2.1) (G := V.1 313) rfl hnp h5
    have hO1 := to_kn (G := V.1 313) (f := f) (base := 115) (many := np) hO
    rw [hk1] at EK hO1
    have EF := e_readsFormula (S := S) (V := V) (T := k1.2) hM hT hO1 rfl hnp h5 hnf h5f (j := j) (by omega) (b := false)
    obtain ⟨q, hq⟩ : ∃ q, rpQ f l np nf j V k1.2 = q := ⟨_, rfl⟩
    rw [show rfQ (V.1 313) f l (241 * j) false np nf (V.1 320) k1.2 = q from hq] at EF
    obtain ⟨EF, e1, e2, _⟩ := EF
    have hR : rpF f l np nf j 1 V T = rpU V j q k1.1 0 := by
      unfold rpF
      rw [hk1, hq]
      rfl
    rw [hR]
    refine ⟨?_, e1, e2⟩
    refine ev_qe P250 rfl ?_
    refine wp_iconst 0 k250_0 (by decide) ?_
    refine wp_istore_n (L1 := [_, _, _, _]) k250_1 rfl rfl ?_
    refine wp_iconst 0 k250_2 (by decide) ?_
    refine wp_istore_n (L1 := [_, _, _, _]) k250_3 rfl rfl ?_
    refine wp_iload_n k250_4 rfl rfl ?_
    refine wp_iconst 1 k250_5 (by decide) ?_
    refine wp_if_icmp_eq_T k250_6 (by decide) ?_
    refine wp_aload_n k250_14 rfl rfl ?_
    refine wp_iconst 1 k250_15 (by decide) ?_
    refine wp_cv (st2 := []) k250_16 EK (by decide) rfl rfl rfl rfl (by decide) hM.o (by decide) ?_
    refine wp_istore_n (L1 := [_, _, _, _]) k250_19 rfl rfl ?_
    refine wp_iload_n k250_20 rfl rfl ?_
    refine wp_iconst 2 k250_21 (by decide) ?_
    refine wp_if_icmp_ne_T k250_22 (by decide) ?_
    refine wp_iload_n k250_30 rfl rfl ?_
    refine wp_iconst 3 k250_31 (by decide) ?_
    refine wp_if_icmp_eq_F k250_32 (by decide) ?_
    refine wp_iload_n k250_35 rfl rfl ?_
    refine wp_iconst 4 k250_36 (by decide) ?_
    refine wp_if_icmp_ne_T k250_37 (by decide) ?_
    refine wp_iload_n k250_46 rfl rfl ?_
    refine wp_iconst 3 k250_47 (by decide) ?_
    refine wp_if_icmp_ge_F k250_48 (by decide) ?_
    refine wp_aload_n k250_51 rfl rfl ?_
    refine wp_aload_n k250_52 rfl rfl ?_
    refine wp_getIP k250_53 (by decide) hM.o rfl (by decide) (Int32.ofNat j) hj ?_
    refine wp_iconst 0 k250_56 (by decide) ?_
    refine wp_cvn (st2 := []) k250_57 EF (by decide) rfl rfl rfl rfl (by decide) hM.o (by decide) ?_
    refine wp_aload_n k250_60 rfl rfl ?_
    refine wp_getR k250_61 (by decide) hM.o rfl ?_
    refine wp_iconst 3 k250_64 (by decide) ?_
    refine wp_aload_n k250_65 rfl rfl ?_
    refine wp_getIP k250_66 (by decide) hM.o rfl (by decide) (Int32.ofNat j) hj ?_
    refine wp_imul k250_69 ?_
    refine wp_cast (show (3 : Int32) * Int32.ofNat (j) = Int32.ofNat (3 * j) from (Int32.ofNat_mul 3 _).symm) ?_
    refine wp_iconst 1 k250_70 (by decide) ?_
    refine wp_iadd k250_71 ?_
    refine wp_cast (show Int32.ofNat (3 * j) + (1 : Int32) = Int32.ofNat ((3 * j) + 1) from (Int32.ofNat_add _ 1).symm) ?_
    refine wp_iload_n k250_72 rfl rfl ?_
    refine wp_iastoreP k250_73 (by decide) (hM.a321) (i_inO (by omega) (by decide)) ((3 * j) + 1) (i_un (by omega)) (by decide) ?_
    refine wp_aload_n k250_74 rfl rfl ?_
    refine wp_getR k250_75 (by decide) hM.o rfl ?_
    refine wp_iconst 3 k250_78 (by decide) ?_
    refine wp_aload_n k250_79 rfl rfl ?_
    refine wp_getIP k250_80 (by decide) hM.o rfl (by decide) (Int32.ofNat j) hj ?_
    refine wp_imul k250_83 ?_
    refine wp_cast (show (3 : Int32) * Int32.ofNat (j) = Int32.ofNat (3 * j) from (Int32.ofNat_mul 3 _).symm) ?_
    refine wp_iconst 2 k250_84 (by decide) ?_
    refine wp_iadd k250_85 ?_
    refine wp_cast (show Int32.ofNat (3 * j) + (2 : Int32) = Int32.ofNat ((3 * j) + 2) from (Int32.ofNat_add _ 2).symm) ?_
    refine wp_iload_n k250_86 rfl rfl ?_
    refine wp_iastoreP k250_87 (by decide) (hM.a321) (i_inO (by omega) (by decide)) ((3 * j) + 2) (i_un (by omega)) (by decide) ?_
    exact wp_retn k250_88 rfl rfl
  · have ET := e_readsTold (S := S) (T := T) hM hT (G := V.1 313) rfl hnp h5 hO
    obtain ⟨k1, hk1⟩ : ∃ k1, tdF (V.1 313) f l np (l + 3) 0 T = k1 := ⟨_, rfl⟩
    rw [hk1] at ET
    have hO1 := ET.2
    have EF := e_readsFormula (S := S) (V := V) (T := k1.2) hM hT hO1 rfl hnp h5 hnf h5f (j := j) (by omega) (b := false)
    obtain ⟨q, hq⟩ : ∃ q, rpQ f l np nf j V k1.2 = q := ⟨_, rfl⟩
    rw [show rfQ (V.1 313) f l (241 * j) false np nf (V.1 320) k1.2 = q from hq] at EF
    obtain ⟨EF, e1, e2, _⟩ := EF
    have hR : rpF f l np nf j 2 V T = rpU V j q k1.1 0 := by
      unfold rpF
      rw [hk1, hq]
      rfl
    rw [hR]
    refine ⟨?_, e1, e2⟩
    refine ev_qe P250 rfl ?_
    refine wp_iconst 0 k250_0 (by decide) ?_
    refine wp_istore_n (L1 := [_, _, _, _]) k250_1 rfl rfl ?_
    refine wp_iconst 0 k250_2 (by decide) ?_
    refine wp_istore_n (L1 := [_, _, _, _]) k250_3 rfl rfl ?_
    refine wp_iload_n k250_4 rfl rfl ?_
    refine wp_iconst 1 k250_5 (by decide) ?_
    refine wp_if_icmp_eq_F k250_6 (by decide) ?_
    refine wp_iload_n k250_9 rfl rfl ?_
    refine wp_iconst 3 k250_10 (by decide) ?_
    refine wp_if_icmp_ne_T k250_11 (by decide) ?_
    refine wp_iload_n k250_20 rfl rfl ?_
    refine wp_iconst 2 k250_21 (by decide) ?_
    refine wp_if_icmp_ne_F k250_22 (by decide) ?_
    refine wp_aload_n k250_25 rfl rfl ?_
    refine wp_cv (st2 := []) k250_26 ET.1 (by decide) rfl rfl rfl rfl (by decide) hM.o (by decide) ?_
    refine wp_istore_n (L1 := [_, _, _, _]) k250_29 rfl rfl ?_
    refine wp_iload_n k250_30 rfl rfl ?_
    refine wp_iconst 3 k250_31 (by decide) ?_
    refine wp_if_icmp_eq_F k250_32 (by decide) ?_
    refine wp_iload_n k250_35 rfl rfl ?_
    refine wp_iconst 4 k250_36 (by decide) ?_
    refine wp_if_icmp_ne_T k250_37 (by decide) ?_
    refine wp_iload_n k250_46 rfl rfl ?_
    refine wp_iconst 3 k250_47 (by decide) ?_
    refine wp_if_icmp_ge_F k250_48 (by decide) ?_
    refine wp_aload_n k250_51 rfl rfl ?_
    refine wp_aload_n k250_52 rfl rfl ?_
    refine wp_getIP k250_53 (by decide) hM.o rfl (by decide) (Int32.ofNat j) hj ?_
    refine wp_iconst 0 k250_56 (by decide) ?_
    refine wp_cvn (st2 := []) k250_57 EF (by decide) rfl rfl rfl rfl (by decide) hM.o (by decide) ?_
    refine wp_aload_n k250_60 rfl rfl ?_
    refine wp_getR k250_61 (by decide) hM.o rfl ?_
    refine wp_iconst 3 k250_64 (by decide) ?_
    refine wp_aload_n k250_65 rfl rfl ?_
    refine wp_getIP k250_66 (by decide) hM.o rfl (by decide) (Int32.ofNat j) hj ?_
    refine wp_imul k250_69 ?_
    refine wp_cast (show (3 : Int32) * Int32.ofNat (j) = Int32.ofNat (3 * j) from (Int32.ofNat_mul 3 _).symm) ?_
    refine wp_iconst 1 k250_70 (by decide) ?_
    refine wp_iadd k250_71 ?_
    refine wp_cast (show Int32.ofNat (3 * j) + (1 : Int32) = Int32.ofNat ((3 * j) + 1) from (Int32.ofNat_add _ 1).symm) ?_
    refine wp_iload_n k250_72 rfl rfl ?_
    refine wp_iastoreP k250_73 (by decide) (hM.a321) (i_inO (by omega) (by decide)) ((3 * j) + 1) (i_un (by omega)) (by decide) ?_
    refine wp_aload_n k250_74 rfl rfl ?_
    refine wp_getR k250_75 (by decide) hM.o rfl ?_
    refine wp_iconst 3 k250_78 (by decide) ?_
    refine wp_aload_n k250_79 rfl rfl ?_
    refine wp_getIP k250_80 (by decide) hM.o rfl (by decide) (Int32.ofNat j) hj ?_
    refine wp_imul k250_83 ?_
    refine wp_cast (show (3 : Int32) * Int32.ofNat (j) = Int32.ofNat (3 * j) from (Int32.ofNat_mul 3 _).symm) ?_
    refine wp_iconst 2 k250_84 (by decide) ?_
    refine wp_iadd k250_85 ?_
    refine wp_cast (show Int32.ofNat (3 * j) + (2 : Int32) = Int32.ofNat ((3 * j) + 2) from (Int32.ofNat_add _ 2).symm) ?_
    refine wp_iload_n k250_86 rfl rfl ?_
    refine wp_iastoreP k250_87 (by decide) (hM.a321) (i_inO (by omega) (by decide)) ((3 * j) + 2) (i_un (by omega)) (by decide) ?_
    exact wp_retn k250_88 rfl rfl
  · skip
    obtain ⟨k1, hk1⟩ : ∃ k1, knP (V.1 313) f l 115 np T = k1 := ⟨_, rfl⟩
    have EK := e_knownP (S := S) (T := T) hM hT (to_600 hO hT.2.1) (G := V.1 313) rfl hnp h5
    have hO1 := to_kn (G := V.1 313) (f := f) (base := 115) (many := np) hO
    rw [hk1] at EK hO1
    obtain ⟨k2, hk2⟩ : ∃ k2, knP (V.1 313) f l 80 nf k1.2 = k2 := ⟨_, rfl⟩
    have E2 := e_knownF (S := S) (T := k1.2) hM hT (to_600 hO1 hT.2.1) (G := V.1 313) rfl hnf h5f
    have hO2 := to_kn (G := V.1 313) (f := f) (base := 80) (many := nf) hO1
    rw [hk2] at E2 hO2
    have hR : rpF f l np nf j 3 V T = (up (up V 321 (3 * j + 1) k1.1) 321 (3 * j + 2) k2.1, k2.2) := by
      unfold rpF
      rw [hk1, hk2]
      rfl
    rw [hR]
    refine ⟨?_, hO2⟩
    refine ev_qe P250 rfl ?_
    refine wp_iconst 0 k250_0 (by decide) ?_
    refine wp_istore_n (L1 := [_, _, _, _]) k250_1 rfl rfl ?_
    refine wp_iconst 0 k250_2 (by decide) ?_
    refine wp_istore_n (L1 := [_, _, _, _]) k250_3 rfl rfl ?_
    refine wp_iload_n k250_4 rfl rfl ?_
    refine wp_iconst 1 k250_5 (by decide) ?_
    refine wp_if_icmp_eq_F k250_6 (by decide) ?_
    refine wp_iload_n k250_9 rfl rfl ?_
    refine wp_iconst 3 k250_10 (by decide) ?_
    refine wp_if_icmp_ne_F k250_11 (by decide) ?_
    refine wp_aload_n k250_14 rfl rfl ?_
    refine wp_iconst 1 k250_15 (by decide) ?_
    refine wp_cv (st2 := []) k250_16 EK (by decide) rfl rfl rfl rfl (by decide) hM.o (by decide) ?_
    refine wp_istore_n (L1 := [_, _, _, _]) k250_19 rfl rfl ?_
    refine wp_iload_n k250_20 rfl rfl ?_
    refine wp_iconst 2 k250_21 (by decide) ?_
    refine wp_if_icmp_ne_T k250_22 (by decide) ?_
    refine wp_iload_n k250_30 rfl rfl ?_
    refine wp_iconst 3 k250_31 (by decide) ?_
    refine wp_if_icmp_eq_T k250_32 (by decide) ?_
    refine wp_aload_n k250_40 rfl rfl ?_
    refine wp_iconst 0 k250_41 (by decide) ?_
    refine wp_cv (st2 := []) k250_42 E2 (by decide) rfl rfl rfl rfl (by decide) hM.o (by decide) ?_
    refine wp_istore_n (L1 := [_, _, _, _]) k250_45 rfl rfl ?_
    refine wp_iload_n k250_46 rfl rfl ?_
    refine wp_iconst 3 k250_47 (by decide) ?_
    refine wp_if_icmp_ge_T k250_48 (by decide) ?_
    refine wp_aload_n k250_60 rfl rfl ?_
    refine wp_getR k250_61 (by decide) hM.o rfl ?_
    refine wp_iconst 3 k250_64 (by decide) ?_
    refine wp_aload_n k250_65 rfl rfl ?_
    refine wp_getIP k250_66 (by decide) hM.o rfl (by decide) (Int32.ofNat j) hj ?_
    refine wp_imul k250_69 ?_
    refine wp_cast (show (3 : Int32) * Int32.ofNat (j) = Int32.ofNat (3 * j) from (Int32.ofNat_mul 3 _).symm) ?_
    refine wp_iconst 1 k250_70 (by decide) ?_
    refine wp_iadd k250_71 ?_
    refine wp_cast (show Int32.ofNat (3 * j) + (1 : Int32) = Int32.ofNat ((3 * j) + 1) from (Int32.ofNat_add _ 1).symm) ?_
    refine wp_iload_n k250_72 rfl rfl ?_
    refine wp_iastoreP k250_73 (by decide) (hM.a321) (i_inO (by omega) (by decide)) ((3 * j) + 1) (i_un (by omega)) (by decide) ?_
    refine wp_aload_n k250_74 rfl rfl ?_
    refine wp_getR k250_75 (by decide) hM.o rfl ?_
    refine wp_iconst 3 k250_78 (by decide) ?_
    refine wp_aload_n k250_79 rfl rfl ?_
    refine wp_getIP k250_80 (by decide) hM.o rfl (by decide) (Int32.ofNat j) hj ?_
    refine wp_imul k250_83 ?_
    refine wp_cast (show (3 : Int32) * Int32.ofNat (j) = Int32.ofNat (3 * j) from (Int32.ofNat_mul 3 _).symm) ?_
    refine wp_iconst 2 k250_84 (by decide) ?_
    refine wp_iadd k250_85 ?_
    refine wp_cast (show Int32.ofNat (3 * j) + (2 : Int32) = Int32.ofNat ((3 * j) + 2) from (Int32.ofNat_add _ 2).symm) ?_
    refine wp_iload_n k250_86 rfl rfl ?_
    refine wp_iastoreP k250_87 (by decide) (hM.a321) (i_inO (by omega) (by decide)) ((3 * j) + 2) (i_un (by omega)) (by decide) ?_
    exact wp_retn k250_88 rfl rfl
  · obtain ⟨k2, hk2⟩ : ∃ k2, knP (V.1 313) f l 80 nf T = k2 := ⟨_, rfl⟩
    have E2 := e_knownF (S := S) (T := T) hM hT (to_600 hO hT.2.1) (G := V.1 313) rfl hnf h5f
    have hO2 := to_kn (G := V.1 313) (f := f) (base := 80) (many := nf) hO
    rw [hk2] at E2 hO2
    have hR : rpF f l np nf j 4 V T = (up (up V 321 (3 * j + 1) 0) 321 (3 * j + 2) k2.1, k2.2) := by
      unfold rpF
      rw [hk2]
      rfl
    rw [hR]
    refine ⟨?_, hO2⟩
    refine ev_qe P250 rfl ?_
    refine wp_iconst 0 k250_0 (by decide) ?_
    refine wp_istore_n (L1 := [_, _, _, _]) k250_1 rfl rfl ?_
    refine wp_iconst 0 k250_2 (by decide) ?_
    refine wp_istore_n (L1 := [_, _, _, _]) k250_3 rfl rfl ?_
    refine wp_iload_n k250_4 rfl rfl ?_
    refine wp_iconst 1 k250_5 (by decide) ?_
    refine wp_if_icmp_eq_F k250_6 (by decide) ?_
    refine wp_iload_n k250_9 rfl rfl ?_
    refine wp_iconst 3 k250_10 (by decide) ?_
    refine wp_if_icmp_ne_T k250_11 (by decide) ?_
    refine wp_iload_n k250_20 rfl rfl ?_
    refine wp_iconst 2 k250_21 (by decide) ?_
    refine wp_if_icmp_ne_T k250_22 (by decide) ?_
    refine wp_iload_n k250_30 rfl rfl ?_
    refine wp_iconst 3 k250_31 (by decide) ?_
    refine wp_if_icmp_eq_F k250_32 (by decide) ?_
    refine wp_iload_n k250_35 rfl rfl ?_
    refine wp_iconst 4 k250_36 (by decide) ?_
    refine wp_if_icmp_ne_F k250_37 (by decide) ?_
    refine wp_aload_n k250_40 rfl rfl ?_
    refine wp_iconst 0 k250_41 (by decide) ?_
    refine wp_cv (st2 := []) k250_42 E2 (by decide) rfl rfl rfl rfl (by decide) hM.o (by decide) ?_
    refine wp_istore_n (L1 := [_, _, _, _]) k250_45 rfl rfl ?_
    refine wp_iload_n k250_46 rfl rfl ?_
    refine wp_iconst 3 k250_47 (by decide) ?_
    refine wp_if_icmp_ge_T k250_48 (by decide) ?_
    refine wp_aload_n k250_60 rfl rfl ?_
    refine wp_getR k250_61 (by decide) hM.o rfl ?_
    refine wp_iconst 3 k250_64 (by decide) ?_
    refine wp_aload_n k250_65 rfl rfl ?_
    refine wp_getIP k250_66 (by decide) hM.o rfl (by decide) (Int32.ofNat j) hj ?_
    refine wp_imul k250_69 ?_
    refine wp_cast (show (3 : Int32) * Int32.ofNat (j) = Int32.ofNat (3 * j) from (Int32.ofNat_mul 3 _).symm) ?_
    refine wp_iconst 1 k250_70 (by decide) ?_
    refine wp_iadd k250_71 ?_
    refine wp_cast (show Int32.ofNat (3 * j) + (1 : Int32) = Int32.ofNat ((3 * j) + 1) from (Int32.ofNat_add _ 1).symm) ?_
    refine wp_iload_n k250_72 rfl rfl ?_
    refine wp_iastoreP k250_73 (by decide) (hM.a321) (i_inO (by omega) (by decide)) ((3 * j) + 1) (i_un (by omega)) (by decide) ?_
    refine wp_aload_n k250_74 rfl rfl ?_
    refine wp_getR k250_75 (by decide) hM.o rfl ?_
    refine wp_iconst 3 k250_78 (by decide) ?_
    refine wp_aload_n k250_79 rfl rfl ?_
    refine wp_getIP k250_80 (by decide) hM.o rfl (by decide) (Int32.ofNat j) hj ?_
    refine wp_imul k250_83 ?_
    refine wp_cast (show (3 : Int32) * Int32.ofNat (j) = Int32.ofNat (3 * j) from (Int32.ofNat_mul 3 _).symm) ?_
    refine wp_iconst 2 k250_84 (by decide) ?_
    refine wp_iadd k250_85 ?_
    refine wp_cast (show Int32.ofNat (3 * j) + (2 : Int32) = Int32.ofNat ((3 * j) + 2) from (Int32.ofNat_add _ 2).symm) ?_
    refine wp_iload_n k250_86 rfl rfl ?_
    refine wp_iastoreP k250_87 (by decide) (hM.a321) (i_inO (by omega) (by decide)) ((3 * j) + 2) (i_un (by omega)) (by decide) ?_
    exact wp_retn k250_88 rfl rfl
end M32
