section M28
/-! ===== the reference: an order is done; a state is kept ===== -/
def doF (V : hV) (n rw i m kd : Nat) : Int32 × hV := match kd with
  | 0 => anF V 320 n (241 * i) m
  | 1 => saF V 320 (mm_un (V.1 321 (3 * i + 1))) n (241 * i) m
  | 2 => ((whF (askF V n 320 (241 * i) m) (asX V 320 n (241 * i) m) (V.1 321 (3 * i + 1)) n).1, whV (askF V n 320 (241 * i) m) (asX V 320 n (241 * i) m) (V.1 321 (3 * i + 1)) n)
  | 3 => (pbF V (mm_un (V.1 321 (3 * i + 1))) (wof (V.1 321 (3 * i + 2)) &&& V.1 313 2) 32, shV V (mm_un (V.1 321 (3 * i + 1))) (V.1 321 (3 * i + 2)))
  | _ => (kwF V rw (wof (V.1 321 (3 * i + 2))) n, roV V n rw (V.1 321 (3 * i + 2)))
def keQ (pm : Nat) : Nat := if pm = 8 then 7 else pm
def keS (V : hV) (i : Nat) : hV := ovr V 317 (fun j => if j < i then some (V.1 317 (j + 564)) else none)
def keW (ar : Nat) (V : hV) (pm : Nat) : hV := up (cpV (if pm = 8 then up (keS V 3948) 312 5 7 else V) ar 0 317 (564 * keQ pm) 564) 312 5 (Int32.ofNat (keQ pm + 1))
def keV (V : hV) (pm : Nat) : hV := keW 313 V pm
theorem e_doesOrder {S : ww_S} {sh : List mm_C} {V : hV} (hM : MS sh) {n : Nat} (hn : V.1 313 1 = Int32.ofNat n) (h5 : n ≤ 5) {rw : Nat} (hrw : V.1 313 4 = Int32.ofNat rw) (h32 : rw < 32) {i kd m : Nat} (hi : i < 20) (hk : V.1 321 (3 * i) = Int32.ofNat kd) (hk4 : kd ≤ 4) (hp : kd = 1 ∨ kd = 3 → mm_un (V.1 321 (3 * i + 1)) < 5) (hF : kd ≤ 2 → FOK V n 320 (241 * i) m) : EV S 12 252 [.ref 312, .int (Int32.ofNat i)] (hH sh V) (.inl (some (.int (doF V n rw i m kd).1))) (hH sh (doF V n rw i m kd).2) := by
  refine ev_qe P252 rfl ?_
  refine wp_aload_n k252_0 rfl rfl ?_
  refine wp_getR k252_1 (by decide) hM.o rfl ?_
  refine wp_iconst 3 k252_4 (by decide) ?_
  refine wp_iload_n k252_5 rfl rfl ?_
  refine wp_imul k252_6 ?_
  refine wp_cast (show (3 : Int32) * Int32.ofNat (i) = Int32.ofNat (3 * i) from (Int32.ofNat_mul 3 _).symm) ?_
  refine wp_iconst 1 k252_7 (by decide) ?_
  refine wp_iadd k252_8 ?_
  refine wp_cast (show Int32.ofNat (3 * i) + (1 : Int32) = Int32.ofNat ((3 * i) + 1) from (Int32.ofNat_add _ 1).symm) ?_
  refine wp_iaload k252_9 (by decide) (hM.a321) (i_inO (by omega) (by decide)) ((3 * i) + 1) (i_un (by omega)) _ rfl ?_
  refine wp_istore_n (L1 := [_, _, _]) k252_10 rfl rfl ?_
  refine wp_aload_n k252_11 rfl rfl ?_
  refine wp_getR k252_12 (by decide) hM.o rfl ?_
  refine wp_iconst 3 k252_15 (by decide) ?_
  refine wp_iload_n k252_16 rfl rfl ?_
  refine wp_imul k252_17 ?_
  refine wp_cast (show (3 : Int32) * Int32.ofNat (i) = Int32.ofNat (3 * i) from (Int32.ofNat_mul 3 _).symm) ?_
  refine wp_iaload k252_18 (by decide) (hM.a321) (i_inO (by omega) (by decide)) (3 * i) (i_un (by omega)) (Int32.ofNat kd) hk ?_
  skip
  refine wp_tsw k252_19 (fun i9 t9 g9 e9 => ?_) (fun c1 => ?_) (by decide)
  · have b9 : i9 < 4 := (List.getElem?_eq_some_iff.mp g9).1
    rw [i_un (by omega), Nat.zero_add] at e9
    subst e9
    obtain rfl | rfl | rfl | rfl : kd = 0 ∨ kd = 1 ∨ kd = 2 ∨ kd = 3 := by omega
    · cases g9
      have EO := e_announceNow (S := S) (V := V) hM hn h5 (AOK.t hM) (b := 241 * i) (by omega) (hF (by decide))
      refine wp_aload_n k252_48 rfl rfl ?_
      refine wp_aload_n k252_49 rfl rfl ?_
      refine wp_getR k252_50 (by decide) hM.o rfl ?_
      refine wp_sipush 241 k252_53 (by decide) ?_
      refine wp_iload_n k252_56 rfl rfl ?_
      refine wp_imul k252_57 ?_
      refine wp_cast (show (241 : Int32) * Int32.ofNat (i) = Int32.ofNat (241 * i) from (Int32.ofNat_mul 241 _).symm) ?_
      refine wp_cv (st2 := []) k252_58 EO (by decide) rfl rfl rfl rfl (by decide) hM.o (by decide) ?_
      exact wp_reti k252_61 rfl rfl rfl
    · cases g9
      have EO := e_sayNow (S := S) (V := V) hM hn h5 (AOK.t hM) (b := 241 * i) (by omega) (hF (by decide)) (hp (Or.inl rfl))
      rw [of_un] at EO
      refine wp_aload_n k252_62 rfl rfl ?_
      refine wp_iload_n k252_63 rfl rfl ?_
      refine wp_aload_n k252_64 rfl rfl ?_
      refine wp_getR k252_65 (by decide) hM.o rfl ?_
      refine wp_sipush 241 k252_68 (by decide) ?_
      refine wp_iload_n k252_71 rfl rfl ?_
      refine wp_imul k252_72 ?_
      refine wp_cast (show (241 : Int32) * Int32.ofNat (i) = Int32.ofNat (241 * i) from (Int32.ofNat_mul 241 _).symm) ?_
      refine wp_cv (st2 := []) k252_73 EO (by decide) rfl rfl rfl rfl (by decide) hM.o (by decide) ?_
      exact wp_reti k252_76 rfl rfl rfl
    · cases g9
      have EO := e_whisperNow (S := S) (V := V) hM hn h5 (AOK.t hM) (b := 241 * i) (by omega) (hF (by decide)) (set := V.1 321 (3 * i + 1))
      refine wp_aload_n k252_77 rfl rfl ?_
      refine wp_iload_n k252_78 rfl rfl ?_
      refine wp_aload_n k252_79 rfl rfl ?_
      refine wp_getR k252_80 (by decide) hM.o rfl ?_
      refine wp_sipush 241 k252_83 (by decide) ?_
      refine wp_iload_n k252_86 rfl rfl ?_
      refine wp_imul k252_87 ?_
      refine wp_cast (show (241 : Int32) * Int32.ofNat (i) = Int32.ofNat (241 * i) from (Int32.ofNat_mul 241 _).symm) ?_
      refine wp_cv (st2 := []) k252_88 EO (by decide) rfl rfl rfl rfl (by decide) hM.o (by decide) ?_
      exact wp_reti k252_91 rfl rfl rfl
    · cases g9
      have EO := e_showNow (S := S) (V := V) hM (hp (Or.inr rfl)) (fact := V.1 321 (3 * i + 2))
      rw [of_un] at EO
      refine wp_aload_n k252_92 rfl rfl ?_
      refine wp_iload_n k252_93 rfl rfl ?_
      refine wp_aload_n k252_94 rfl rfl ?_
      refine wp_getR k252_95 (by decide) hM.o rfl ?_
      refine wp_iconst 3 k252_98 (by decide) ?_
      refine wp_iload_n k252_99 rfl rfl ?_
      refine wp_imul k252_100 ?_
      refine wp_cast (show (3 : Int32) * Int32.ofNat (i) = Int32.ofNat (3 * i) from (Int32.ofNat_mul 3 _).symm) ?_
      refine wp_iconst 2 k252_101 (by decide) ?_
      refine wp_iadd k252_102 ?_
      refine wp_cast (show Int32.ofNat (3 * i) + (2 : Int32) = Int32.ofNat ((3 * i) + 2) from (Int32.ofNat_add _ 2).symm) ?_
      refine wp_iaload k252_103 (by decide) (hM.a321) (i_inO (by omega) (by decide)) ((3 * i) + 2) (i_un (by omega)) _ rfl ?_
      refine wp_cv (st2 := []) k252_104 EO (by decide) rfl rfl rfl rfl (by decide) hM.o (by decide) ?_
      exact wp_reti k252_107 rfl rfl rfl
  · have h4 : kd = 4 := by
      refine Decidable.byContradiction fun z => ?_
      refine c1 kd (show kd < 4 by omega) ?_
      rw [i_un (by omega), Nat.zero_add]
    subst h4
    have EO := e_roundNow (S := S) (V := V) hM hn h5 hrw h32 (fact := V.1 321 (3 * i + 2))
    refine wp_aload_n k252_108 rfl rfl ?_
    refine wp_aload_n k252_109 rfl rfl ?_
    refine wp_getR k252_110 (by decide) hM.o rfl ?_
    refine wp_iconst 3 k252_113 (by decide) ?_
    refine wp_iload_n k252_114 rfl rfl ?_
    refine wp_imul k252_115 ?_
    refine wp_cast (show (3 : Int32) * Int32.ofNat (i) = Int32.ofNat (3 * i) from (Int32.ofNat_mul 3 _).symm) ?_
    refine wp_iconst 2 k252_116 (by decide) ?_
    refine wp_iadd k252_117 ?_
    refine wp_cast (show Int32.ofNat (3 * i) + (2 : Int32) = Int32.ofNat ((3 * i) + 2) from (Int32.ofNat_add _ 2).symm) ?_
    refine wp_iaload k252_118 (by decide) (hM.a321) (i_inO (by omega) (by decide)) ((3 * i) + 2) (i_un (by omega)) _ rfl ?_
    refine wp_cv (st2 := []) k252_119 EO (by decide) rfl rfl rfl rfl (by decide) hM.o (by decide) ?_
    exact wp_reti k252_122 rfl rfl rfl
end M28
