section M51
/-! ===== the reference: what would be; sizes, letters, the log ===== -/
theorem back_q {V U B : hV} (f : FrQ V U) (g : FrA (cpV U 313 0 316 0 564) B) : FrQ V (cpV B 316 0 313 0 564) := by
  refine ⟨fun a h1 h2 h3 h4 => ?_, fun k hk => ?_, fun k hk => ?_⟩
  · exact (funext fun j => ovr_ne B _ h2 j).trans ((g.1 a h2 h4).trans ((funext fun j => ovr_ne U _ h3 j).trans (f.1 a h1 h2 h3 h4)))
  · have e1 : (cpV B 316 0 313 0 564).1 313 k = B.1 316 (0 + (k - 0)) := ovr_some B (if_pos ⟨Nat.zero_le _, by omega⟩)
    have e2 : (cpV U 313 0 316 0 564).1 316 (0 + (k - 0)) = U.1 313 (0 + (0 + (k - 0) - 0)) := ovr_some U (if_pos ⟨by omega, by omega⟩)
    rw [e1, g.1 316 (by decide) (by decide), e2, show 0 + (0 + (k - 0) - 0) = k by omega]
    exact f.2.1 k hk
  · exact (ovr_ne B _ (by decide) k).trans ((congrFun (g.1 312 (by decide) (by decide)) k).trans ((ovr_ne U _ (by decide) k).trans (f.2.2 k hk)))
theorem try_313 {U : hV} : (cpV U 313 0 316 0 564).1 313 = U.1 313 := funext fun j => ovr_ne U _ (by decide) j
theorem FOK.s3 {V W : hV} {n m : Nat} (h : FOK V n 313 320 m) (e : W.1 313 = V.1 313) : FOK W n 313 320 m := h.cg fun k _ => congrFun e (320 + k)
theorem ac_2 {V : hV} {x w : Int32} {k : Nat} (hk : k < 8) : (acV V x k w).1 313 2 = V.1 313 2 &&& x := by
  have h1 : ∀ (U : hV) (a b c : Int32), (noW U a b c).1 313 2 = U.1 313 2 := fun U a b c => (up_ne _ _ (Or.inr (by decide))).trans ((up_ne _ _ (Or.inr (by decide))).trans ((up_ne _ _ (Or.inr (by decide))).trans ((up_ne _ _ (Or.inr (by decide))).trans (ovr_none U (if_neg (by omega))))))
  exact (h1 _ _ _ _).trans ((up_ne _ _ (Or.inr (by omega))).trans ((up_ne _ _ (Or.inr (by decide))).trans (up_eq _ _ _ _)))
theorem ro_le {V : hV} {n rw : Nat} {fact : Int32} : mm_un ((roV V n rw fact).1 313 2) ≤ mm_un (V.1 313 2) := by
  unfold roV
  rw [ac_2 (by decide), un_and]
  exact Nat.and_le_left
theorem q_wouldLeave {S : ww_S} {sh : List mm_C} {V : hV} (hM : MS sh) {n nf rw : Nat} (hS : SG V n nf rw) {m : Nat} (hF : FOK V n 313 320 m) : EVQ S 12 278 [.ref 312] (hH sh V) (qI sh V) := by
  obtain ⟨hn, h5, hnf, h5f, hrw, h32⟩ := hS
  refine ev_of P278 rfl ?_
  have hnA : (cpV (up V 312 6 0) 313 0 316 0 564).1 313 1 = Int32.ofNat n := (congrFun try_313 1).trans hn
  have hrA : (cpV (up V 312 6 0) 313 0 316 0 564).1 313 4 = Int32.ofNat rw := (congrFun try_313 4).trans hrw
  have hFA : FOK (cpV (up V 312 6 0) 313 0 316 0 564) n 313 320 m := hF.s3 try_313
  have EA := e_announceNow (S := S) (V := cpV (up V 312 6 0) 313 0 316 0 564) hM hnA h5 (AOK.s hM) (b := 320) (by decide) hFA
  refine wp_aload_n k278_0 rfl rfl ?_
  refine wp_iconst 0 k278_1 (by decide) ?_
  refine wp_putI k278_2 (by decide) hM.o rfl rfl rfl ?_
  refine wp_aload_n k278_5 rfl rfl ?_
  refine wp_cvn (st2 := []) k278_6 (e_tries hM) (by decide) rfl rfl rfl rfl (by decide) hM.o (by decide) ?_
  refine wp_aload_n k278_9 rfl rfl ?_
  refine wp_aload_n k278_10 rfl rfl ?_
  refine wp_aload_n k278_11 rfl rfl ?_
  refine wp_getR k278_12 (by decide) hM.o rfl ?_
  refine wp_sipush 320 k278_15 (by decide) ?_
  refine wp_cv (st2 := [_]) k278_18 EA (by decide) rfl rfl rfl rfl (by decide) hM.o (by decide) ?_
  refine wp_cv (st2 := []) k278_21 (e_back hM) (by decide) rfl rfl rfl rfl (by decide) hM.o (by decide) ?_
  exact wp_retI k278_24 rfl ⟨_, _, rfl, rfl, back_q fq_6 fa_an⟩
theorem q_wouldSay {S : ww_S} {sh : List mm_C} {V : hV} (hM : MS sh) {n nf rw : Nat} (hS : SG V n nf rw) {m : Nat} (hF : FOK V n 313 320 m) {x : Int32} : EVQ S 12 279 [.ref 312, .int x] (hH sh V) (qI sh V) := by
  obtain ⟨hn, h5, hnf, h5f, hrw, h32⟩ := hS
  refine ev_of P279 rfl ?_
  by_cases hb : inI x 0 (V.1 313 1 - 1) = true
  · obtain ⟨k, hk, _, he⟩ := pe_of hn h5 hb
    subst he
    have hnA : (cpV (up V 312 6 (bI (!inI (Int32.ofNat k) 0 (V.1 313 1 - 1)))) 313 0 316 0 564).1 313 1 = Int32.ofNat n := (congrFun try_313 1).trans hn
    have hrA : (cpV (up V 312 6 (bI (!inI (Int32.ofNat k) 0 (V.1 313 1 - 1)))) 313 0 316 0 564).1 313 4 = Int32.ofNat rw := (congrFun try_313 4).trans hrw
    have hFA : FOK (cpV (up V 312 6 (bI (!inI (Int32.ofNat k) 0 (V.1 313 1 - 1)))) 313 0 316 0 564) n 313 320 m := hF.s3 try_313
    have EA := e_sayNow (S := S) (V := cpV (up V 312 6 (bI (!inI (Int32.ofNat k) 0 (V.1 313 1 - 1)))) 313 0 316 0 564) hM hnA h5 (AOK.s hM) (b := 320) (by decide) hFA hk
    refine wp_aload_n k279_0 rfl rfl ?_
    refine wp_aload_n k279_1 rfl rfl ?_
    refine wp_iload_n k279_2 rfl rfl ?_
    refine wp_cv (st2 := [_]) k279_3 (e_isPerson hM) (by decide) rfl rfl rfl rfl (by decide) hM.o (by decide) ?_
    refine wp_cv (st2 := []) k279_6 (e_passes hM) (by decide) rfl rfl rfl rfl (by decide) hM.o (by decide) ?_
    refine wp_if_ne_T k279_9 (bI_n0.mpr hb) ?_
    refine wp_aload_n k279_14 rfl rfl ?_
    refine wp_cvn (st2 := []) k279_15 (e_tries hM) (by decide) rfl rfl rfl rfl (by decide) hM.o (by decide) ?_
    refine wp_aload_n k279_18 rfl rfl ?_
    refine wp_aload_n k279_19 rfl rfl ?_
    refine wp_iload_n k279_20 rfl rfl ?_
    refine wp_aload_n k279_21 rfl rfl ?_
    refine wp_getR k279_22 (by decide) hM.o rfl ?_
    refine wp_sipush 320 k279_25 (by decide) ?_
    refine wp_cv (st2 := [_]) k279_28 EA (by decide) rfl rfl rfl rfl (by decide) hM.o (by decide) ?_
    refine wp_cv (st2 := []) k279_31 (e_back hM) (by decide) rfl rfl rfl rfl (by decide) hM.o (by decide) ?_
    exact wp_retI k279_34 rfl ⟨_, _, rfl, rfl, back_q fq_6 fa_sa⟩
  · skip
    refine wp_aload_n k279_0 rfl rfl ?_
    refine wp_aload_n k279_1 rfl rfl ?_
    refine wp_iload_n k279_2 rfl rfl ?_
    refine wp_cv (st2 := [_]) k279_3 (e_isPerson hM) (by decide) rfl rfl rfl rfl (by decide) hM.o (by decide) ?_
    refine wp_cv (st2 := []) k279_6 (e_passes hM) (by decide) rfl rfl rfl rfl (by decide) hM.o (by decide) ?_
    refine wp_if_ne_F k279_9 (bI_0.mpr (Bool.eq_false_iff.mpr hb)) ?_
    refine wp_iconst 0 k279_12 (by decide) ?_
    exact wp_retI k279_13 rfl ⟨_, _, rfl, rfl, (by first | exact fq_6 | exact fq_6.t fq_ask | exact fq_ask | exact FrQ.r _ | exact (fq_6.t fq_8) | exact fq_8)⟩
def apB (V : hV) (x : Int32) : Bool := decide (x &&& ((1 <<< (V.1 313 1 &&& 31) - 1) ^^^ -1) = 0)
theorem e_arePersons {S : ww_S} {sh : List mm_C} {V : hV} (hM : MS sh) {x : Int32} : EV S 3 280 [.ref 312, .int x] (hH sh V) (.inl (some (.int (bI (apB V x))))) (hH sh V) := by
  refine ev_qe P280 rfl ?_
  by_cases c : x &&& ((1 <<< (V.1 313 1 &&& 31) - 1) ^^^ -1) = 0
  · have e : apB V x = true := decide_eq_true c
    rw [e]
    refine wp_iload_n k280_0 rfl rfl ?_
    refine wp_aload_n k280_1 rfl rfl ?_
    refine wp_cv (st2 := [_]) k280_2 (e_everybody hM) (by decide) rfl rfl rfl rfl (by decide) hM.o (by decide) ?_
    refine wp_iconst (-1) k280_5 (by decide) ?_
    refine wp_ixor k280_6 ?_
    refine wp_iand k280_7 ?_
    refine wp_if_ne_F k280_8 c ?_
    refine wp_iconst 1 k280_11 (by decide) ?_
    refine wp_goto k280_12 ?_
    exact wp_retz (b := true) k280_16 rfl rfl rfl
  · have e : apB V x = false := decide_eq_false c
    rw [e]
    refine wp_iload_n k280_0 rfl rfl ?_
    refine wp_aload_n k280_1 rfl rfl ?_
    refine wp_cv (st2 := [_]) k280_2 (e_everybody hM) (by decide) rfl rfl rfl rfl (by decide) hM.o (by decide) ?_
    refine wp_iconst (-1) k280_5 (by decide) ?_
    refine wp_ixor k280_6 ?_
    refine wp_iand k280_7 ?_
    refine wp_if_ne_T k280_8 c ?_
    refine wp_iconst 0 k280_15 (by decide) ?_
    exact wp_retz (b := false) k280_16 rfl rfl rfl
theorem q_wouldKnow {S : ww_S} {sh : List mm_C} {V : hV} (hM : MS sh) {n nf rw : Nat} (hS : SG V n nf rw) {m : Nat} (hF : FOK V n 313 320 m) {x : Int32} : EVQ S 13 281 [.ref 312, .int x] (hH sh V) (qI sh V) := by
  obtain ⟨hn, h5, hnf, h5f, hrw, h32⟩ := hS
  refine ev_of P281 rfl ?_
  have hnA : (cpV (up V 312 6 (bI (!apB V x))) 313 0 316 0 564).1 313 1 = Int32.ofNat n := (congrFun try_313 1).trans hn
  have hrA : (cpV (up V 312 6 (bI (!apB V x))) 313 0 316 0 564).1 313 4 = Int32.ofNat rw := (congrFun try_313 4).trans hrw
  have hFA : FOK (cpV (up V 312 6 (bI (!apB V x))) 313 0 316 0 564) n 313 320 m := hF.s3 try_313
  have EA := e_whisperNow (S := S) (V := cpV (up V 312 6 (bI (!apB V x))) 313 0 316 0 564) hM hnA h5 (AOK.s hM) (b := 320) (by decide) hFA (set := x)
  have fB : FrA (cpV (up V 312 6 (bI (!apB V x))) 313 0 316 0 564) (whV (askF (cpV (up V 312 6 (bI (!apB V x))) 313 0 316 0 564) n 313 320 m) (asX (cpV (up V 312 6 (bI (!apB V x))) 313 0 316 0 564) 313 n 320 m) x n) := fa_ask.t (fa_whV h5)
  obtain ⟨z, EK⟩ := e_knowersNow (S := S) (W := (whV (askF (cpV (up V 312 6 (bI (!apB V x))) 313 0 316 0 564) n 313 320 m) (asX (cpV (up V 312 6 (bI (!apB V x))) 313 0 316 0 564) 313 n 320 m) x n)) hM ((fB.2.1 1 (by omega)).trans hnA) h5 ((fB.2.1 4 (by omega)).trans hrA) h32
  refine wp_aload_n k281_0 rfl rfl ?_
  refine wp_aload_n k281_1 rfl rfl ?_
  refine wp_iload_n k281_2 rfl rfl ?_
  refine wp_cv (st2 := [_]) k281_3 (e_arePersons hM) (by decide) rfl rfl rfl rfl (by decide) hM.o (by decide) ?_
  refine wp_cv (st2 := []) k281_6 (e_passes hM) (by decide) rfl rfl rfl rfl (by decide) hM.o (by decide) ?_
  refine wp_if_ne k281_9 (fun c9 => ?_) (fun c9 => ?_)
  · refine wp_aload_n k281_14 rfl rfl ?_
    refine wp_cvn (st2 := []) k281_15 (e_tries hM) (by decide) rfl rfl rfl rfl (by decide) hM.o (by decide) ?_
    refine wp_aload_n k281_18 rfl rfl ?_
    refine wp_iload_n k281_19 rfl rfl ?_
    refine wp_aload_n k281_20 rfl rfl ?_
    refine wp_getR k281_21 (by decide) hM.o rfl ?_
    refine wp_sipush 320 k281_24 (by decide) ?_
    refine wp_cv (st2 := []) k281_27 EA (by decide) rfl rfl rfl rfl (by decide) hM.o (by decide) ?_
    refine wp_istore_n (L1 := [_, _, _]) k281_30 rfl rfl ?_
    refine wp_aload_n k281_31 rfl rfl ?_
    refine wp_aload_n k281_32 rfl rfl ?_
    refine wp_cv (st2 := [_]) k281_33 EK (by decide) rfl rfl rfl rfl (by decide) hM.o (by decide) ?_
    refine wp_cv (st2 := []) k281_36 (e_back hM) (by decide) rfl rfl rfl rfl (by decide) hM.o (by decide) ?_
    first
      | exact wp_retI k281_39 rfl ⟨_, _, rfl, rfl, back_q fq_6 fB⟩
      | exact wp_retI k281_39 rfl ⟨_, _, rfl, rfl, fq_6⟩
  · refine wp_iconst 0 k281_12 (by decide) ?_
    first
      | exact wp_retI k281_13 rfl ⟨_, _, rfl, rfl, back_q fq_6 fB⟩
      | exact wp_retI k281_13 rfl ⟨_, _, rfl, rfl, fq_6⟩
theorem e_roundsNow {S : ww_S} {sh : List mm_C} {A : hV} (hM : MS sh) {n nf rw : Nat} (hS : SG A n nf rw) {x : Int32} : EVQ S 9 282 [.ref 312, .int x] (hH sh A) (fun v g => ∃ (y : Int32) (B : hV), v = .inl (some (.int y)) ∧ g = hH sh B ∧ FrA A B) := by
  have key : ∀ (m : Nat) (W : hV) (c : Int32) (y3 y4 : Option Value), mm_un (W.1 313 2) < m → FrA A W → WP S 8 mm_m282 2 [some (.ref 312), some (.int x), some (.int c), y3, y4] [] (hH sh W) (fun v g => ∃ (y : Int32) (B : hV), v = .inl (some (.int y)) ∧ g = hH sh B ∧ FrA A B) := by
    intro m
    induction m with
    | zero =>
      intro W c y3 y4 hm _
      exact absurd hm (Nat.not_lt_zero _)
    | succ m ih =>
      intro W c y3 y4 hm f
      obtain ⟨hn, h5, hnf, h5f, hrw, h32⟩ := hS
      have hnW : W.1 313 1 = Int32.ofNat n := (f.2.1 1 (by omega)).trans hn
      have hrW : W.1 313 4 = Int32.ofNat rw := (f.2.1 4 (by omega)).trans hrw
      have EK := e_knowersOf (S := S) (V := W) hM hnW h5 (w := rw) h32 (set := wof x)
      have ER := e_roundNow (S := S) (V := W) hM hnW h5 hrW h32 (fact := x)
      have hle := ro_le (V := W) (n := n) (rw := rw) (fact := x)
      refine wp_aload_n k282_2 rfl rfl ?_
      refine wp_aload_n k282_3 rfl rfl ?_
      refine wp_getR k282_4 (by decide) hM.o rfl ?_
      refine wp_iconst 4 k282_7 (by decide) ?_
      refine wp_iaload k282_8 (by decide) (hM.a313) (by decide) 4 (by decide) (Int32.ofNat rw) hrW ?_
      refine wp_iload_n k282_9 rfl rfl ?_
      refine wp_cs (st2 := [_, _]) k282_10 (e_worldsOf) (by decide) rfl rfl rfl (by decide) ?_
      refine wp_cv (st2 := []) k282_13 EK (by decide) rfl rfl rfl rfl (by decide) hM.o (by decide) ?_
      refine wp_aload_n k282_16 rfl rfl ?_
      refine wp_cv (st2 := [_]) k282_17 (e_everybody hM) (by decide) rfl rfl rfl rfl (by decide) hM.o (by decide) ?_
      refine wp_if_icmp_eq k282_20 (fun c20 => ?_) (fun c20 => ?_)
      · refine wp_iload_n k282_55 rfl rfl ?_
        first
          | exact wp_retI k282_56 rfl ⟨_, _, rfl, rfl, f.t fa_ro⟩
          | exact wp_retI k282_56 rfl ⟨_, _, rfl, rfl, f⟩
      · refine wp_aload_n k282_23 rfl rfl ?_
        refine wp_getR k282_24 (by decide) hM.o rfl ?_
        refine wp_iconst 2 k282_27 (by decide) ?_
        refine wp_iaload k282_28 (by decide) (hM.a313) (by decide) 2 (by decide) _ rfl ?_
        refine wp_istore_n (L1 := [_, _, _, _, _]) k282_29 rfl rfl ?_
        refine wp_aload_n k282_30 rfl rfl ?_
        refine wp_iload_n k282_31 rfl rfl ?_
        refine wp_cv (st2 := []) k282_32 ER (by decide) rfl rfl rfl rfl (by decide) hM.o (by decide) ?_
        refine wp_istore (L1 := [_, _, _, _, _]) k282_35 rfl rfl ?_
        refine wp_aload_n k282_37 rfl rfl ?_
        refine wp_getR k282_38 (by decide) hM.o rfl ?_
        refine wp_iconst 2 k282_41 (by decide) ?_
        refine wp_iaload k282_42 (by decide) (hM.a313) (by decide) 2 (by decide) _ rfl ?_
        refine wp_iload_n k282_43 rfl rfl ?_
        refine wp_if_icmp_ne k282_44 (fun c44 => ?_) (fun c44 => ?_)
        · refine wp_iinc (L1 := [_, _, _, _, _]) 1 k282_49 rfl (by decide) rfl ?_
          refine wp_goto k282_52 ?_
          have hne : mm_un ((roV W n rw x).1 313 2) ≠ mm_un (W.1 313 2) := fun q => c44 (un_inj q)
          exact ih _ _ _ _ (by omega) (f.t fa_ro)
        · refine wp_iconst (-1) k282_47 (by decide) ?_
          first
            | exact wp_retI k282_48 rfl ⟨_, _, rfl, rfl, f.t fa_ro⟩
            | exact wp_retI k282_48 rfl ⟨_, _, rfl, rfl, f⟩
  refine ev_of P282 rfl ?_
  refine wp_iconst 0 k282_0 (by decide) ?_
  refine wp_istore_n (L1 := [_, _, _, _, _]) k282_1 rfl rfl ?_
  exact key _ A _ _ _ (Nat.lt_succ_self _) (FrA.r A)
theorem q_roundsTo {S : ww_S} {sh : List mm_C} {V : hV} (hM : MS sh) {n nf rw : Nat} (hS : SG V n nf rw) {x : Int32} : EVQ S 13 283 [.ref 312, .int x] (hH sh V) (qI sh V) := by
  obtain ⟨hn, h5, hnf, h5f, hrw, h32⟩ := hS
  refine ev_of P283 rfl ?_
  obtain ⟨v9, g9, ER, y9, B, h1, h2, fB⟩ := e_roundsNow (S := S) (A := cpV (up V 312 6 (bI (!inI x 0 (V.1 313 0 - 1)))) 313 0 316 0 564) hM (SG.cg try_313 ⟨hn, h5, hnf, h5f, hrw, h32⟩) (x := x)
  subst h1 h2
  refine wp_aload_n k283_0 rfl rfl ?_
  refine wp_aload_n k283_1 rfl rfl ?_
  refine wp_iload_n k283_2 rfl rfl ?_
  refine wp_cv (st2 := [_]) k283_3 (e_isFact hM) (by decide) rfl rfl rfl rfl (by decide) hM.o (by decide) ?_
  refine wp_cv (st2 := []) k283_6 (e_passes hM) (by decide) rfl rfl rfl rfl (by decide) hM.o (by decide) ?_
  refine wp_if_ne k283_9 (fun c9 => ?_) (fun c9 => ?_)
  · refine wp_aload_n k283_14 rfl rfl ?_
    refine wp_cvn (st2 := []) k283_15 (e_tries hM) (by decide) rfl rfl rfl rfl (by decide) hM.o (by decide) ?_
    refine wp_aload_n k283_18 rfl rfl ?_
    refine wp_aload_n k283_19 rfl rfl ?_
    refine wp_iload_n k283_20 rfl rfl ?_
    refine wp_cv (st2 := [_]) k283_21 ER (by decide) rfl rfl rfl rfl (by decide) hM.o (by decide) ?_
    refine wp_cv (st2 := []) k283_24 (e_back hM) (by decide) rfl rfl rfl rfl (by decide) hM.o (by decide) ?_
    first
      | exact wp_retI k283_27 rfl ⟨_, _, rfl, rfl, back_q fq_6 fB⟩
      | exact wp_retI k283_27 rfl ⟨_, _, rfl, rfl, fq_6⟩
  · refine wp_iconst 0 k283_12 (by decide) ?_
    first
      | exact wp_retI k283_13 rfl ⟨_, _, rfl, rfl, back_q fq_6 fB⟩
      | exact wp_retI k283_13 rfl ⟨_, _, rfl, rfl, fq_6⟩
theorem l_best {S : ww_S} {sh : List mm_C} {V : hV} (hM : MS sh) {n nf rw : Nat} (hS : SG V n nf rw) : ∀ (g i : Nat) (x1 : Int32) (x2 : Int32) (y4 : Option Value) (y5 : Option Value), g + i = nf → WP S 6 mm_m284 12 [some (.ref 312), some (.int x1), some (.int x2), some (.int (Int32.ofNat i)), y4, y5] [] (hH sh ((up V 312 6 0))) (qI sh V) := by
  obtain ⟨hn, h5, hnf, h5f, hrw, h32⟩ := hS
  intro g
  induction g with
  | zero =>
    intro i x1 x2 y4 y5 hi
    have hi : nf = i := by omega
    subst hi
    have EQ := e_facts (S := S) (V := (up V 312 6 0)) hM
    rw [show ((up V 312 6 0)).1 313 0 = Int32.ofNat nf from hnf] at EQ
    refine wp_iload_n k284_12 rfl rfl ?_
    refine wp_aload_n k284_13 rfl rfl ?_
    refine wp_cv (st2 := [_]) k284_14 EQ (by decide) rfl rfl rfl rfl (by decide) hM.o (by decide) ?_
    refine wp_if_icmp_ge_T k284_17 (i_nlt (Nat.le_refl _) (by omega)) ?_
    refine wp_iload_n k284_82 rfl rfl ?_
    exact wp_retI k284_83 rfl ⟨_, _, rfl, rfl, (by first | exact fq_6 | exact fq_6.t fq_ask | exact fq_ask | exact FrQ.r _ | exact (fq_6.t fq_8) | exact fq_8)⟩
  | succ g ih =>
    intro i x1 x2 y4 y5 hi
    have EQ := e_facts (S := S) (V := (up V 312 6 0)) hM
    rw [show ((up V 312 6 0)).1 313 0 = Int32.ofNat nf from hnf] at EQ
    refine wp_iload_n k284_12 rfl rfl ?_
    refine wp_aload_n k284_13 rfl rfl ?_
    refine wp_cv (st2 := [_]) k284_14 EQ (by decide) rfl rfl rfl rfl (by decide) hM.o (by decide) ?_
    refine wp_if_icmp_ge_F k284_17 (i_lt (by omega) (by omega)) ?_
    refine wp_aload_n k284_20 rfl rfl ?_
    refine wp_getR k284_21 (by decide) hM.o rfl ?_
    refine wp_iconst 4 k284_24 (by decide) ?_
    refine wp_iaload k284_25 (by decide) (hM.a313) (by decide) 4 (by decide) _ rfl ?_
    refine wp_iload_n k284_26 rfl rfl ?_
    refine wp_cs (st2 := []) k284_27 (e_has) (by decide) rfl rfl rfl (by decide) ?_
    refine wp_if_eq k284_30 (fun c30 => ?_) (fun c30 => ?_)
    · refine wp_iload_n k284_40 rfl rfl ?_
      refine wp_cs (st2 := []) k284_41 (e_worldsOf) (by decide) rfl rfl rfl (by decide) ?_
      refine wp_iconst (-1) k284_44 (by decide) ?_
      refine wp_ixor k284_45 ?_
      refine wp_istore (L1 := [_, _, _, _, _, _]) k284_46 rfl rfl ?_
      refine wp_aload_n k284_48 rfl rfl ?_
      refine wp_getR k284_49 (by decide) hM.o rfl ?_
      refine wp_iconst 2 k284_52 (by decide) ?_
      refine wp_iaload k284_53 (by decide) (hM.a313) (by decide) 2 (by decide) _ rfl ?_
      refine wp_iload k284_54 rfl rfl ?_
      refine wp_iand k284_56 ?_
      refine wp_cs (st2 := []) k284_57 (e_bits) (by decide) rfl rfl rfl (by decide) ?_
      refine wp_istore (L1 := [_, _, _, _, _, _]) k284_60 rfl rfl ?_
      refine wp_iload k284_62 rfl rfl ?_
      refine wp_iload_n k284_64 rfl rfl ?_
      refine wp_if_icmp_lt k284_65 (fun c65 => ?_) (fun c65 => ?_)
      · refine wp_iload_n k284_71 rfl rfl ?_
        refine wp_istore_n (L1 := [_, _, _, _, _, _]) k284_72 rfl rfl ?_
        refine wp_iload k284_73 rfl rfl ?_
        refine wp_istore_n (L1 := [_, _, _, _, _, _]) k284_75 rfl rfl ?_
        refine wp_iinc (L1 := [_, _, _, _, _, _]) 1 k284_76 rfl (by decide) rfl ?_
        refine wp_goto k284_79 ?_
        rw [i_succ]
        exact ih (i + 1) _ _ _ _ (by omega)
      · refine wp_goto k284_68 ?_
        refine wp_iinc (L1 := [_, _, _, _, _, _]) 1 k284_76 rfl (by decide) rfl ?_
        refine wp_goto k284_79 ?_
        rw [i_succ]
        exact ih (i + 1) _ _ _ _ (by omega)
    · refine wp_iload_n k284_33 rfl rfl ?_
      refine wp_cs (st2 := []) k284_34 (e_worldsOf) (by decide) rfl rfl rfl (by decide) ?_
      refine wp_goto k284_37 ?_
      refine wp_istore (L1 := [_, _, _, _, _, _]) k284_46 rfl rfl ?_
      refine wp_aload_n k284_48 rfl rfl ?_
      refine wp_getR k284_49 (by decide) hM.o rfl ?_
      refine wp_iconst 2 k284_52 (by decide) ?_
      refine wp_iaload k284_53 (by decide) (hM.a313) (by decide) 2 (by decide) _ rfl ?_
      refine wp_iload k284_54 rfl rfl ?_
      refine wp_iand k284_56 ?_
      refine wp_cs (st2 := []) k284_57 (e_bits) (by decide) rfl rfl rfl (by decide) ?_
      refine wp_istore (L1 := [_, _, _, _, _, _]) k284_60 rfl rfl ?_
      refine wp_iload k284_62 rfl rfl ?_
      refine wp_iload_n k284_64 rfl rfl ?_
      refine wp_if_icmp_lt k284_65 (fun c65 => ?_) (fun c65 => ?_)
      · refine wp_iload_n k284_71 rfl rfl ?_
        refine wp_istore_n (L1 := [_, _, _, _, _, _]) k284_72 rfl rfl ?_
        refine wp_iload k284_73 rfl rfl ?_
        refine wp_istore_n (L1 := [_, _, _, _, _, _]) k284_75 rfl rfl ?_
        refine wp_iinc (L1 := [_, _, _, _, _, _]) 1 k284_76 rfl (by decide) rfl ?_
        refine wp_goto k284_79 ?_
        rw [i_succ]
        exact ih (i + 1) _ _ _ _ (by omega)
      · refine wp_goto k284_68 ?_
        refine wp_iinc (L1 := [_, _, _, _, _, _]) 1 k284_76 rfl (by decide) rfl ?_
        refine wp_goto k284_79 ?_
        rw [i_succ]
        exact ih (i + 1) _ _ _ _ (by omega)
theorem q_bestFact {S : ww_S} {sh : List mm_C} {V : hV} (hM : MS sh) {n nf rw : Nat} (hS : SG V n nf rw) : EVQ S 7 284 [.ref 312] (hH sh V) (qI sh V) := by
  obtain ⟨hn, h5, hnf, h5f, hrw, h32⟩ := hS
  refine ev_of P284 rfl ?_
  refine wp_aload_n k284_0 rfl rfl ?_
  refine wp_iconst 0 k284_1 (by decide) ?_
  refine wp_putI k284_2 (by decide) hM.o rfl rfl rfl ?_
  refine wp_iconst 0 k284_5 (by decide) ?_
  refine wp_istore_n (L1 := [_, _, _, _, _, _]) k284_6 rfl rfl ?_
  refine wp_bipush 33 k284_7 (by decide) ?_
  refine wp_istore_n (L1 := [_, _, _, _, _, _]) k284_9 rfl rfl ?_
  refine wp_iconst 0 k284_10 (by decide) ?_
  refine wp_istore_n (L1 := [_, _, _, _, _, _]) k284_11 rfl rfl ?_
  exact l_best (S := S) hM ⟨hn, h5, hnf, h5f, hrw, h32⟩ nf 0 _ _ _ _ rfl
theorem e_agreeing {S : ww_S} {sh : List mm_C} {W : hV} (hM : MS sh) {x1 : Int32} : ∃ x, EV S 2 285 [.ref 312, .int x1] (hH sh W) (.inl (some (.int x))) (hH sh W) := by
  have key : ∀ (g i : Nat) (x : Int32), g + i = 32 → WP S 1 mm_m285 4 [some (.ref 312), some (.int x1), some (.int x), some (.int (Int32.ofNat i))] [] (hH sh W) (fun v g => ∃ x : Int32, v = .inl (some (.int x)) ∧ g = hH sh W) := by
    intro g
    induction g with
    | zero =>
      intro i x hi
      have hi : 32 = i := by omega
      subst hi
      refine wp_iload_n k285_4 rfl rfl ?_
      refine wp_bipush 32 k285_5 (by decide) ?_
      refine wp_if_icmp_ge_T k285_7 (i_nlt (k := 32) (n := 32) (by decide) (by decide)) ?_
      refine wp_iload_n k285_42 rfl rfl ?_
      exact wp_retI k285_43 rfl ⟨_, rfl, rfl⟩
    | succ g ih =>
      intro i x hi
      refine wp_iload_n k285_4 rfl rfl ?_
      refine wp_bipush 32 k285_5 (by decide) ?_
      refine wp_if_icmp_ge_F k285_7 (i_lt (n := 32) (by omega) (by decide)) ?_
      refine wp_iload_n k285_10 rfl rfl ?_
      refine wp_iload_n k285_11 rfl rfl ?_
      refine wp_aload_n k285_12 rfl rfl ?_
      refine wp_getR k285_13 (by decide) hM.o rfl ?_
      refine wp_iconst 4 k285_16 (by decide) ?_
      refine wp_iaload k285_17 (by decide) (hM.a313) (by decide) 4 (by decide) _ rfl ?_
      refine wp_ixor k285_18 ?_
      refine wp_iload_n k285_19 rfl rfl ?_
      refine wp_iand k285_20 ?_
      refine wp_if_ne k285_21 (fun c21 => ?_) (fun c21 => ?_)
      · refine wp_iconst 0 k285_28 (by decide) ?_
        refine wp_cs (st2 := [_]) k285_29 (e_truth) (by decide) rfl rfl rfl (by decide) ?_
        refine wp_iload_n k285_32 rfl rfl ?_
        refine wp_ishl k285_33 ?_
        refine wp_ior k285_34 ?_
        refine wp_istore_n (L1 := [_, _, _, _]) k285_35 rfl rfl ?_
        refine wp_iinc (L1 := [_, _, _, _]) 1 k285_36 rfl (by decide) rfl ?_
        refine wp_goto k285_39 ?_
        rw [i_succ]
        exact ih (i + 1) _ (by omega)
      · refine wp_iconst 1 k285_24 (by decide) ?_
        refine wp_goto k285_25 ?_
        refine wp_cs (st2 := [_]) k285_29 (e_truth) (by decide) rfl rfl rfl (by decide) ?_
        refine wp_iload_n k285_32 rfl rfl ?_
        refine wp_ishl k285_33 ?_
        refine wp_ior k285_34 ?_
        refine wp_istore_n (L1 := [_, _, _, _]) k285_35 rfl rfl ?_
        refine wp_iinc (L1 := [_, _, _, _]) 1 k285_36 rfl (by decide) rfl ?_
        refine wp_goto k285_39 ?_
        rw [i_succ]
        exact ih (i + 1) _ (by omega)
  have E : EVQ S 2 285 [.ref 312, .int x1] (hH sh W) (fun v g => ∃ x : Int32, v = .inl (some (.int x)) ∧ g = hH sh W) := by
    refine ev_of P285 rfl ?_
    refine wp_iconst 0 k285_0 (by decide) ?_
    refine wp_istore_n (L1 := [_, _, _, _]) k285_1 rfl rfl ?_
    refine wp_iconst 0 k285_2 (by decide) ?_
    refine wp_istore_n (L1 := [_, _, _, _]) k285_3 rfl rfl ?_
    exact key 32 0 _ rfl
  obtain ⟨v, g, e, x, h1, h2⟩ := E
  subst h1 h2
  exact ⟨x, e⟩
theorem l_least {S : ww_S} {sh : List mm_C} {V W : hV} (hM : MS sh) {n : Nat} (hn : W.1 313 1 = Int32.ofNat n) (h5 : n ≤ 5) (fq : FrQ V W) {rw p : Nat} (hrw : W.1 313 4 = Int32.ofNat rw) (h32 : rw < 32) (hp : p < 5) : ∀ (m : Nat) (x2 x3 : Int32) (y4 : Option Value), meb x3 < m → WP S 6 mm_m286 27 [some (.ref 312), some (.int (Int32.ofNat p)), some (.int x2), some (.int x3), y4] [] (hH sh W) (qI sh V) := by
  intro m
  induction m with
  | zero =>
    intro x2 x3 y4 hm
    exact absurd hm (Nat.not_lt_zero _)
  | succ m ih =>
    intro x2 x3 y4 hm
    obtain ⟨z, EG⟩ := e_agreeing (S := S) (W := W) hM (x1 := x3)
    refine wp_iload_n k286_27 rfl rfl ?_
    refine wp_if_lt k286_28 (fun c28 => ?_) (fun c28 => ?_)
    · refine wp_iload_n k286_90 rfl rfl ?_
      exact wp_retI k286_91 rfl ⟨_, _, rfl, rfl, fq⟩
    · refine wp_aload_n k286_31 rfl rfl ?_
      refine wp_iload_n k286_32 rfl rfl ?_
      refine wp_aload_n k286_33 rfl rfl ?_
      refine wp_getR k286_34 (by decide) hM.o rfl ?_
      refine wp_iconst 4 k286_37 (by decide) ?_
      refine wp_iaload k286_38 (by decide) (hM.a313) (by decide) 4 (by decide) (Int32.ofNat rw) hrw ?_
      refine wp_cv (st2 := []) k286_39 (e_alikeTo hM (p := p) (w := rw) (by omega) (by omega)) (by decide) rfl rfl rfl rfl (by decide) hM.o (by decide) ?_
      refine wp_aload_n k286_42 rfl rfl ?_
      refine wp_iload_n k286_43 rfl rfl ?_
      refine wp_cv (st2 := [_]) k286_44 EG (by decide) rfl rfl rfl rfl (by decide) hM.o (by decide) ?_
      refine wp_iand k286_47 ?_
      refine wp_iconst 1 k286_48 (by decide) ?_
      refine wp_aload_n k286_49 rfl rfl ?_
      refine wp_getR k286_50 (by decide) hM.o rfl ?_
      refine wp_iconst 4 k286_53 (by decide) ?_
      refine wp_iaload k286_54 (by decide) (hM.a313) (by decide) 4 (by decide) (Int32.ofNat rw) hrw ?_
      refine wp_ishl k286_55 ?_
      refine wp_if_icmp_ne k286_56 (fun c56 => ?_) (fun c56 => ?_)
      · refine wp_iconst 0 k286_63 (by decide) ?_
        refine wp_istore (L1 := [_, _, _, _, _]) k286_64 rfl rfl ?_
        refine wp_iload k286_66 rfl rfl ?_
        refine wp_if_eq_T k286_68 (by decide) ?_
        refine wp_iinc (L1 := [_, _, _, _, _]) (-1) k286_84 rfl (by decide) rfl ?_
        refine wp_goto k286_87 ?_
        exact ih _ _ _ (Nat.lt_of_lt_of_le (meb_s c28) (Nat.le_of_lt_succ hm))
      · refine wp_iconst 1 k286_59 (by decide) ?_
        refine wp_goto k286_60 ?_
        refine wp_istore (L1 := [_, _, _, _, _]) k286_64 rfl rfl ?_
        refine wp_iload k286_66 rfl rfl ?_
        refine wp_if_eq_F k286_68 (by decide) ?_
        refine wp_iload_n k286_71 rfl rfl ?_
        refine wp_cs (st2 := []) k286_72 (e_bits) (by decide) rfl rfl rfl (by decide) ?_
        refine wp_iload_n k286_75 rfl rfl ?_
        refine wp_cs (st2 := [_]) k286_76 (e_bits) (by decide) rfl rfl rfl (by decide) ?_
        refine wp_if_icmp_gt k286_79 (fun c79 => ?_) (fun c79 => ?_)
        · refine wp_iinc (L1 := [_, _, _, _, _]) (-1) k286_84 rfl (by decide) rfl ?_
          refine wp_goto k286_87 ?_
          exact ih _ _ _ (Nat.lt_of_lt_of_le (meb_s c28) (Nat.le_of_lt_succ hm))
        · refine wp_iload_n k286_82 rfl rfl ?_
          refine wp_istore_n (L1 := [_, _, _, _, _]) k286_83 rfl rfl ?_
          refine wp_iinc (L1 := [_, _, _, _, _]) (-1) k286_84 rfl (by decide) rfl ?_
          refine wp_goto k286_87 ?_
          exact ih _ _ _ (Nat.lt_of_lt_of_le (meb_s c28) (Nat.le_of_lt_succ hm))
theorem q_leastShown {S : ww_S} {sh : List mm_C} {V : hV} (hM : MS sh) {n nf rw : Nat} (hS : SG V n nf rw) {x : Int32} : EVQ S 7 286 [.ref 312, .int x] (hH sh V) (qI sh V) := by
  obtain ⟨hn, h5, hnf, h5f, hrw, h32⟩ := hS
  refine ev_of P286 rfl ?_
  by_cases hb : inI x 0 (V.1 313 1 - 1) = true
  · obtain ⟨k, hk, _, he⟩ := pe_of hn h5 hb
    subst he
    refine wp_aload_n k286_0 rfl rfl ?_
    refine wp_aload_n k286_1 rfl rfl ?_
    refine wp_iload_n k286_2 rfl rfl ?_
    refine wp_cv (st2 := [_]) k286_3 (e_isPerson hM) (by decide) rfl rfl rfl rfl (by decide) hM.o (by decide) ?_
    refine wp_cv (st2 := []) k286_6 (e_passes hM) (by decide) rfl rfl rfl rfl (by decide) hM.o (by decide) ?_
    refine wp_if_ne_T k286_9 (bI_n0.mpr hb) ?_
    refine wp_iconst 1 k286_14 (by decide) ?_
    refine wp_aload_n k286_15 rfl rfl ?_
    refine wp_cv (st2 := [_]) k286_16 (e_facts hM) (by decide) rfl rfl rfl rfl (by decide) hM.o (by decide) ?_
    refine wp_ishl k286_19 ?_
    refine wp_iconst 1 k286_20 (by decide) ?_
    refine wp_isub k286_21 ?_
    refine wp_istore_n (L1 := [_, _, _, _, _]) k286_22 rfl rfl ?_
    refine wp_iload_n k286_23 rfl rfl ?_
    refine wp_iconst 1 k286_24 (by decide) ?_
    refine wp_isub k286_25 ?_
    refine wp_istore_n (L1 := [_, _, _, _, _]) k286_26 rfl rfl ?_
    exact l_least (S := S) (V := V) hM (W := up V 312 6 _) hn h5 fq_6 hrw h32 hk _ _ _ _ (Nat.lt_succ_self _)
  · skip
    refine wp_aload_n k286_0 rfl rfl ?_
    refine wp_aload_n k286_1 rfl rfl ?_
    refine wp_iload_n k286_2 rfl rfl ?_
    refine wp_cv (st2 := [_]) k286_3 (e_isPerson hM) (by decide) rfl rfl rfl rfl (by decide) hM.o (by decide) ?_
    refine wp_cv (st2 := []) k286_6 (e_passes hM) (by decide) rfl rfl rfl rfl (by decide) hM.o (by decide) ?_
    refine wp_if_ne_F k286_9 (bI_0.mpr (Bool.eq_false_iff.mpr hb)) ?_
    refine wp_iconst 0 k286_12 (by decide) ?_
    exact wp_retI k286_13 rfl ⟨_, _, rfl, rfl, (by first | exact fq_6 | exact fq_6.t fq_ask | exact fq_ask | exact FrQ.r _ | exact (fq_6.t fq_8) | exact fq_8)⟩
theorem q_gap {S : ww_S} {sh : List mm_C} {V : hV} (hM : MS sh) {n nf rw : Nat} (hS : SG V n nf rw) : EVQ S 2 289 [.ref 312] (hH sh V) (qI sh V) := by
  obtain ⟨hn, h5, hnf, h5f, hrw, h32⟩ := hS
  refine ev_of P289 rfl ?_
  refine wp_aload_n k289_0 rfl rfl ?_
  refine wp_iconst 0 k289_1 (by decide) ?_
  refine wp_putI k289_2 (by decide) hM.o rfl rfl rfl ?_
  refine wp_aload_n k289_5 rfl rfl ?_
  refine wp_getR k289_6 (by decide) hM.o rfl ?_
  refine wp_iconst 3 k289_9 (by decide) ?_
  refine wp_iaload k289_10 (by decide) (hM.a313) (by decide) 3 (by decide) _ rfl ?_
  refine wp_aload_n k289_11 rfl rfl ?_
  refine wp_getR k289_12 (by decide) hM.o rfl ?_
  refine wp_iconst 2 k289_15 (by decide) ?_
  refine wp_iaload k289_16 (by decide) (hM.a313) (by decide) 2 (by decide) _ rfl ?_
  refine wp_cs (st2 := [_]) k289_17 (e_bits) (by decide) rfl rfl rfl (by decide) ?_
  refine wp_isub k289_20 ?_
  refine wp_aload_n k289_21 rfl rfl ?_
  refine wp_getR k289_22 (by decide) hM.o rfl ?_
  refine wp_bipush 13 k289_25 (by decide) ?_
  refine wp_iaload k289_27 (by decide) (hM.a313) (by decide) 13 (by decide) _ rfl ?_
  refine wp_isub k289_28 ?_
  exact wp_retI k289_29 rfl ⟨_, _, rfl, rfl, (by first | exact fq_6 | exact fq_6.t fq_ask | exact fq_ask | exact FrQ.r _ | exact (fq_6.t fq_8) | exact fq_8)⟩
theorem q_account {S : ww_S} {sh : List mm_C} {V : hV} (hM : MS sh) {n nf rw : Nat} (hS : SG V n nf rw) {y : Int32} : EVQ S 3 288 [.ref 312, .int y] (hH sh V) (qI sh V) := by
  obtain ⟨hn, h5, hnf, h5f, hrw, h32⟩ := hS
  refine ev_of P288 rfl ?_
  have EI : EV S 1 171 [.long y.toInt64, .long 0, .long (Int64.ofNat 6)] (hH sh V) (.inl (some (.int (bI (inI y 0 6))))) (hH sh V) := by
    rw [show Int64.ofNat 6 = Int32.toInt64 6 from by decide]
    exact e_inI
  by_cases hb : inI y 0 6 = true
  · obtain ⟨k, hk, he⟩ := inI_nat (n := 7) (by decide) (x := y) (by rw [show Int32.ofNat 7 - 1 = 6 from by decide]; exact hb)
    subst he
    refine wp_aload_n k288_0 rfl rfl ?_
    refine wp_iload_n k288_1 rfl rfl ?_
    refine wp_i2l k288_2 ?_
    refine wp_lconst 0 k288_3 (by decide) ?_
    refine wp_ldc2_w k288_4 ?_
    refine wp_cs (st2 := [_]) k288_7 EI (by decide) rfl rfl rfl (by decide) ?_
    refine wp_cv (st2 := []) k288_10 (e_passes hM) (by decide) rfl rfl rfl rfl (by decide) hM.o (by decide) ?_
    refine wp_if_eq_F k288_13 (bI_n0.mpr hb) ?_
    refine wp_aload_n k288_16 rfl rfl ?_
    refine wp_getR k288_17 (by decide) hM.o rfl ?_
    refine wp_bipush 8 k288_20 (by decide) ?_
    refine wp_iload_n k288_22 rfl rfl ?_
    refine wp_iadd k288_23 ?_
    refine wp_cast (show (8 : Int32) + Int32.ofNat (k) = Int32.ofNat (8 + k) from (Int32.ofNat_add 8 _).symm) ?_
    refine wp_iaload k288_24 (by decide) (hM.a313) (i_inO (by omega) (by decide)) (8 + k) (i_un (by omega)) _ rfl ?_
    refine wp_goto k288_25 ?_
    exact wp_retI k288_29 rfl ⟨_, _, rfl, rfl, (by first | exact fq_6 | exact fq_6.t fq_ask | exact fq_ask | exact FrQ.r _ | exact (fq_6.t fq_8) | exact fq_8)⟩
  · skip
    refine wp_aload_n k288_0 rfl rfl ?_
    refine wp_iload_n k288_1 rfl rfl ?_
    refine wp_i2l k288_2 ?_
    refine wp_lconst 0 k288_3 (by decide) ?_
    refine wp_ldc2_w k288_4 ?_
    refine wp_cs (st2 := [_]) k288_7 EI (by decide) rfl rfl rfl (by decide) ?_
    refine wp_cv (st2 := []) k288_10 (e_passes hM) (by decide) rfl rfl rfl rfl (by decide) hM.o (by decide) ?_
    refine wp_if_eq_T k288_13 (bI_0.mpr (Bool.eq_false_iff.mpr hb)) ?_
    refine wp_iconst 0 k288_28 (by decide) ?_
    exact wp_retI k288_29 rfl ⟨_, _, rfl, rfl, (by first | exact fq_6 | exact fq_6.t fq_ask | exact fq_ask | exact FrQ.r _ | exact (fq_6.t fq_8) | exact fq_8)⟩
theorem q_log {S : ww_S} {sh : List mm_C} {V : hV} (hM : MS sh) {n nf rw : Nat} (hS : SG V n nf rw) {lg : Nat} (hL : V.1 313 6 = Int32.ofNat lg) (h20 : lg ≤ 20) {x y : Int32} : EVQ S 3 287 [.ref 312, .int x, .int y] (hH sh V) (qI sh V) := by
  obtain ⟨hn, h5, hnf, h5f, hrw, h32⟩ := hS
  refine ev_of P287 rfl ?_
  have EI : EV S 1 171 [.long y.toInt64, .long 0, .long (Int64.ofNat 2)] (hH sh V) (.inl (some (.int (bI (inI y 0 2))))) (hH sh V) := by
    rw [show Int64.ofNat 2 = Int32.toInt64 2 from by decide]
    exact e_inI
  by_cases hb : inI y 0 2 = true
  · obtain ⟨k, hk, he⟩ := inI_nat (n := 3) (by decide) (x := y) (by rw [show Int32.ofNat 3 - 1 = 2 from by decide]; exact hb)
    have E2 : EV S 1 171 [.long x.toInt64, .long 0, .long (V.1 313 6 - 1).toInt64] (hH sh (up V 312 6 (bI (!inI y 0 2)))) (.inl (some (.int (bI (inI x 0 (V.1 313 6 - 1)))))) (hH sh (up V 312 6 (bI (!inI y 0 2)))) := e_inI
    by_cases hb2 : inI x 0 (V.1 313 6 - 1) = true
    · have hb3 := hb2
      rw [hL] at hb3
      obtain ⟨i, hi, he2⟩ := inI_nat (n := lg) (by omega) hb3
      subst he he2
      refine wp_aload_n k287_0 rfl rfl ?_
      refine wp_iload_n k287_1 rfl rfl ?_
      refine wp_i2l k287_2 ?_
      refine wp_lconst 0 k287_3 (by decide) ?_
      refine wp_ldc2_w k287_4 ?_
      refine wp_cs (st2 := [_]) k287_7 EI (by decide) rfl rfl rfl (by decide) ?_
      refine wp_cv (st2 := []) k287_10 (e_passes hM) (by decide) rfl rfl rfl rfl (by decide) hM.o (by decide) ?_
      refine wp_if_ne_T k287_13 (bI_n0.mpr hb) ?_
      refine wp_iload_n k287_18 rfl rfl ?_
      refine wp_i2l k287_19 ?_
      refine wp_lconst 0 k287_20 (by decide) ?_
      refine wp_aload_n k287_21 rfl rfl ?_
      refine wp_getR k287_22 (by decide) hM.o rfl ?_
      refine wp_bipush 6 k287_25 (by decide) ?_
      refine wp_iaload k287_27 (by decide) (hM.a313) (by decide) 6 (by decide) _ rfl ?_
      refine wp_iconst 1 k287_28 (by decide) ?_
      refine wp_isub k287_29 ?_
      refine wp_i2l k287_30 ?_
      refine wp_cs (st2 := []) k287_31 E2 (by decide) rfl rfl rfl (by decide) ?_
      refine wp_if_eq_F k287_34 (bI_n0.mpr hb2) ?_
      refine wp_aload_n k287_37 rfl rfl ?_
      refine wp_getR k287_38 (by decide) hM.o rfl ?_
      refine wp_bipush 16 k287_41 (by decide) ?_
      refine wp_iconst 3 k287_43 (by decide) ?_
      refine wp_iload_n k287_44 rfl rfl ?_
      refine wp_imul k287_45 ?_
      refine wp_cast (show (3 : Int32) * Int32.ofNat (i) = Int32.ofNat (3 * i) from (Int32.ofNat_mul 3 _).symm) ?_
      refine wp_iadd k287_46 ?_
      refine wp_cast (show (16 : Int32) + Int32.ofNat (3 * i) = Int32.ofNat (16 + (3 * i)) from (Int32.ofNat_add 16 _).symm) ?_
      refine wp_iload_n k287_47 rfl rfl ?_
      refine wp_iadd k287_48 ?_
      refine wp_cast (i_add _ _) ?_
      refine wp_iaload k287_49 (by decide) (hM.a313) (i_inO (by omega) (by decide)) ((16 + (3 * i)) + k) (i_un (by omega)) _ rfl ?_
      refine wp_goto k287_50 ?_
      exact wp_retI k287_54 rfl ⟨_, _, rfl, rfl, (by first | exact fq_6 | exact fq_6.t fq_ask | exact fq_ask | exact FrQ.r _ | exact (fq_6.t fq_8) | exact fq_8)⟩
    · skip
      refine wp_aload_n k287_0 rfl rfl ?_
      refine wp_iload_n k287_1 rfl rfl ?_
      refine wp_i2l k287_2 ?_
      refine wp_lconst 0 k287_3 (by decide) ?_
      refine wp_ldc2_w k287_4 ?_
      refine wp_cs (st2 := [_]) k287_7 EI (by decide) rfl rfl rfl (by decide) ?_
      refine wp_cv (st2 := []) k287_10 (e_passes hM) (by decide) rfl rfl rfl rfl (by decide) hM.o (by decide) ?_
      refine wp_if_ne_T k287_13 (bI_n0.mpr hb) ?_
      refine wp_iload_n k287_18 rfl rfl ?_
      refine wp_i2l k287_19 ?_
      refine wp_lconst 0 k287_20 (by decide) ?_
      refine wp_aload_n k287_21 rfl rfl ?_
      refine wp_getR k287_22 (by decide) hM.o rfl ?_
      refine wp_bipush 6 k287_25 (by decide) ?_
      refine wp_iaload k287_27 (by decide) (hM.a313) (by decide) 6 (by decide) _ rfl ?_
      refine wp_iconst 1 k287_28 (by decide) ?_
      refine wp_isub k287_29 ?_
      refine wp_i2l k287_30 ?_
      refine wp_cs (st2 := []) k287_31 E2 (by decide) rfl rfl rfl (by decide) ?_
      refine wp_if_eq_T k287_34 (bI_0.mpr (Bool.eq_false_iff.mpr hb2)) ?_
      refine wp_iconst (-1) k287_53 (by decide) ?_
      exact wp_retI k287_54 rfl ⟨_, _, rfl, rfl, (by first | exact fq_6 | exact fq_6.t fq_ask | exact fq_ask | exact FrQ.r _ | exact (fq_6.t fq_8) | exact fq_8)⟩
  · skip
    refine wp_aload_n k287_0 rfl rfl ?_
    refine wp_iload_n k287_1 rfl rfl ?_
    refine wp_i2l k287_2 ?_
    refine wp_lconst 0 k287_3 (by decide) ?_
    refine wp_ldc2_w k287_4 ?_
    refine wp_cs (st2 := [_]) k287_7 EI (by decide) rfl rfl rfl (by decide) ?_
    refine wp_cv (st2 := []) k287_10 (e_passes hM) (by decide) rfl rfl rfl rfl (by decide) hM.o (by decide) ?_
    refine wp_if_ne_F k287_13 (bI_0.mpr (Bool.eq_false_iff.mpr hb)) ?_
    refine wp_iconst 0 k287_16 (by decide) ?_
    exact wp_retI k287_17 rfl ⟨_, _, rfl, rfl, (by first | exact fq_6 | exact fq_6.t fq_ask | exact fq_ask | exact FrQ.r _ | exact (fq_6.t fq_8) | exact fq_8)⟩
end M51
