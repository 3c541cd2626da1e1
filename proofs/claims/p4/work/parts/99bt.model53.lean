section M53
/-! ===== the reference: acts called from outside; undo, save, restore; append, truncate ===== -/
theorem e_tried {S : ww_S} {sh : List mm_C} {V : hV} (hM : MS sh) {b : Bool} : EV S 2 292 [.ref 312, .int (bI b)] (hH sh V) (.inl (some (.int (bI b)))) (hH sh (if b = true then cpV V 313 0 315 0 564 else V)) := by
  have EC := e_copies (S := S) (sh := sh) (V := V) (f := 313) (t := 315) (a := 0) (b := 0) (by decide) (by decide) hM.a313 hM.a315 (by decide) (by decide) (by decide) (by decide) (by decide)
  refine ev_qe P292 rfl ?_
  cases b with
  | true =>
    rw [if_pos rfl]
    refine wp_iload_n k292_0 rfl rfl ?_
    refine wp_if_eq_F k292_1 (by decide) ?_
    refine wp_aload_n k292_4 rfl rfl ?_
    refine wp_getR k292_5 (by decide) hM.o rfl ?_
    refine wp_iconst 0 k292_8 (by decide) ?_
    refine wp_aload_n k292_9 rfl rfl ?_
    refine wp_getR k292_10 (by decide) hM.o rfl ?_
    refine wp_iconst 0 k292_13 (by decide) ?_
    refine wp_csn (st2 := []) k292_14 EC (by decide) rfl rfl rfl (by decide) ?_
    refine wp_iload_n k292_17 rfl rfl ?_
    exact wp_retz (b := true) k292_18 rfl rfl rfl
  | false =>
    rw [if_neg (by decide)]
    refine wp_iload_n k292_0 rfl rfl ?_
    refine wp_if_eq_T k292_1 rfl ?_
    refine wp_iload_n k292_17 rfl rfl ?_
    exact wp_retz (b := false) k292_18 rfl rfl rfl
theorem e_done {S : ww_S} {sh : List mm_C} {V : hV} (hM : MS sh) {pm : Nat} (hp : V.1 312 5 = Int32.ofNat pm) (h8 : pm ≤ 8) {x : Int32} : EV S 4 293 [.ref 312, .int x] (hH sh V) (.inl (some (.int x))) (hH sh (if x < 0 then V else keW 315 V pm)) := by
  have EK := e_keepsA (S := S) (V := V) hM (ar := 315) ⟨by decide, hM.a315, by decide, by decide⟩ (by decide) hp h8
  refine ev_qe P293 rfl ?_
  by_cases c : x < 0
  · rw [if_pos c]
    refine wp_iload_n k293_0 rfl rfl ?_
    refine wp_if_lt_T k293_1 c ?_
    refine wp_iload_n k293_12 rfl rfl ?_
    exact wp_reti k293_13 rfl rfl rfl
  · rw [if_neg c]
    refine wp_iload_n k293_0 rfl rfl ?_
    refine wp_if_lt_F k293_1 c ?_
    refine wp_aload_n k293_4 rfl rfl ?_
    refine wp_aload_n k293_5 rfl rfl ?_
    refine wp_getR k293_6 (by decide) hM.o rfl ?_
    refine wp_cvn (st2 := []) k293_9 EK (by decide) rfl rfl rfl rfl (by decide) hM.o (by decide) ?_
    refine wp_iload_n k293_12 rfl rfl ?_
    exact wp_reti k293_13 rfl rfl rfl
theorem r_announce {S : ww_S} {sh : List mm_C} {V : hV} (hM : MS sh) (hI : RI V) : EVQ S 12 294 [.ref 312] (hH sh V) (rP sh V (V.1 312 10)) := by
  obtain ⟨l, pm, ol, bq, g1, g2, g3, g4, g5, g6, g7, g8, g9, g10⟩ := hI
  have hI : RI V := ⟨l, pm, ol, bq, g1, g2, g3, g4, g5, g6, g7, g8, g9, g10⟩
  obtain ⟨nf, n, rw, lg, m, cc, hnf, h5f, hn, hn1, h5, hrw, h32, hlg, hlg2, hfi, hc1, hc2, hTF, hnm, hre, hrf⟩ := g9
  have hF : FOK V n 313 320 m := hTF.fok h5 h5f
  refine ev_of P294 rfl ?_
  have hnA : (cpV (up V 312 6 (bI (!true))) 313 0 315 0 564).1 313 1 = Int32.ofNat n := (ovr_ne (up V 312 6 (bI (!true))) _ (by decide) 1).trans hn
  have hrA : (cpV (up V 312 6 (bI (!true))) 313 0 315 0 564).1 313 4 = Int32.ofNat rw := (ovr_ne (up V 312 6 (bI (!true))) _ (by decide) 4).trans hrw
  have hFA : FOK (cpV (up V 312 6 (bI (!true))) 313 0 315 0 564) n 313 320 m := hF.s3 (funext fun j => ovr_ne (up V 312 6 (bI (!true))) _ (by decide) j)
  have ET := e_tried (S := S) (V := (up V 312 6 (bI (!true)))) hM (b := true)
  rw [if_pos rfl] at ET
  have EA := e_announceNow (S := S) (V := (cpV (up V 312 6 (bI (!true))) 313 0 315 0 564)) hM hnA h5 (AOK.s hM) (b := 320) (by decide) hFA
  obtain ⟨p2, hp2, hp3, r1, r2, r3, r4, r5, r6⟩ := act_ri (B := (anF (cpV (up V 312 6 (bI (!true))) 313 0 315 0 564) 313 n 320 m).2) hI (fq_6 (x := (bI (!true)))) (fs_an hrA h32)
  have ED := fun z9 : Int32 => e_done (S := S) (V := (anF (cpV (up V 312 6 (bI (!true))) 313 0 315 0 564) 313 n 320 m).2) hM hp3 hp2 (x := z9)
  have LF : ∀ (u9 w9 : Int32), rP sh V (V.1 312 10) (.inl (some (.int w9))) (hH sh (if u9 < 0 then (anF (cpV (up V 312 6 (bI (!true))) 313 0 315 0 564) 313 n 320 m).2 else keW 315 (anF (cpV (up V 312 6 (bI (!true))) 313 0 315 0 564) 313 n 320 m).2 p2)) := by
    intro u9 w9
    split
    · exact ⟨w9, _, rfl, rfl, r1, r3, r5⟩
    · exact ⟨w9, _, rfl, rfl, r2, r4, r6⟩
  refine wp_aload_n k294_0 rfl rfl ?_
  refine wp_aload_n k294_1 rfl rfl ?_
  refine wp_iconst 1 k294_2 (by decide) ?_
  refine wp_cv (st2 := [_]) k294_3 (e_passes hM (b := true)) (by decide) rfl rfl rfl rfl (by decide) hM.o (by decide) ?_
  refine wp_cv (st2 := []) k294_6 ET (by decide) rfl rfl rfl rfl (by decide) hM.o (by decide) ?_
  refine wp_if_eq_F k294_9 (by decide) ?_
  refine wp_aload_n k294_12 rfl rfl ?_
  refine wp_aload_n k294_13 rfl rfl ?_
  refine wp_aload_n k294_14 rfl rfl ?_
  refine wp_getR k294_15 (by decide) hM.o rfl ?_
  refine wp_sipush 320 k294_18 (by decide) ?_
  refine wp_cv (st2 := [_]) k294_21 EA (by decide) rfl rfl rfl rfl (by decide) hM.o (by decide) ?_
  refine wp_cv (st2 := []) k294_24 (ED _) (by decide) rfl rfl rfl rfl (by decide) hM.o (by decide) ?_
  refine wp_goto k294_27 ?_
  exact wp_retI k294_31 rfl (LF _ _)
theorem r_say {S : ww_S} {sh : List mm_C} {V : hV} (hM : MS sh) (hI : RI V) {x : Int32} : EVQ S 12 295 [.ref 312, .int x] (hH sh V) (rP sh V (V.1 312 10)) := by
  obtain ⟨l, pm, ol, bq, g1, g2, g3, g4, g5, g6, g7, g8, g9, g10⟩ := hI
  have hI : RI V := ⟨l, pm, ol, bq, g1, g2, g3, g4, g5, g6, g7, g8, g9, g10⟩
  obtain ⟨nf, n, rw, lg, m, cc, hnf, h5f, hn, hn1, h5, hrw, h32, hlg, hlg2, hfi, hc1, hc2, hTF, hnm, hre, hrf⟩ := g9
  have hF : FOK V n 313 320 m := hTF.fok h5 h5f
  refine ev_of P295 rfl ?_
  by_cases hb : inI x 0 (V.1 313 1 - 1) = true
  · obtain ⟨k, hk, _, he⟩ := pe_of hn h5 hb
    have EP := e_isPerson (S := S) (V := V) hM (f := x)
    rw [hb] at EP
    subst he
    have hnA : (cpV (up V 312 6 (bI (!true))) 313 0 315 0 564).1 313 1 = Int32.ofNat n := (ovr_ne (up V 312 6 (bI (!true))) _ (by decide) 1).trans hn
    have hrA : (cpV (up V 312 6 (bI (!true))) 313 0 315 0 564).1 313 4 = Int32.ofNat rw := (ovr_ne (up V 312 6 (bI (!true))) _ (by decide) 4).trans hrw
    have hFA : FOK (cpV (up V 312 6 (bI (!true))) 313 0 315 0 564) n 313 320 m := hF.s3 (funext fun j => ovr_ne (up V 312 6 (bI (!true))) _ (by decide) j)
    have ET := e_tried (S := S) (V := (up V 312 6 (bI (!true)))) hM (b := true)
    rw [if_pos rfl] at ET
    have EA := e_sayNow (S := S) (V := (cpV (up V 312 6 (bI (!true))) 313 0 315 0 564)) hM hnA h5 (AOK.s hM) (b := 320) (by decide) hFA hk
    obtain ⟨p2, hp2, hp3, r1, r2, r3, r4, r5, r6⟩ := act_ri (B := (saF (cpV (up V 312 6 (bI (!true))) 313 0 315 0 564) 313 k n 320 m).2) hI (fq_6 (x := (bI (!true)))) (fs_sa hrA h32)
    have ED := fun z9 : Int32 => e_done (S := S) (V := (saF (cpV (up V 312 6 (bI (!true))) 313 0 315 0 564) 313 k n 320 m).2) hM hp3 hp2 (x := z9)
    have LF : ∀ (u9 w9 : Int32), rP sh V (V.1 312 10) (.inl (some (.int w9))) (hH sh (if u9 < 0 then (saF (cpV (up V 312 6 (bI (!true))) 313 0 315 0 564) 313 k n 320 m).2 else keW 315 (saF (cpV (up V 312 6 (bI (!true))) 313 0 315 0 564) 313 k n 320 m).2 p2)) := by
      intro u9 w9
      split
      · exact ⟨w9, _, rfl, rfl, r1, r3, r5⟩
      · exact ⟨w9, _, rfl, rfl, r2, r4, r6⟩
    refine wp_aload_n k295_0 rfl rfl ?_
    refine wp_aload_n k295_1 rfl rfl ?_
    refine wp_aload_n k295_2 rfl rfl ?_
    refine wp_iload_n k295_3 rfl rfl ?_
    refine wp_cv (st2 := [_, _]) k295_4 EP (by decide) rfl rfl rfl rfl (by decide) hM.o (by decide) ?_
    refine wp_cv (st2 := [_]) k295_7 (e_passes hM (b := true)) (by decide) rfl rfl rfl rfl (by decide) hM.o (by decide) ?_
    refine wp_cv (st2 := []) k295_10 ET (by decide) rfl rfl rfl rfl (by decide) hM.o (by decide) ?_
    refine wp_if_eq_F k295_13 (by decide) ?_
    refine wp_aload_n k295_16 rfl rfl ?_
    refine wp_aload_n k295_17 rfl rfl ?_
    refine wp_iload_n k295_18 rfl rfl ?_
    refine wp_aload_n k295_19 rfl rfl ?_
    refine wp_getR k295_20 (by decide) hM.o rfl ?_
    refine wp_sipush 320 k295_23 (by decide) ?_
    refine wp_cv (st2 := [_]) k295_26 EA (by decide) rfl rfl rfl rfl (by decide) hM.o (by decide) ?_
    refine wp_cv (st2 := []) k295_29 (ED _) (by decide) rfl rfl rfl rfl (by decide) hM.o (by decide) ?_
    refine wp_goto k295_32 ?_
    exact wp_retI k295_36 rfl (LF _ _)
  · have EP := e_isPerson (S := S) (V := V) hM (f := x)
    rw [Bool.eq_false_iff.mpr hb] at EP
    have ET := e_tried (S := S) (V := up V 312 6 (bI (!false))) hM (b := false)
    rw [if_neg (by decide)] at ET
    refine wp_aload_n k295_0 rfl rfl ?_
    refine wp_aload_n k295_1 rfl rfl ?_
    refine wp_aload_n k295_2 rfl rfl ?_
    refine wp_iload_n k295_3 rfl rfl ?_
    refine wp_cv (st2 := [_, _]) k295_4 EP (by decide) rfl rfl rfl rfl (by decide) hM.o (by decide) ?_
    refine wp_cv (st2 := [_]) k295_7 (e_passes hM (b := false)) (by decide) rfl rfl rfl rfl (by decide) hM.o (by decide) ?_
    refine wp_cv (st2 := []) k295_10 ET (by decide) rfl rfl rfl rfl (by decide) hM.o (by decide) ?_
    refine wp_if_eq_T k295_13 rfl ?_
    refine wp_iconst 0 k295_35 (by decide) ?_
    exact wp_retI k295_36 rfl ⟨0, _, rfl, rfl, RI.q fq_6 hI, rfl, FrQ.z fq_6⟩
theorem r_whisper {S : ww_S} {sh : List mm_C} {V : hV} (hM : MS sh) (hI : RI V) {x : Int32} : EVQ S 12 296 [.ref 312, .int x] (hH sh V) (rP sh V (V.1 312 10)) := by
  obtain ⟨l, pm, ol, bq, g1, g2, g3, g4, g5, g6, g7, g8, g9, g10⟩ := hI
  have hI : RI V := ⟨l, pm, ol, bq, g1, g2, g3, g4, g5, g6, g7, g8, g9, g10⟩
  obtain ⟨nf, n, rw, lg, m, cc, hnf, h5f, hn, hn1, h5, hrw, h32, hlg, hlg2, hfi, hc1, hc2, hTF, hnm, hre, hrf⟩ := g9
  have hF : FOK V n 313 320 m := hTF.fok h5 h5f
  refine ev_of P296 rfl ?_
  have EP := e_arePersons (S := S) (V := V) hM (x := x)
  by_cases hb : apB V x = true
  · rw [hb] at EP
    have hnA : (cpV (up V 312 6 (bI (!true))) 313 0 315 0 564).1 313 1 = Int32.ofNat n := (ovr_ne (up V 312 6 (bI (!true))) _ (by decide) 1).trans hn
    have hrA : (cpV (up V 312 6 (bI (!true))) 313 0 315 0 564).1 313 4 = Int32.ofNat rw := (ovr_ne (up V 312 6 (bI (!true))) _ (by decide) 4).trans hrw
    have hFA : FOK (cpV (up V 312 6 (bI (!true))) 313 0 315 0 564) n 313 320 m := hF.s3 (funext fun j => ovr_ne (up V 312 6 (bI (!true))) _ (by decide) j)
    have ET := e_tried (S := S) (V := (up V 312 6 (bI (!true)))) hM (b := true)
    rw [if_pos rfl] at ET
    have EA := e_whisperNow (S := S) (V := (cpV (up V 312 6 (bI (!true))) 313 0 315 0 564)) hM hnA h5 (AOK.s hM) (b := 320) (by decide) hFA (set := x)
    obtain ⟨p2, hp2, hp3, r1, r2, r3, r4, r5, r6⟩ := act_ri (B := (whV (askF (cpV (up V 312 6 (bI (!true))) 313 0 315 0 564) n 313 320 m) (asX (cpV (up V 312 6 (bI (!true))) 313 0 315 0 564) 313 n 320 m) x n)) hI (fq_6 (x := (bI (!true)))) (fs_ask.t (fs_whV h5))
    have ED := fun z9 : Int32 => e_done (S := S) (V := (whV (askF (cpV (up V 312 6 (bI (!true))) 313 0 315 0 564) n 313 320 m) (asX (cpV (up V 312 6 (bI (!true))) 313 0 315 0 564) 313 n 320 m) x n)) hM hp3 hp2 (x := z9)
    have LF : ∀ (u9 w9 : Int32), rP sh V (V.1 312 10) (.inl (some (.int w9))) (hH sh (if u9 < 0 then (whV (askF (cpV (up V 312 6 (bI (!true))) 313 0 315 0 564) n 313 320 m) (asX (cpV (up V 312 6 (bI (!true))) 313 0 315 0 564) 313 n 320 m) x n) else keW 315 (whV (askF (cpV (up V 312 6 (bI (!true))) 313 0 315 0 564) n 313 320 m) (asX (cpV (up V 312 6 (bI (!true))) 313 0 315 0 564) 313 n 320 m) x n) p2)) := by
      intro u9 w9
      split
      · exact ⟨w9, _, rfl, rfl, r1, r3, r5⟩
      · exact ⟨w9, _, rfl, rfl, r2, r4, r6⟩
    by_cases hz : x = 0
    · skip
      have EF := e_tried (S := S) (V := up V 312 6 (bI (!false))) hM (b := false)
      rw [if_neg (by decide)] at EF
      refine wp_aload_n k296_0 rfl rfl ?_
      refine wp_aload_n k296_1 rfl rfl ?_
      refine wp_iload_n k296_2 rfl rfl ?_
      refine wp_if_eq_T k296_3 hz ?_
      refine wp_iconst 0 k296_18 (by decide) ?_
      refine wp_cv (st2 := [_]) k296_19 (e_passes hM (b := false)) (by decide) rfl rfl rfl rfl (by decide) hM.o (by decide) ?_
      refine wp_cv (st2 := []) k296_22 EF (by decide) rfl rfl rfl rfl (by decide) hM.o (by decide) ?_
      refine wp_if_eq_T k296_25 rfl ?_
      refine wp_iconst 0 k296_47 (by decide) ?_
      exact wp_retI k296_48 rfl ⟨0, _, rfl, rfl, RI.q fq_6 hI, rfl, FrQ.z fq_6⟩
    · skip
      refine wp_aload_n k296_0 rfl rfl ?_
      refine wp_aload_n k296_1 rfl rfl ?_
      refine wp_iload_n k296_2 rfl rfl ?_
      refine wp_if_eq_F k296_3 hz ?_
      refine wp_aload_n k296_6 rfl rfl ?_
      refine wp_iload_n k296_7 rfl rfl ?_
      refine wp_cv (st2 := [_, _]) k296_8 EP (by decide) rfl rfl rfl rfl (by decide) hM.o (by decide) ?_
      refine wp_if_eq_F k296_11 (by decide) ?_
      refine wp_iconst 1 k296_14 (by decide) ?_
      refine wp_goto k296_15 ?_
      refine wp_cv (st2 := [_]) k296_19 (e_passes hM (b := true)) (by decide) rfl rfl rfl rfl (by decide) hM.o (by decide) ?_
      refine wp_cv (st2 := []) k296_22 ET (by decide) rfl rfl rfl rfl (by decide) hM.o (by decide) ?_
      refine wp_if_eq_F k296_25 (by decide) ?_
      refine wp_aload_n k296_28 rfl rfl ?_
      refine wp_aload_n k296_29 rfl rfl ?_
      refine wp_iload_n k296_30 rfl rfl ?_
      refine wp_aload_n k296_31 rfl rfl ?_
      refine wp_getR k296_32 (by decide) hM.o rfl ?_
      refine wp_sipush 320 k296_35 (by decide) ?_
      refine wp_cv (st2 := [_]) k296_38 EA (by decide) rfl rfl rfl rfl (by decide) hM.o (by decide) ?_
      refine wp_cv (st2 := []) k296_41 (ED _) (by decide) rfl rfl rfl rfl (by decide) hM.o (by decide) ?_
      refine wp_goto k296_44 ?_
      exact wp_retI k296_48 rfl (LF _ _)
  · rw [Bool.eq_false_iff.mpr hb] at EP
    have EF := e_tried (S := S) (V := up V 312 6 (bI (!false))) hM (b := false)
    rw [if_neg (by decide)] at EF
    by_cases hz : x = 0
    · skip
      refine wp_aload_n k296_0 rfl rfl ?_
      refine wp_aload_n k296_1 rfl rfl ?_
      refine wp_iload_n k296_2 rfl rfl ?_
      refine wp_if_eq_T k296_3 hz ?_
      refine wp_iconst 0 k296_18 (by decide) ?_
      refine wp_cv (st2 := [_]) k296_19 (e_passes hM (b := false)) (by decide) rfl rfl rfl rfl (by decide) hM.o (by decide) ?_
      refine wp_cv (st2 := []) k296_22 EF (by decide) rfl rfl rfl rfl (by decide) hM.o (by decide) ?_
      refine wp_if_eq_T k296_25 rfl ?_
      refine wp_iconst 0 k296_47 (by decide) ?_
      exact wp_retI k296_48 rfl ⟨0, _, rfl, rfl, RI.q fq_6 hI, rfl, FrQ.z fq_6⟩
    · skip
      refine wp_aload_n k296_0 rfl rfl ?_
      refine wp_aload_n k296_1 rfl rfl ?_
      refine wp_iload_n k296_2 rfl rfl ?_
      refine wp_if_eq_F k296_3 hz ?_
      refine wp_aload_n k296_6 rfl rfl ?_
      refine wp_iload_n k296_7 rfl rfl ?_
      refine wp_cv (st2 := [_, _]) k296_8 EP (by decide) rfl rfl rfl rfl (by decide) hM.o (by decide) ?_
      refine wp_if_eq_T k296_11 rfl ?_
      refine wp_iconst 0 k296_18 (by decide) ?_
      refine wp_cv (st2 := [_]) k296_19 (e_passes hM (b := false)) (by decide) rfl rfl rfl rfl (by decide) hM.o (by decide) ?_
      refine wp_cv (st2 := []) k296_22 EF (by decide) rfl rfl rfl rfl (by decide) hM.o (by decide) ?_
      refine wp_if_eq_T k296_25 rfl ?_
      refine wp_iconst 0 k296_47 (by decide) ?_
      exact wp_retI k296_48 rfl ⟨0, _, rfl, rfl, RI.q fq_6 hI, rfl, FrQ.z fq_6⟩
theorem r_show {S : ww_S} {sh : List mm_C} {V : hV} (hM : MS sh) (hI : RI V) {x y : Int32} : EVQ S 12 297 [.ref 312, .int x, .int y] (hH sh V) (rP sh V (V.1 312 10)) := by
  obtain ⟨l, pm, ol, bq, g1, g2, g3, g4, g5, g6, g7, g8, g9, g10⟩ := hI
  have hI : RI V := ⟨l, pm, ol, bq, g1, g2, g3, g4, g5, g6, g7, g8, g9, g10⟩
  obtain ⟨nf, n, rw, lg, m, cc, hnf, h5f, hn, hn1, h5, hrw, h32, hlg, hlg2, hfi, hc1, hc2, hTF, hnm, hre, hrf⟩ := g9
  have hF : FOK V n 313 320 m := hTF.fok h5 h5f
  refine ev_of P297 rfl ?_
  have EF := e_isFact (S := S) (V := V) hM (f := y)
  have ETF := e_tried (S := S) (V := up V 312 6 (bI (!false))) hM (b := false)
  rw [if_neg (by decide)] at ETF
  by_cases hb : inI x 0 (V.1 313 1 - 1) = true
  · obtain ⟨k, hk, _, he⟩ := pe_of hn h5 hb
    have EP := e_isPerson (S := S) (V := V) hM (f := x)
    rw [hb] at EP
    subst he
    by_cases hb2 : inI y 0 (V.1 313 0 - 1) = true
    · rw [hb2] at EF
      have hnA : (cpV (up V 312 6 (bI (!true))) 313 0 315 0 564).1 313 1 = Int32.ofNat n := (ovr_ne (up V 312 6 (bI (!true))) _ (by decide) 1).trans hn
      have hrA : (cpV (up V 312 6 (bI (!true))) 313 0 315 0 564).1 313 4 = Int32.ofNat rw := (ovr_ne (up V 312 6 (bI (!true))) _ (by decide) 4).trans hrw
      have hFA : FOK (cpV (up V 312 6 (bI (!true))) 313 0 315 0 564) n 313 320 m := hF.s3 (funext fun j => ovr_ne (up V 312 6 (bI (!true))) _ (by decide) j)
      have ET := e_tried (S := S) (V := (up V 312 6 (bI (!true)))) hM (b := true)
      rw [if_pos rfl] at ET
      have EA := e_showNow (S := S) (V := (cpV (up V 312 6 (bI (!true))) 313 0 315 0 564)) hM hk (fact := y)
      obtain ⟨p2, hp2, hp3, r1, r2, r3, r4, r5, r6⟩ := act_ri (B := (shV (cpV (up V 312 6 (bI (!true))) 313 0 315 0 564) k y)) hI (fq_6 (x := (bI (!true)))) (fs_sh hk)
      have ED := fun z9 : Int32 => e_done (S := S) (V := (shV (cpV (up V 312 6 (bI (!true))) 313 0 315 0 564) k y)) hM hp3 hp2 (x := z9)
      have LF : ∀ (u9 w9 : Int32), rP sh V (V.1 312 10) (.inl (some (.int w9))) (hH sh (if u9 < 0 then (shV (cpV (up V 312 6 (bI (!true))) 313 0 315 0 564) k y) else keW 315 (shV (cpV (up V 312 6 (bI (!true))) 313 0 315 0 564) k y) p2)) := by
        intro u9 w9
        split
        · exact ⟨w9, _, rfl, rfl, r1, r3, r5⟩
        · exact ⟨w9, _, rfl, rfl, r2, r4, r6⟩
      refine wp_aload_n k297_0 rfl rfl ?_
      refine wp_aload_n k297_1 rfl rfl ?_
      refine wp_aload_n k297_2 rfl rfl ?_
      refine wp_iload_n k297_3 rfl rfl ?_
      refine wp_cv (st2 := [_, _]) k297_4 EP (by decide) rfl rfl rfl rfl (by decide) hM.o (by decide) ?_
      refine wp_if_eq_F k297_7 (by decide) ?_
      refine wp_aload_n k297_10 rfl rfl ?_
      refine wp_iload_n k297_11 rfl rfl ?_
      refine wp_cv (st2 := [_, _]) k297_12 EF (by decide) rfl rfl rfl rfl (by decide) hM.o (by decide) ?_
      refine wp_if_eq_F k297_15 (by decide) ?_
      refine wp_iconst 1 k297_18 (by decide) ?_
      refine wp_goto k297_19 ?_
      refine wp_cv (st2 := [_]) k297_23 (e_passes hM (b := true)) (by decide) rfl rfl rfl rfl (by decide) hM.o (by decide) ?_
      refine wp_cv (st2 := []) k297_26 ET (by decide) rfl rfl rfl rfl (by decide) hM.o (by decide) ?_
      refine wp_if_eq_F k297_29 (by decide) ?_
      refine wp_aload_n k297_32 rfl rfl ?_
      refine wp_aload_n k297_33 rfl rfl ?_
      refine wp_iload_n k297_34 rfl rfl ?_
      refine wp_iload_n k297_35 rfl rfl ?_
      refine wp_cv (st2 := [_]) k297_36 EA (by decide) rfl rfl rfl rfl (by decide) hM.o (by decide) ?_
      refine wp_cv (st2 := []) k297_39 (ED _) (by decide) rfl rfl rfl rfl (by decide) hM.o (by decide) ?_
      refine wp_goto k297_42 ?_
      exact wp_retI k297_46 rfl (LF _ _)
    · rw [Bool.eq_false_iff.mpr hb2] at EF
      refine wp_aload_n k297_0 rfl rfl ?_
      refine wp_aload_n k297_1 rfl rfl ?_
      refine wp_aload_n k297_2 rfl rfl ?_
      refine wp_iload_n k297_3 rfl rfl ?_
      refine wp_cv (st2 := [_, _]) k297_4 EP (by decide) rfl rfl rfl rfl (by decide) hM.o (by decide) ?_
      refine wp_if_eq_F k297_7 (by decide) ?_
      refine wp_aload_n k297_10 rfl rfl ?_
      refine wp_iload_n k297_11 rfl rfl ?_
      refine wp_cv (st2 := [_, _]) k297_12 EF (by decide) rfl rfl rfl rfl (by decide) hM.o (by decide) ?_
      refine wp_if_eq_T k297_15 rfl ?_
      refine wp_iconst 0 k297_22 (by decide) ?_
      refine wp_cv (st2 := [_]) k297_23 (e_passes hM (b := false)) (by decide) rfl rfl rfl rfl (by decide) hM.o (by decide) ?_
      refine wp_cv (st2 := []) k297_26 ETF (by decide) rfl rfl rfl rfl (by decide) hM.o (by decide) ?_
      refine wp_if_eq_T k297_29 rfl ?_
      refine wp_iconst 0 k297_45 (by decide) ?_
      exact wp_retI k297_46 rfl ⟨0, _, rfl, rfl, RI.q fq_6 hI, rfl, FrQ.z fq_6⟩
  · have EP := e_isPerson (S := S) (V := V) hM (f := x)
    rw [Bool.eq_false_iff.mpr hb] at EP
    refine wp_aload_n k297_0 rfl rfl ?_
    refine wp_aload_n k297_1 rfl rfl ?_
    refine wp_aload_n k297_2 rfl rfl ?_
    refine wp_iload_n k297_3 rfl rfl ?_
    refine wp_cv (st2 := [_, _]) k297_4 EP (by decide) rfl rfl rfl rfl (by decide) hM.o (by decide) ?_
    refine wp_if_eq_T k297_7 rfl ?_
    refine wp_iconst 0 k297_22 (by decide) ?_
    refine wp_cv (st2 := [_]) k297_23 (e_passes hM (b := false)) (by decide) rfl rfl rfl rfl (by decide) hM.o (by decide) ?_
    refine wp_cv (st2 := []) k297_26 ETF (by decide) rfl rfl rfl rfl (by decide) hM.o (by decide) ?_
    refine wp_if_eq_T k297_29 rfl ?_
    refine wp_iconst 0 k297_45 (by decide) ?_
    exact wp_retI k297_46 rfl ⟨0, _, rfl, rfl, RI.q fq_6 hI, rfl, FrQ.z fq_6⟩
theorem r_round {S : ww_S} {sh : List mm_C} {V : hV} (hM : MS sh) (hI : RI V) {y : Int32} : EVQ S 12 298 [.ref 312, .int y] (hH sh V) (rP sh V (V.1 312 10)) := by
  obtain ⟨l, pm, ol, bq, g1, g2, g3, g4, g5, g6, g7, g8, g9, g10⟩ := hI
  have hI : RI V := ⟨l, pm, ol, bq, g1, g2, g3, g4, g5, g6, g7, g8, g9, g10⟩
  obtain ⟨nf, n, rw, lg, m, cc, hnf, h5f, hn, hn1, h5, hrw, h32, hlg, hlg2, hfi, hc1, hc2, hTF, hnm, hre, hrf⟩ := g9
  have hF : FOK V n 313 320 m := hTF.fok h5 h5f
  refine ev_of P298 rfl ?_
  have EF := e_isFact (S := S) (V := V) hM (f := y)
  by_cases hb2 : inI y 0 (V.1 313 0 - 1) = true
  · rw [hb2] at EF
    have hnA : (cpV (up V 312 6 (bI (!true))) 313 0 315 0 564).1 313 1 = Int32.ofNat n := (ovr_ne (up V 312 6 (bI (!true))) _ (by decide) 1).trans hn
    have hrA : (cpV (up V 312 6 (bI (!true))) 313 0 315 0 564).1 313 4 = Int32.ofNat rw := (ovr_ne (up V 312 6 (bI (!true))) _ (by decide) 4).trans hrw
    have hFA : FOK (cpV (up V 312 6 (bI (!true))) 313 0 315 0 564) n 313 320 m := hF.s3 (funext fun j => ovr_ne (up V 312 6 (bI (!true))) _ (by decide) j)
    have ET := e_tried (S := S) (V := (up V 312 6 (bI (!true)))) hM (b := true)
    rw [if_pos rfl] at ET
    have EA := e_roundNow (S := S) (V := (cpV (up V 312 6 (bI (!true))) 313 0 315 0 564)) hM hnA h5 hrA h32 (fact := y)
    obtain ⟨p2, hp2, hp3, r1, r2, r3, r4, r5, r6⟩ := act_ri (B := (roV (cpV (up V 312 6 (bI (!true))) 313 0 315 0 564) n rw y)) hI (fq_6 (x := (bI (!true)))) (fs_ro hrA h32 hre)
    have ED := fun z9 : Int32 => e_done (S := S) (V := (roV (cpV (up V 312 6 (bI (!true))) 313 0 315 0 564) n rw y)) hM hp3 hp2 (x := z9)
    have LF : ∀ (u9 w9 : Int32), rP sh V (V.1 312 10) (.inl (some (.int w9))) (hH sh (if u9 < 0 then (roV (cpV (up V 312 6 (bI (!true))) 313 0 315 0 564) n rw y) else keW 315 (roV (cpV (up V 312 6 (bI (!true))) 313 0 315 0 564) n rw y) p2)) := by
      intro u9 w9
      split
      · exact ⟨w9, _, rfl, rfl, r1, r3, r5⟩
      · exact ⟨w9, _, rfl, rfl, r2, r4, r6⟩
    refine wp_aload_n k298_0 rfl rfl ?_
    refine wp_aload_n k298_1 rfl rfl ?_
    refine wp_aload_n k298_2 rfl rfl ?_
    refine wp_iload_n k298_3 rfl rfl ?_
    refine wp_cv (st2 := [_, _]) k298_4 EF (by decide) rfl rfl rfl rfl (by decide) hM.o (by decide) ?_
    refine wp_cv (st2 := [_]) k298_7 (e_passes hM (b := true)) (by decide) rfl rfl rfl rfl (by decide) hM.o (by decide) ?_
    refine wp_cv (st2 := []) k298_10 ET (by decide) rfl rfl rfl rfl (by decide) hM.o (by decide) ?_
    refine wp_if_eq_F k298_13 (by decide) ?_
    refine wp_aload_n k298_16 rfl rfl ?_
    refine wp_aload_n k298_17 rfl rfl ?_
    refine wp_iload_n k298_18 rfl rfl ?_
    refine wp_cv (st2 := [_]) k298_19 EA (by decide) rfl rfl rfl rfl (by decide) hM.o (by decide) ?_
    refine wp_cv (st2 := []) k298_22 (ED _) (by decide) rfl rfl rfl rfl (by decide) hM.o (by decide) ?_
    refine wp_goto k298_25 ?_
    exact wp_retI k298_29 rfl (LF _ _)
  · rw [Bool.eq_false_iff.mpr hb2] at EF
    have ET := e_tried (S := S) (V := up V 312 6 (bI (!false))) hM (b := false)
    rw [if_neg (by decide)] at ET
    refine wp_aload_n k298_0 rfl rfl ?_
    refine wp_aload_n k298_1 rfl rfl ?_
    refine wp_aload_n k298_2 rfl rfl ?_
    refine wp_iload_n k298_3 rfl rfl ?_
    refine wp_cv (st2 := [_, _]) k298_4 EF (by decide) rfl rfl rfl rfl (by decide) hM.o (by decide) ?_
    refine wp_cv (st2 := [_]) k298_7 (e_passes hM (b := false)) (by decide) rfl rfl rfl rfl (by decide) hM.o (by decide) ?_
    refine wp_cv (st2 := []) k298_10 ET (by decide) rfl rfl rfl rfl (by decide) hM.o (by decide) ?_
    refine wp_if_eq_T k298_13 rfl ?_
    refine wp_iconst 0 k298_28 (by decide) ?_
    exact wp_retI k298_29 rfl ⟨0, _, rfl, rfl, RI.q fq_6 hI, rfl, FrQ.z fq_6⟩
end M53
