section M78
/-! ===== the reference: every method keeps it in order ===== -/
theorem hb_z : ∀ k : Fin 32, hasB 0 (Int32.ofNat k.val) = false := by decide
theorem ri_all {V : hV} (hI : RI V) : ∃ n nf ro m lg c o : Nat, SG V n nf ro ∧ FOK V n 313 320 m ∧ RFL V n ∧ NMS (V.1 313) ∧ (V.1 313 6 = Int32.ofNat lg ∧ lg ≤ 20) ∧ (V.1 313 3 = Int32.ofNat c ∧ 1 ≤ c ∧ c ≤ 32) ∧ 1 ≤ n ∧ (¬ V.1 313 2 = 0) ∧ V.1 312 26 = Int32.ofNat o ∧ o ≤ 2000 := by
  obtain ⟨l, pm, ol, bq, g1, g2, g3, g4, g5, g6, g7, g8, g9, g10⟩ := hI
  obtain ⟨nf, n, ro, lg, m, cc, hnf, h5f, hn, hn1, h5, hrw, h32, hlg, hlg2, hfi, hc1, hc2, hTF, hnm, hre, hrf⟩ := g9
  refine ⟨n, nf, ro, m, lg, cc, ol, ⟨hn, h5, hnf, h5f, hrw, h32⟩, hTF.fok h5 h5f, hrf, hnm, ⟨hlg, hlg2⟩, ⟨hfi, hc1, hc2⟩, hn1, fun z => ?_, g5, g6⟩
  rw [z, hrw, hb_z ⟨ro, h32⟩] at hre
  cases hre
theorem e_rP {S : ww_S} {sh : List mm_C} {V : hV} {D j : Nat} {as : List Value} {y z : Int32} (h : RI V) (e : EV S D j as (hH sh V) (.inl (some (.int y))) (hH sh (up V 312 6 z))) : EVQ S D j as (hH sh V) (rP sh V (V.1 312 10)) := ⟨_, _, e, _, _, rfl, rfl, RI.q fq_6 h, rfl, FrQ.z fq_6⟩
theorem g216 {S : ww_S} {sh : List mm_C} {V : hV} (hM : MS sh) (hI : RI V) : EVQ S 1 216 [.ref 312] (hH sh V) (rP sh V (V.1 312 10)) := by
  obtain ⟨n, nf, ro, m, lg, c, o, hS, hF, hR, hN, hL, hc, hn1, h20, ho, ho2⟩ := ri_all hI
  exact e_rP hI (e_errorCode (S := S) hM)
theorem g217 {S : ww_S} {sh : List mm_C} {V : hV} (hM : MS sh) (hI : RI V) : EVQ S 1 217 [.ref 312] (hH sh V) (rP sh V (V.1 312 10)) := by
  obtain ⟨n, nf, ro, m, lg, c, o, hS, hF, hR, hN, hL, hc, hn1, h20, ho, ho2⟩ := ri_all hI
  exact e_rP hI (e_errorPosition (S := S) hM)
theorem g256 {S : ww_S} {sh : List mm_C} {V : hV} (hM : MS sh) (hI : RI V) {y : Int32} : EVQ S 3 256 [.ref 312, .int y] (hH sh V) (rP sh V (V.1 312 10)) := by
  obtain ⟨n, nf, ro, m, lg, c, o, hS, hF, hR, hN, hL, hc, hn1, h20, ho, ho2⟩ := ri_all hI
  exact q_rP hI (q_size (S := S) hM hF (y := y))
theorem g257 {S : ww_S} {sh : List mm_C} {V : hV} (hM : MS sh) (hI : RI V) {x y z : Int32} : EVQ S 4 257 [.ref 312, .int x, .int y, .int z] (hH sh V) (rP sh V (V.1 312 10)) := by
  obtain ⟨n, nf, ro, m, lg, c, o, hS, hF, hR, hN, hL, hc, hn1, h20, ho, ho2⟩ := ri_all hI
  exact q_rP hI (q_letter (S := S) hM hS.1 hS.2.1 hS.2.2.1 hS.2.2.2.1 hN (x := x) (y := y) (z := z))
theorem g258 {S : ww_S} {sh : List mm_C} {V : hV} (hM : MS sh) (hI : RI V) {x : Int32} : EVQ S 3 258 [.ref 312, .int x] (hH sh V) (rP sh V (V.1 312 10)) := by
  obtain ⟨n, nf, ro, m, lg, c, o, hS, hF, hR, hN, hL, hc, hn1, h20, ho, ho2⟩ := ri_all hI
  exact e_rP hI (e_seesPerson (S := S) hM hS.1 hS.2.1 (x := x))
theorem g259 {S : ww_S} {sh : List mm_C} {V : hV} (hM : MS sh) (hI : RI V) : EVQ S 1 259 [.ref 312] (hH sh V) (rP sh V (V.1 312 10)) := by
  obtain ⟨n, nf, ro, m, lg, c, o, hS, hF, hR, hN, hL, hc, hn1, h20, ho, ho2⟩ := ri_all hI
  exact e_rP hI (e_worlds (S := S) hM)
theorem g260 {S : ww_S} {sh : List mm_C} {V : hV} (hM : MS sh) (hI : RI V) {x y : Int32} : EVQ S 5 260 [.ref 312, .int x, .int y] (hH sh V) (rP sh V (V.1 312 10)) := by
  obtain ⟨n, nf, ro, m, lg, c, o, hS, hF, hR, hN, hL, hc, hn1, h20, ho, ho2⟩ := ri_all hI
  exact q_rP hI (q_alike (S := S) hM hS (x := x) (y := y))
theorem g262 {S : ww_S} {sh : List mm_C} {V : hV} (hM : MS sh) (hI : RI V) {x : Int32} : EVQ S 8 262 [.ref 312, .int x] (hH sh V) (rP sh V (V.1 312 10)) := by
  obtain ⟨n, nf, ro, m, lg, c, o, hS, hF, hR, hN, hL, hc, hn1, h20, ho, ho2⟩ := ri_all hI
  exact q_rP hI (q_kinds (S := S) hM hS (x := x))
theorem g263 {S : ww_S} {sh : List mm_C} {V : hV} (hM : MS sh) (hI : RI V) {x : Int32} : EVQ S 8 263 [.ref 312, .int x] (hH sh V) (rP sh V (V.1 312 10)) := by
  obtain ⟨n, nf, ro, m, lg, c, o, hS, hF, hR, hN, hL, hc, hn1, h20, ho, ho2⟩ := ri_all hI
  exact q_rP hI (q_doubts (S := S) hM hS (x := x))
theorem g264 {S : ww_S} {sh : List mm_C} {V : hV} (hM : MS sh) (hI : RI V) {x : Int32} : EVQ S 8 264 [.ref 312, .int x] (hH sh V) (rP sh V (V.1 312 10)) := by
  obtain ⟨n, nf, ro, m, lg, c, o, hS, hF, hR, hN, hL, hc, hn1, h20, ho, ho2⟩ := ri_all hI
  exact q_rP hI (q_reach (S := S) hM hS (x := x))
theorem g265 {S : ww_S} {sh : List mm_C} {V : hV} (hM : MS sh) (hI : RI V) {x y : Int32} : EVQ S 8 265 [.ref 312, .int x, .int y] (hH sh V) (rP sh V (V.1 312 10)) := by
  obtain ⟨n, nf, ro, m, lg, c, o, hS, hF, hR, hN, hL, hc, hn1, h20, ho, ho2⟩ := ri_all hI
  exact q_rP hI (q_steps (S := S) hM hS (x := x) (y := y))
theorem g266 {S : ww_S} {sh : List mm_C} {V : hV} (hM : MS sh) (hI : RI V) {x : Int32} : EVQ S 12 266 [.ref 312, .int x] (hH sh V) (rP sh V (V.1 312 10)) := by
  obtain ⟨n, nf, ro, m, lg, c, o, hS, hF, hR, hN, hL, hc, hn1, h20, ho, ho2⟩ := ri_all hI
  exact q_rP hI (q_holds (S := S) hM hS hF (x := x))
theorem g267 {S : ww_S} {sh : List mm_C} {V : hV} (hM : MS sh) (hI : RI V) : EVQ S 12 267 [.ref 312] (hH sh V) (rP sh V (V.1 312 10)) := by
  obtain ⟨n, nf, ro, m, lg, c, o, hS, hF, hR, hN, hL, hc, hn1, h20, ho, ho2⟩ := ri_all hI
  exact q_rP hI (q_truth (S := S) hM hS hF)
theorem g268 {S : ww_S} {sh : List mm_C} {V : hV} (hM : MS sh) (hI : RI V) : EVQ S 12 268 [.ref 312] (hH sh V) (rP sh V (V.1 312 10)) := by
  obtain ⟨n, nf, ro, m, lg, c, o, hS, hF, hR, hN, hL, hc, hn1, h20, ho, ho2⟩ := ri_all hI
  exact q_rP hI (q_who (S := S) hM hS hF)
theorem g269 {S : ww_S} {sh : List mm_C} {V : hV} (hM : MS sh) (hI : RI V) : EVQ S 12 269 [.ref 312] (hH sh V) (rP sh V (V.1 312 10)) := by
  obtain ⟨n, nf, ro, m, lg, c, o, hS, hF, hR, hN, hL, hc, hn1, h20, ho, ho2⟩ := ri_all hI
  exact q_rP hI (q_whether (S := S) hM hS hF)
theorem g270 {S : ww_S} {sh : List mm_C} {V : hV} (hM : MS sh) (hI : RI V) : EVQ S 12 270 [.ref 312] (hH sh V) (rP sh V (V.1 312 10)) := by
  obtain ⟨n, nf, ro, m, lg, c, o, hS, hF, hR, hN, hL, hc, hn1, h20, ho, ho2⟩ := ri_all hI
  exact q_rP hI (q_isCommon (S := S) hM hS hF)
theorem g271 {S : ww_S} {sh : List mm_C} {V : hV} (hM : MS sh) (hI : RI V) : EVQ S 12 271 [.ref 312] (hH sh V) (rP sh V (V.1 312 10)) := by
  obtain ⟨n, nf, ro, m, lg, c, o, hS, hF, hR, hN, hL, hc, hn1, h20, ho, ho2⟩ := ri_all hI
  exact q_rP hI (q_level (S := S) hM hS hF hR)
theorem g272 {S : ww_S} {sh : List mm_C} {V : hV} (hM : MS sh) (hI : RI V) : EVQ S 12 272 [.ref 312] (hH sh V) (rP sh V (V.1 312 10)) := by
  obtain ⟨n, nf, ro, m, lg, c, o, hS, hF, hR, hN, hL, hc, hn1, h20, ho, ho2⟩ := ri_all hI
  exact q_rP hI (q_unlike (S := S) hM hS hF hR)
theorem g273 {S : ww_S} {sh : List mm_C} {V : hV} (hM : MS sh) (hI : RI V) {x y : Int32} : EVQ S 6 273 [.ref 312, .int x, .int y] (hH sh V) (rP sh V (V.1 312 10)) := by
  obtain ⟨n, nf, ro, m, lg, c, o, hS, hF, hR, hN, hL, hc, hn1, h20, ho, ho2⟩ := ri_all hI
  exact q_rP hI (q_knowsFact (S := S) hM hS (x := x) (y := y))
theorem g275 {S : ww_S} {sh : List mm_C} {V : hV} (hM : MS sh) (hI : RI V) : EVQ S 6 275 [.ref 312] (hH sh V) (rP sh V (V.1 312 10)) := by
  obtain ⟨n, nf, ro, m, lg, c, o, hS, hF, hR, hN, hL, hc, hn1, h20, ho, ho2⟩ := ri_all hI
  exact q_rP hI (q_knowers (S := S) hM hS)
theorem g278 {S : ww_S} {sh : List mm_C} {V : hV} (hM : MS sh) (hI : RI V) : EVQ S 12 278 [.ref 312] (hH sh V) (rP sh V (V.1 312 10)) := by
  obtain ⟨n, nf, ro, m, lg, c, o, hS, hF, hR, hN, hL, hc, hn1, h20, ho, ho2⟩ := ri_all hI
  exact q_rP hI (q_wouldLeave (S := S) hM hS hF)
theorem g279 {S : ww_S} {sh : List mm_C} {V : hV} (hM : MS sh) (hI : RI V) {x : Int32} : EVQ S 12 279 [.ref 312, .int x] (hH sh V) (rP sh V (V.1 312 10)) := by
  obtain ⟨n, nf, ro, m, lg, c, o, hS, hF, hR, hN, hL, hc, hn1, h20, ho, ho2⟩ := ri_all hI
  exact q_rP hI (q_wouldSay (S := S) hM hS hF (x := x))
theorem g281 {S : ww_S} {sh : List mm_C} {V : hV} (hM : MS sh) (hI : RI V) {x : Int32} : EVQ S 13 281 [.ref 312, .int x] (hH sh V) (rP sh V (V.1 312 10)) := by
  obtain ⟨n, nf, ro, m, lg, c, o, hS, hF, hR, hN, hL, hc, hn1, h20, ho, ho2⟩ := ri_all hI
  exact q_rP hI (q_wouldKnow (S := S) hM hS hF (x := x))
theorem g283 {S : ww_S} {sh : List mm_C} {V : hV} (hM : MS sh) (hI : RI V) {x : Int32} : EVQ S 13 283 [.ref 312, .int x] (hH sh V) (rP sh V (V.1 312 10)) := by
  obtain ⟨n, nf, ro, m, lg, c, o, hS, hF, hR, hN, hL, hc, hn1, h20, ho, ho2⟩ := ri_all hI
  exact q_rP hI (q_roundsTo (S := S) hM hS (x := x))
theorem g284 {S : ww_S} {sh : List mm_C} {V : hV} (hM : MS sh) (hI : RI V) : EVQ S 7 284 [.ref 312] (hH sh V) (rP sh V (V.1 312 10)) := by
  obtain ⟨n, nf, ro, m, lg, c, o, hS, hF, hR, hN, hL, hc, hn1, h20, ho, ho2⟩ := ri_all hI
  exact q_rP hI (q_bestFact (S := S) hM hS)
theorem g286 {S : ww_S} {sh : List mm_C} {V : hV} (hM : MS sh) (hI : RI V) {x : Int32} : EVQ S 7 286 [.ref 312, .int x] (hH sh V) (rP sh V (V.1 312 10)) := by
  obtain ⟨n, nf, ro, m, lg, c, o, hS, hF, hR, hN, hL, hc, hn1, h20, ho, ho2⟩ := ri_all hI
  exact q_rP hI (q_leastShown (S := S) hM hS (x := x))
theorem g287 {S : ww_S} {sh : List mm_C} {V : hV} (hM : MS sh) (hI : RI V) {x y : Int32} : EVQ S 3 287 [.ref 312, .int x, .int y] (hH sh V) (rP sh V (V.1 312 10)) := by
  obtain ⟨n, nf, ro, m, lg, c, o, hS, hF, hR, hN, hL, hc, hn1, h20, ho, ho2⟩ := ri_all hI
  exact q_rP hI (q_log (S := S) hM hS hL.1 hL.2 (x := x) (y := y))
theorem g288 {S : ww_S} {sh : List mm_C} {V : hV} (hM : MS sh) (hI : RI V) {y : Int32} : EVQ S 3 288 [.ref 312, .int y] (hH sh V) (rP sh V (V.1 312 10)) := by
  obtain ⟨n, nf, ro, m, lg, c, o, hS, hF, hR, hN, hL, hc, hn1, h20, ho, ho2⟩ := ri_all hI
  exact q_rP hI (q_account (S := S) hM hS (y := y))
theorem g289 {S : ww_S} {sh : List mm_C} {V : hV} (hM : MS sh) (hI : RI V) : EVQ S 2 289 [.ref 312] (hH sh V) (rP sh V (V.1 312 10)) := by
  obtain ⟨n, nf, ro, m, lg, c, o, hS, hF, hR, hN, hL, hc, hn1, h20, ho, ho2⟩ := ri_all hI
  exact q_rP hI (q_gap (S := S) hM hS)
theorem g294 {S : ww_S} {sh : List mm_C} {V : hV} (hM : MS sh) (hI : RI V) : EVQ S 12 294 [.ref 312] (hH sh V) (rP sh V (V.1 312 10)) := by
  obtain ⟨n, nf, ro, m, lg, c, o, hS, hF, hR, hN, hL, hc, hn1, h20, ho, ho2⟩ := ri_all hI
  exact r_announce (S := S) hM hI
theorem g295 {S : ww_S} {sh : List mm_C} {V : hV} (hM : MS sh) (hI : RI V) {x : Int32} : EVQ S 12 295 [.ref 312, .int x] (hH sh V) (rP sh V (V.1 312 10)) := by
  obtain ⟨n, nf, ro, m, lg, c, o, hS, hF, hR, hN, hL, hc, hn1, h20, ho, ho2⟩ := ri_all hI
  exact r_say (S := S) hM hI (x := x)
theorem g296 {S : ww_S} {sh : List mm_C} {V : hV} (hM : MS sh) (hI : RI V) {x : Int32} : EVQ S 12 296 [.ref 312, .int x] (hH sh V) (rP sh V (V.1 312 10)) := by
  obtain ⟨n, nf, ro, m, lg, c, o, hS, hF, hR, hN, hL, hc, hn1, h20, ho, ho2⟩ := ri_all hI
  exact r_whisper (S := S) hM hI (x := x)
theorem g297 {S : ww_S} {sh : List mm_C} {V : hV} (hM : MS sh) (hI : RI V) {x y : Int32} : EVQ S 12 297 [.ref 312, .int x, .int y] (hH sh V) (rP sh V (V.1 312 10)) := by
  obtain ⟨n, nf, ro, m, lg, c, o, hS, hF, hR, hN, hL, hc, hn1, h20, ho, ho2⟩ := ri_all hI
  exact r_show (S := S) hM hI (x := x) (y := y)
theorem g298 {S : ww_S} {sh : List mm_C} {V : hV} (hM : MS sh) (hI : RI V) {y : Int32} : EVQ S 12 298 [.ref 312, .int y] (hH sh V) (rP sh V (V.1 312 10)) := by
  obtain ⟨n, nf, ro, m, lg, c, o, hS, hF, hR, hN, hL, hc, hn1, h20, ho, ho2⟩ := ri_all hI
  exact r_round (S := S) hM hI (y := y)
theorem g303 {S : ww_S} {sh : List mm_C} {V : hV} (hM : MS sh) (hI : RI V) {x : Int32} : EVQ S 8 303 [.ref 312, .int x] (hH sh V) (rP sh V (V.1 312 10)) := by
  obtain ⟨n, nf, ro, m, lg, c, o, hS, hF, hR, hN, hL, hc, hn1, h20, ho, ho2⟩ := ri_all hI
  exact r_writeWorld (S := S) hM hI (x := x)
theorem g305 {S : ww_S} {sh : List mm_C} {V : hV} (hM : MS sh) (hI : RI V) {x : Int32} : EVQ S 8 305 [.ref 312, .int x] (hH sh V) (rP sh V (V.1 312 10)) := by
  obtain ⟨n, nf, ro, m, lg, c, o, hS, hF, hR, hN, hL, hc, hn1, h20, ho, ho2⟩ := ri_all hI
  exact r_writeKinds (S := S) hM hI (x := x)
theorem g309 {S : ww_S} {sh : List mm_C} {V : hV} (hM : MS sh) (hI : RI V) : EVQ S 128 309 [.ref 312] (hH sh V) (rP sh V (V.1 312 10)) := by
  obtain ⟨n, nf, ro, m, lg, c, o, hS, hF, hR, hN, hL, hc, hn1, h20, ho, ho2⟩ := ri_all hI
  exact r_writeQuestion (S := S) hM hI
theorem g310 {S : ww_S} {sh : List mm_C} {V : hV} (hM : MS sh) (hI : RI V) {x : Int32} : EVQ S 3 310 [.ref 312, .int x] (hH sh V) (rP sh V (V.1 312 10)) := by
  obtain ⟨n, nf, ro, m, lg, c, o, hS, hF, hR, hN, hL, hc, hn1, h20, ho, ho2⟩ := ri_all hI
  exact q_rP hI (q_outputByte (S := S) hM ho ho2 (x := x))
theorem g311 {S : ww_S} {sh : List mm_C} {V : hV} (hM : MS sh) (hI : RI V) : EVQ S 3 311 [.ref 312] (hH sh V) (rP sh V (V.1 312 10)) := by
  obtain ⟨n, nf, ro, m, lg, c, o, hS, hF, hR, hN, hL, hc, hn1, h20, ho, ho2⟩ := ri_all hI
  exact r_undo (S := S) hM hI
theorem g312 {S : ww_S} {sh : List mm_C} {V : hV} (hM : MS sh) (hI : RI V) : EVQ S 3 312 [.ref 312] (hH sh V) (rP sh V (V.1 312 10)) := by
  obtain ⟨n, nf, ro, m, lg, c, o, hS, hF, hR, hN, hL, hc, hn1, h20, ho, ho2⟩ := ri_all hI
  exact r_save (S := S) hM hI
theorem g313 {S : ww_S} {sh : List mm_C} {V : hV} (hM : MS sh) (hI : RI V) : EVQ S 3 313 [.ref 312] (hH sh V) (rP sh V (V.1 312 10)) := by
  obtain ⟨n, nf, ro, m, lg, c, o, hS, hF, hR, hN, hL, hc, hn1, h20, ho, ho2⟩ := ri_all hI
  exact r_restore (S := S) hM hI
theorem g236 {S : ww_S} {sh : List mm_C} {V : hV} (hM : MS sh) (hI : RI V) : EVQ S 195 236 [.ref 312] (hH sh V) (rP sh V 0) := by
  obtain ⟨n, nf, ro, m, lg, c, o, hS, hF, hR, hN, hL, hc, hn1, h20, ho, ho2⟩ := ri_all hI
  exact r_readText (S := S) hM hI
theorem g254 {S : ww_S} {sh : List mm_C} {V : hV} (hM : MS sh) (hI : RI V) : EVQ S 192 254 [.ref 312] (hH sh V) (rP sh V 0) := by
  obtain ⟨n, nf, ro, m, lg, c, o, hS, hF, hR, hN, hL, hc, hn1, h20, ho, ho2⟩ := ri_all hI
  exact r_runOrders (S := S) hM hI
theorem g255 {S : ww_S} {sh : List mm_C} {V : hV} (hM : MS sh) (hI : RI V) : EVQ S 190 255 [.ref 312] (hH sh V) (rP sh V 0) := by
  obtain ⟨n, nf, ro, m, lg, c, o, hS, hF, hR, hN, hL, hc, hn1, h20, ho, ho2⟩ := ri_all hI
  exact r_ask (S := S) hM hI
def fP (sh : List mm_C) (V : hV) : mm_V → mm_H → Prop := fun v g => ∃ (x : UInt32) (W : hV), v = .inl (some (.float x)) ∧ g = hH sh W ∧ RI W ∧ W.1 312 10 = V.1 312 10 ∧ Fz V W ∧ FOD x
def dP (sh : List mm_C) (V : hV) : mm_V → mm_H → Prop := fun v g => ∃ (x : UInt64) (W : hV), v = .inl (some (.double x)) ∧ g = hH sh W ∧ RI W ∧ W.1 312 10 = V.1 312 10 ∧ Fz V W
theorem g290 {S : ww_S} {sh : List mm_C} {V : hV} (hM : MS sh) (hI : RI V) : EVQ S 2 290 [.ref 312] (hH sh V) (fP sh V) := by
  obtain ⟨n, nf, ro, m, lg, c, o, hS, hF, hR, hN, hL, hc, hn1, h20, ho, ho2⟩ := ri_all hI
  exact (q_share (S := S) hM hc.1 hc.2.1 hc.2.2).imp fun _ _ ⟨x, W, h1, h2, f, k⟩ => ⟨x, W, h1, h2, RI.q f hI, f.2.2 10 (by decide), f.z, k⟩
theorem g291 {S : ww_S} {sh : List mm_C} {V : hV} (hM : MS sh) (hI : RI V) : EVQ S 4 291 [.ref 312] (hH sh V) (dP sh V) := by
  obtain ⟨n, nf, ro, m, lg, c, o, hS, hF, hR, hN, hL, hc, hn1, h20, ho, ho2⟩ := ri_all hI
  exact (q_meanAlike (S := S) hM hS.1 hn1 hS.2.1 h20).imp fun _ _ ⟨x, W, h1, h2, f⟩ => ⟨x, W, h1, h2, RI.q f hI, f.2.2 10 (by decide), f.z⟩
end M78
