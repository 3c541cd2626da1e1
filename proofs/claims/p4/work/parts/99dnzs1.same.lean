section N_zs
/-! ===== the class reads the same out of the same bytes ===== -/
theorem byt_cg {f f' : Nat → Int32} {l : Nat} (h : ∀ k, k < l → f k = f' k) : byt f l = byt f' l := funext fun k => by
  unfold byt
  by_cases c : k < l
  · rw [if_pos c, if_pos c, h k c]
  · rw [if_neg c, if_neg c]
section CG
variable {f f' : Nat → Int32} {l : Nat}
theorem cg_skF (hb : byt f l = byt f' l) : ∀ g, skF f l g = skF f' l g
  | 0 => rfl
  | g + 1 => funext fun a => by
    show (if byt f l a = 32 then skF f l g (a + 1) else a) = if byt f' l a = 32 then skF f' l g (a + 1) else a
    rw [hb, cg_skF hb g]
theorem cg_wlF (hb : byt f l = byt f' l) (b : Nat) : ∀ g, wlF f l b g = wlF f' l b g
  | 0 => rfl
  | g + 1 => funext fun w => by
    show (if ltr (byt f l (b + w)) = true then wlF f l b g (w + 1) else w) = if ltr (byt f' l (b + w)) = true then wlF f' l b g (w + 1) else w
    rw [hb, cg_wlF hb b g]
theorem cg_nmG (hb : byt f l = byt f' l) (p : Nat) : ∀ g, nmG f l p g = nmG f' l p g
  | 0 => rfl
  | g + 1 => funext fun i => funext fun a => by
    show (if ltr (byt f l (p + i)) = true then nmG f l p g (i + 1) (a ||| (byt f l (p + i) - 96) <<< (5 * Int32.ofNat i &&& 31)) else a) = if ltr (byt f' l (p + i)) = true then nmG f' l p g (i + 1) (a ||| (byt f' l (p + i) - 96) <<< (5 * Int32.ofNat i &&& 31)) else a
    rw [hb, cg_nmG hb p g]
theorem cg_wl (hb : byt f l = byt f' l) : wl f l = wl f' l := funext fun b => congrFun (cg_wlF hb b l) 0
theorem cg_sk (hb : byt f l = byt f' l) : sk f l = sk f' l := cg_skF hb l
theorem cg_spB (hb : byt f l = byt f' l) : spB f l = spB f' l := funext fun p => funext fun n => funext fun N => by
  unfold spB
  rw [hb]
theorem cg_kwK (hb : byt f l = byt f' l) : kwK f l = kwK f' l := funext fun p => by
  unfold kwK
  rw [cg_spB hb]
theorem cg_kdF (hb : byt f l = byt f' l) : kdF f l = kdF f' l := funext fun p => by
  unfold kdF
  rw [cg_kwK hb, hb, congrFun (cg_wl hb) p]
theorem cg_kdE (hb : byt f l = byt f' l) : kdE f l = kdE f' l := funext fun p => by
  unfold kdE
  rw [cg_kdF hb]
theorem cg_nmE (hb : byt f l = byt f' l) : nmE f l = nmE f' l := funext fun p => by
  unfold nmE nmT
  rw [cg_kdF hb, congrFun (cg_wl hb) p, show nmF f l p = nmF f' l p from congrFun (congrFun (cg_nmG hb p 6) 0) 0]
theorem cg_nxE (hb : byt f l = byt f' l) : nxE f l = nxE f' l := funext fun p => by
  unfold nxE wdN
  rw [congrFun (cg_wl hb) p, cg_sk hb]
theorem cg_nwB (hb : byt f l = byt f' l) : nwB f l = nwB f' l := funext fun p => funext fun G => funext fun c => by
  unfold nwB
  rw [cg_kdE hb, cg_nmE hb]
theorem cg_nwS (hb : byt f l = byt f' l) : nwS f l = nwS f' l := funext fun t => by
  unfold nwS
  rw [cg_nwB hb, cg_nxE hb, cg_nmE hb]
theorem cg_fcM (hb : byt f l = byt f' l) : ∀ g, fcM f l g = fcM f' l g
  | 0 => rfl
  | g + 1 => funext fun t => by
    show (if kdE f l t.1 = 256 ∧ t.2.1 = false then fcM f l g (nwS f l t) else t) = if kdE f' l t.1 = 256 ∧ t.2.1 = false then fcM f' l g (nwS f' l t) else t
    rw [cg_kdE hb, cg_nwS hb, cg_fcM hb g]
theorem cg_fsM (hb : byt f l = byt f' l) : fsM f l = fsM f' l := funext fun G => funext fun p => by
  unfold fsM
  rw [cg_fcM hb, cg_nwS hb, cg_spB hb, cg_nxE hb]
theorem cg_tsF (hb : byt f l = byt f' l) (G : Nat → Int32) (c : Nat) : ∀ g, tsF f l G c g = tsF f' l G c g
  | 0 => rfl
  | g + 1 => funext fun s => funext fun p => by
    show (if kdE f l p = 256 then (if fdF G c (nmE f l p) = -1 ∨ hasB s (fdF G c (nmE f l p)) = true then (s, p, true) else tsF f l G c g (s ||| 1 <<< (fdF G c (nmE f l p) &&& 31)) (nxE f l p)) else (s, p, false)) = if kdE f' l p = 256 then (if fdF G c (nmE f' l p) = -1 ∨ hasB s (fdF G c (nmE f' l p)) = true then (s, p, true) else tsF f' l G c g (s ||| 1 <<< (fdF G c (nmE f' l p) &&& 31)) (nxE f' l p)) else (s, p, false)
    rw [cg_kdE hb, cg_nmE hb, cg_nxE hb, cg_tsF hb G c g]
theorem cg_kwN (hb : byt f l = byt f' l) : kwN f l = kwN f' l := funext fun p => funext fun G => funext fun c => by
  unfold kwN
  rw [cg_kdE hb, cg_nmE hb]
theorem cg_itC (hb : byt f l = byt f' l) : itC f l = itC f' l := funext fun Gf => funext fun cf => funext fun Gp => funext fun cp => funext fun pl => funext fun t => by
  unfold itC
  rw [cg_kdE hb, cg_kwN hb, cg_nxE hb]
theorem cg_joC (hb : byt f l = byt f' l) : joC f l = joC f' l := funext fun t => by
  unfold joC
  rw [cg_kdE hb, cg_nxE hb]
theorem cg_clC (hb : byt f l = byt f' l) : clC f l = clC f' l := funext fun t => by
  unfold clC
  rw [cg_kdE hb, cg_nxE hb]
theorem cg_cRd (hb : byt f l = byt f' l) (Gf : Nat → Int32) (cf : Nat) (Gp : Nat → Int32) (cp : Nat) (pl : Bool) : ∀ g, cRd f l Gf cf Gp cp pl g = cRd f' l Gf cf Gp cp pl g
  | 0 => rfl
  | g + 1 => funext fun needs => funext fun t => by
    show (if t.2.1 = true then t else if needs = true then cRd f l Gf cf Gp cp pl g (itC f l Gf cf Gp cp pl t).1 (itC f l Gf cf Gp cp pl t).2 else if kdE f l t.1 - 256 = 6 ∨ kdE f l t.1 - 256 = 7 then cRd f l Gf cf Gp cp pl g true (joC f l t) else if 0 < t.2.2.2.1 then cRd f l Gf cf Gp cp pl g false (clC f l t) else t) = if t.2.1 = true then t else if needs = true then cRd f' l Gf cf Gp cp pl g (itC f' l Gf cf Gp cp pl t).1 (itC f' l Gf cf Gp cp pl t).2 else if kdE f' l t.1 - 256 = 6 ∨ kdE f' l t.1 - 256 = 7 then cRd f' l Gf cf Gp cp pl g true (joC f' l t) else if 0 < t.2.2.2.1 then cRd f' l Gf cf Gp cp pl g false (clC f' l t) else t
    rw [cg_itC hb, cg_kdE hb, cg_joC hb, cg_clC hb, cg_cRd hb Gf cf Gp cp pl g]
theorem cg_lwT (hb : byt f l = byt f' l) : lwT f l = lwT f' l := funext fun Gf => funext fun cf => funext fun Gp => funext fun cp => funext fun p => by
  unfold lwT
  rw [cg_cRd hb, cg_nxE hb]
theorem cg_lwS (hb : byt f l = byt f' l) : lwS f l = lwS f' l := funext fun Gf => funext fun cf => funext fun Gp => funext fun cp => funext fun p => funext fun lw => funext fun fi => by
  unfold lwS
  rw [cg_lwT hb]
theorem cg_psS (hb : byt f l = byt f' l) : psS f l = psS f' l := funext fun Gf => funext fun cf => funext fun Gp => funext fun cp => funext fun sn => funext fun p => by
  unfold psS
  rw [cg_nwS hb, cg_nxE hb, cg_tsF hb]
theorem cg_rlS (hb : byt f l = byt f' l) : rlS f l = rlS f' l := funext fun Gf => funext fun cf => funext fun fi => funext fun p => by
  unfold rlS
  rw [cg_kdE hb, cg_nxE hb, cg_tsF hb]
theorem cg_lnS (hb : byt f l = byt f' l) : lnS f l = lnS f' l := funext fun Gf => funext fun cf => funext fun t => by
  unfold lnS
  rw [cg_spB hb, cg_nxE hb, cg_lwS hb, cg_psS hb, cg_rlS hb]
theorem cg_dRd (hb : byt f l = byt f' l) (Gf : Nat → Int32) (cf : Nat) : ∀ g, dRd f l Gf cf g = dRd f' l Gf cf g
  | 0 => rfl
  | g + 1 => funext fun t => by
    unfold dRd
    rw [cg_kdE hb, cg_lnS hb, cg_dRd hb Gf cf g]
theorem cg_dsA (hb : byt f l = byt f' l) : dsA f l = dsA f' l := by
  unfold dsA
  rw [cg_fsM hb, cg_sk hb, cg_dRd hb]
end CG
end N_zs
