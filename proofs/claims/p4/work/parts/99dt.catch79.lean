section M79
/-! ===== the class: every method between two calls; the law's methods, which catch ===== -/
theorem EVQ.xP0 {S : ww_S} {sh : List mm_C} {V : hV} {D j ci : Nat} {as : List Value} (e : EVQ S D j as (hH sh V) (wP sh V ci)) : EVQ S D j as (hH sh V) (xP 0 (V.1 65 4) sh V ci) := e.imp fun _ _ ⟨W, f, h⟩ => ⟨sh, W, (fx_0 sh V).q f, h⟩
theorem EVQ.xI0 {S : ww_S} {sh : List mm_C} {V : hV} {D j : Nat} {as : List Value} (e : EVQ S D j as (hH sh V) (wI sh V)) : EVQ S D j as (hH sh V) (xI 0 (V.1 65 4) sh V) := e.imp fun _ _ ⟨x, W, h1, h2, f⟩ => ⟨x, sh, W, h1, h2, (fx_0 sh V).q f⟩
theorem EVQ.xZ0 {S : ww_S} {sh : List mm_C} {V : hV} {D j : Nat} {as : List Value} (e : EVQ S D j as (hH sh V) (wZ sh V)) : EVQ S D j as (hH sh V) (xI 0 (V.1 65 4) sh V) := e.imp fun _ _ ⟨b, W, h1, h2, f⟩ => ⟨bI b, sh, W, h1, h2, (fx_0 sh V).q f⟩
theorem LT.fx0 {r q : Nat} {sh s : List mm_C} {V W : hV} {lc lr : Int32} {B : hB} (h : LT r sh V lc lr B) (f : FX q (V.1 65 4) sh V s W) : LT (r + q) s W lc lr B := by
  have h2 := h.fx f
  rw [h.2.2.2.2.2.1] at h2
  exact h2
theorem LT.mono {r r2 : Nat} {sh : List mm_C} {V : hV} {lc lr : Int32} {B : hB} (h : LT r sh V lc lr B) (hr : r ≤ r2) : LT r2 sh V lc lr B := by
  obtain ⟨h1, h2, h3, h4, h5, h6, h7, h8, h9, h10, h11, h12⟩ := h
  exact ⟨h1, h2, h3, h4, h5, h6, h7, h8, h9, by omega, by omega, h12⟩
theorem LT.o {r : Nat} {sh : List mm_C} {V : hV} {lc lr : Int32} {B : hB} (h : LT r sh V lc lr B) : sh[323 - 64]? = some (.inl (1, 1, 0)) := h.2.2.2.2.2.2.2.2.1
theorem LT.s {r : Nat} {sh : List mm_C} {V : hV} {lc lr : Int32} {B : hB} (h : LT r sh V lc lr B) : sh[64 - 64]? = some (.inr (.inr (13, [.ref 65, .ref 76, .ref 79, .ref 80, .ref 72, .ref 70, .ref 182, .ref 183, .ref 191, .ref 203, .ref 215, .int 0, .int 0, .int 0]))) := h.1.1.o
def yP (r : Nat) (lc lr : Int32) (B : hB) : mm_V → mm_H → Prop := fun v g => ∃ (k : Int32) (s : List mm_C) (W : hV), v = .inl (some (.int k)) ∧ g = hH s W ∧ LT r s W lc lr B
/-- what the array of the answer holds -/
def OU (W : hV) (x : Int32) : Prop := Int64.ofNat (mm_ag 64 (W.2 323) 0) = x.toInt64
theorem upL_eq {V : hV} {a N : Nat} : (upL V a N).2 a = N := by
  unfold upL
  dsimp only
  exact if_pos rfl
theorem ou_up {W : hV} {x : Int32} : OU (upL W 323 (mm_as 64 (W.2 323) 0 x.toInt64.toUInt64.toNat)) x := by
  unfold OU
  rw [upL_eq]
  exact la_of _ _
theorem cl100 {S : ww_S} {sh : List mm_C} {V : hV} {r : Nat} {lc lr : Int32} {B : hB} (h : LT r sh V lc lr B) : EVQ S 10 100 [.ref 64] (hH sh V) (xP 6 0 sh V 15) := by
  obtain ⟨q0, hk⟩ := h.1.who
  exact (cw100 (S := S) h.1 h.2.2.2.2.2.2.2.1 h.2.2.1 h.2.1)
theorem cl101 {S : ww_S} {sh : List mm_C} {V : hV} {r : Nat} {lc lr : Int32} {B : hB} (h : LT r sh V lc lr B) : EVQ S 10 101 [.ref 64] (hH sh V) (xP 0 0 sh V 15) := by
  obtain ⟨q0, hk⟩ := h.1.who
  exact (cw101 (S := S) h.1 h.2.1)
theorem cl102 {S : ww_S} {sh : List mm_C} {V : hV} {r : Nat} {lc lr : Int32} {B : hB} (h : LT r sh V lc lr B) : EVQ S 9 102 [.ref 64] (hH sh V) (xP 0 0 sh V 15) := by
  obtain ⟨q0, hk⟩ := h.1.who
  exact (cw102 (S := S) h.1 h.2.1)
theorem cl103 {S : ww_S} {sh : List mm_C} {V : hV} {r : Nat} {lc lr : Int32} {B : hB} (h : LT r sh V lc lr B) : EVQ S 1 103 [.ref 64] (hH sh V) (xI 0 (V.1 65 4) sh V) := by
  obtain ⟨q0, hk⟩ := h.1.who
  exact (cw103 (S := S) hk).xI0
theorem cl104 {S : ww_S} {sh : List mm_C} {V : hV} {r : Nat} {lc lr : Int32} {B : hB} (h : LT r sh V lc lr B) : EVQ S 1 104 [.ref 64] (hH sh V) (xI 0 (V.1 65 4) sh V) := by
  obtain ⟨q0, hk⟩ := h.1.who
  exact (cw104 (S := S) hk).xI0
theorem cl105 {S : ww_S} {sh : List mm_C} {V : hV} {r : Nat} {lc lr : Int32} {B : hB} (h : LT r sh V lc lr B) {p1 : Int32} : EVQ S 3 105 [.ref 64, .int p1] (hH sh V) (xP 0 (V.1 65 4) sh V 15) := by
  obtain ⟨q0, hk⟩ := h.1.who
  exact (cw105 (S := S) hk (p1 := p1)).xP0
theorem cl106 {S : ww_S} {sh : List mm_C} {V : hV} {r : Nat} {lc lr : Int32} {B : hB} (h : LT r sh V lc lr B) {p1 p2 p3 : Int32} : EVQ S 3 106 [.ref 64, .int p1, .int p2, .int p3] (hH sh V) (xP 0 (V.1 65 4) sh V 16) := by
  obtain ⟨q0, hk⟩ := h.1.who
  exact (cw106 (S := S) hk (p1 := p1) (p2 := p2) (p3 := p3)).xP0
theorem cl107 {S : ww_S} {sh : List mm_C} {V : hV} {r : Nat} {lc lr : Int32} {B : hB} (h : LT r sh V lc lr B) {p1 : Int32} : EVQ S 2 107 [.ref 64, .int p1] (hH sh V) (xP 0 (V.1 65 4) sh V 16) := by
  obtain ⟨q0, hk⟩ := h.1.who
  exact (cw107 (S := S) hk (p1 := p1)).xP0
theorem cl108 {S : ww_S} {sh : List mm_C} {V : hV} {r : Nat} {lc lr : Int32} {B : hB} (h : LT r sh V lc lr B) : EVQ S 1 108 [.ref 64] (hH sh V) (xI 0 (V.1 65 4) sh V) := by
  obtain ⟨q0, hk⟩ := h.1.who
  exact (cw108 (S := S) hk).xI0
theorem cl109 {S : ww_S} {sh : List mm_C} {V : hV} {r : Nat} {lc lr : Int32} {B : hB} (h : LT r sh V lc lr B) {p1 p2 : Int32} : EVQ S 2 109 [.ref 64, .int p1, .int p2] (hH sh V) (xP 0 (V.1 65 4) sh V 16) := by
  obtain ⟨q0, hk⟩ := h.1.who
  exact (cw109 (S := S) hk (p1 := p1) (p2 := p2)).xP0
theorem cl110 {S : ww_S} {sh : List mm_C} {V : hV} {r : Nat} {lc lr : Int32} {B : hB} (h : LT r sh V lc lr B) {p1 : Int32} : EVQ S 3 110 [.ref 64, .int p1] (hH sh V) (xP 0 (V.1 65 4) sh V 16) := by
  obtain ⟨q0, hk⟩ := h.1.who
  exact (cw110 (S := S) hk (p1 := p1)).xP0
theorem cl111 {S : ww_S} {sh : List mm_C} {V : hV} {r : Nat} {lc lr : Int32} {B : hB} (h : LT r sh V lc lr B) {p1 : Int32} : EVQ S 3 111 [.ref 64, .int p1] (hH sh V) (xP 0 (V.1 65 4) sh V 16) := by
  obtain ⟨q0, hk⟩ := h.1.who
  exact (cw111 (S := S) hk (p1 := p1)).xP0
theorem cl112 {S : ww_S} {sh : List mm_C} {V : hV} {r : Nat} {lc lr : Int32} {B : hB} (h : LT r sh V lc lr B) {p1 : Int32} : EVQ S 4 112 [.ref 64, .int p1] (hH sh V) (xP 0 (V.1 65 4) sh V 16) := by
  obtain ⟨q0, hk⟩ := h.1.who
  exact (cw112 (S := S) hk (p1 := p1)).xP0
theorem cl113 {S : ww_S} {sh : List mm_C} {V : hV} {r : Nat} {lc lr : Int32} {B : hB} (h : LT r sh V lc lr B) {p1 p2 : Int32} : EVQ S 4 113 [.ref 64, .int p1, .int p2] (hH sh V) (xP 0 (V.1 65 4) sh V 16) := by
  obtain ⟨q0, hk⟩ := h.1.who
  exact (cw113 (S := S) hk (p1 := p1) (p2 := p2)).xP0
theorem cl114 {S : ww_S} {sh : List mm_C} {V : hV} {r : Nat} {lc lr : Int32} {B : hB} (h : LT r sh V lc lr B) {p1 : Int32} : EVQ S 7 114 [.ref 64, .int p1] (hH sh V) (xP 0 (V.1 65 4) sh V 16) := by
  obtain ⟨q0, hk⟩ := h.1.who
  exact (cw114 (S := S) hk (p1 := p1)).xP0
theorem cl115 {S : ww_S} {sh : List mm_C} {V : hV} {r : Nat} {lc lr : Int32} {B : hB} (h : LT r sh V lc lr B) : EVQ S 7 115 [.ref 64] (hH sh V) (xI 0 (V.1 65 4) sh V) := by
  obtain ⟨q0, hk⟩ := h.1.who
  exact (cw115 (S := S) hk).xI0
theorem cl116 {S : ww_S} {sh : List mm_C} {V : hV} {r : Nat} {lc lr : Int32} {B : hB} (h : LT r sh V lc lr B) : EVQ S 7 116 [.ref 64] (hH sh V) (xI 0 (V.1 65 4) sh V) := by
  obtain ⟨q0, hk⟩ := h.1.who
  exact (cw116 (S := S) hk).xI0
theorem cl117 {S : ww_S} {sh : List mm_C} {V : hV} {r : Nat} {lc lr : Int32} {B : hB} (h : LT r sh V lc lr B) : EVQ S 7 117 [.ref 64] (hH sh V) (xI 0 (V.1 65 4) sh V) := by
  obtain ⟨q0, hk⟩ := h.1.who
  exact (cw117 (S := S) hk).xI0
theorem cl118 {S : ww_S} {sh : List mm_C} {V : hV} {r : Nat} {lc lr : Int32} {B : hB} (h : LT r sh V lc lr B) : EVQ S 7 118 [.ref 64] (hH sh V) (xI 0 (V.1 65 4) sh V) := by
  obtain ⟨q0, hk⟩ := h.1.who
  exact (cw118 (S := S) hk).xZ0
theorem cl119 {S : ww_S} {sh : List mm_C} {V : hV} {r : Nat} {lc lr : Int32} {B : hB} (h : LT r sh V lc lr B) : EVQ S 7 119 [.ref 64] (hH sh V) (xI 0 (V.1 65 4) sh V) := by
  obtain ⟨q0, hk⟩ := h.1.who
  exact (cw119 (S := S) hk).xI0
theorem cl120 {S : ww_S} {sh : List mm_C} {V : hV} {r : Nat} {lc lr : Int32} {B : hB} (h : LT r sh V lc lr B) : EVQ S 7 120 [.ref 64] (hH sh V) (xI 0 (V.1 65 4) sh V) := by
  obtain ⟨q0, hk⟩ := h.1.who
  exact (cw120 (S := S) hk).xI0
theorem cl121 {S : ww_S} {sh : List mm_C} {V : hV} {r : Nat} {lc lr : Int32} {B : hB} (h : LT r sh V lc lr B) {p1 p2 : Int32} : EVQ S 2 121 [.ref 64, .int p1, .int p2] (hH sh V) (xP 0 (V.1 65 4) sh V 16) := by
  obtain ⟨q0, hk⟩ := h.1.who
  exact (cw121 (S := S) hk (p1 := p1) (p2 := p2)).xP0
theorem cl122 {S : ww_S} {sh : List mm_C} {V : hV} {r : Nat} {lc lr : Int32} {B : hB} (h : LT r sh V lc lr B) : EVQ S 3 122 [.ref 64] (hH sh V) (xI 0 (V.1 65 4) sh V) := by
  obtain ⟨q0, hk⟩ := h.1.who
  exact (cw122 (S := S) hk).xI0
theorem cl123 {S : ww_S} {sh : List mm_C} {V : hV} {r : Nat} {lc lr : Int32} {B : hB} (h : LT r sh V lc lr B) : EVQ S 7 123 [.ref 64] (hH sh V) (xI 0 (V.1 65 4) sh V) := by
  obtain ⟨q0, hk⟩ := h.1.who
  exact (cw123 (S := S) hk).xI0
theorem cl124 {S : ww_S} {sh : List mm_C} {V : hV} {r : Nat} {lc lr : Int32} {B : hB} (h : LT r sh V lc lr B) {p1 : Int32} : EVQ S 7 124 [.ref 64, .int p1] (hH sh V) (xP 0 (V.1 65 4) sh V 16) := by
  obtain ⟨q0, hk⟩ := h.1.who
  exact (cw124 (S := S) hk (p1 := p1)).xP0
theorem cl125 {S : ww_S} {sh : List mm_C} {V : hV} {r : Nat} {lc lr : Int32} {B : hB} (h : LT r sh V lc lr B) {p1 : Int32} : EVQ S 7 125 [.ref 64, .int p1] (hH sh V) (xP 0 (V.1 65 4) sh V 15) := by
  obtain ⟨q0, hk⟩ := h.1.who
  exact (cw125 (S := S) hk (p1 := p1)).xP0
theorem cl126 {S : ww_S} {sh : List mm_C} {V : hV} {r : Nat} {lc lr : Int32} {B : hB} (h : LT r sh V lc lr B) {p1 : Int32} : EVQ S 5 126 [.ref 64, .int p1] (hH sh V) (xP 0 (V.1 65 4) sh V 16) := by
  obtain ⟨q0, hk⟩ := h.1.who
  exact (cw126 (S := S) hk (p1 := p1)).xP0
theorem cl127 {S : ww_S} {sh : List mm_C} {V : hV} {r : Nat} {lc lr : Int32} {B : hB} (h : LT r sh V lc lr B) : EVQ S 2 127 [.ref 64] (hH sh V) (xI 0 (V.1 65 4) sh V) := by
  obtain ⟨q0, hk⟩ := h.1.who
  exact (cw127 (S := S) hk).xI0
theorem cl128 {S : ww_S} {sh : List mm_C} {V : hV} {r : Nat} {lc lr : Int32} {B : hB} (h : LT r sh V lc lr B) {p1 : Int32} : EVQ S 2 128 [.ref 64, .int p1] (hH sh V) (xP 0 (V.1 65 4) sh V 16) := by
  obtain ⟨q0, hk⟩ := h.1.who
  exact (cw128 (S := S) hk (p1 := p1)).xP0
theorem cl129 {S : ww_S} {sh : List mm_C} {V : hV} {r : Nat} {lc lr : Int32} {B : hB} (h : LT r sh V lc lr B) {p1 p2 : Int32} : EVQ S 3 129 [.ref 64, .int p1, .int p2] (hH sh V) (xP 0 (V.1 65 4) sh V 15) := by
  obtain ⟨q0, hk⟩ := h.1.who
  exact (cw129 (S := S) hk (p1 := p1) (p2 := p2)).xP0
theorem cl130 {S : ww_S} {sh : List mm_C} {V : hV} {r : Nat} {lc lr : Int32} {B : hB} (h : LT r sh V lc lr B) {p1 : Int32} : EVQ S 2 130 [.ref 64, .int p1] (hH sh V) (xP 0 (V.1 65 4) sh V 15) := by
  obtain ⟨q0, hk⟩ := h.1.who
  exact (cw130 (S := S) hk (p1 := p1)).xP0
theorem cl131 {S : ww_S} {sh : List mm_C} {V : hV} {r : Nat} {lc lr : Int32} {B : hB} (h : LT r sh V lc lr B) : EVQ S 3 131 [.ref 64] (hH sh V) (xI 0 (V.1 65 4) sh V) := by
  obtain ⟨q0, hk⟩ := h.1.who
  exact (cw131 (S := S) hk).xI0
theorem cl132 {S : ww_S} {sh : List mm_C} {V : hV} {r : Nat} {lc lr : Int32} {B : hB} (h : LT r sh V lc lr B) : EVQ S 3 132 [.ref 64] (hH sh V) (wF sh V) := by
  obtain ⟨q0, hk⟩ := h.1.who
  exact (cw132 (S := S) hk)
theorem cl133 {S : ww_S} {sh : List mm_C} {V : hV} {r : Nat} {lc lr : Int32} {B : hB} (h : LT r sh V lc lr B) : EVQ S 3 133 [.ref 64] (hH sh V) (wD sh V) := by
  obtain ⟨q0, hk⟩ := h.1.who
  exact (cw133 (S := S) hk h.2.1)
theorem cl134 {S : ww_S} {sh : List mm_C} {V : hV} {r : Nat} {lc lr : Int32} {B : hB} (h : LT r sh V lc lr B) : EVQ S 7 134 [.ref 64] (hH sh V) (xI 0 (V.1 65 4) sh V) := by
  obtain ⟨q0, hk⟩ := h.1.who
  exact (cw134 (S := S) h.1 h.2.1)
theorem cl135 {S : ww_S} {sh : List mm_C} {V : hV} {r : Nat} {lc lr : Int32} {B : hB} (h : LT r sh V lc lr B) {p1 : Int32} : EVQ S 7 135 [.ref 64, .int p1] (hH sh V) (xP 0 (V.1 65 4) sh V 16) := by
  obtain ⟨q0, hk⟩ := h.1.who
  exact (cw135 (S := S) h.1 h.2.1 (p1 := p1))
theorem cl136 {S : ww_S} {sh : List mm_C} {V : hV} {r : Nat} {lc lr : Int32} {B : hB} (h : LT r sh V lc lr B) {p1 : Int32} : EVQ S 7 136 [.ref 64, .int p1] (hH sh V) (xP 0 (V.1 65 4) sh V 15) := by
  obtain ⟨q0, hk⟩ := h.1.who
  exact (cw136 (S := S) h.1 h.2.1 (p1 := p1))
theorem cl137 {S : ww_S} {sh : List mm_C} {V : hV} {r : Nat} {lc lr : Int32} {B : hB} (h : LT r sh V lc lr B) {p1 p2 : Int32} : EVQ S 5 137 [.ref 64, .int p1, .int p2] (hH sh V) (xP 0 (V.1 65 4) sh V 16) := by
  obtain ⟨q0, hk⟩ := h.1.who
  exact (cw137 (S := S) h.1 h.2.1 (p1 := p1) (p2 := p2))
theorem cl138 {S : ww_S} {sh : List mm_C} {V : hV} {r : Nat} {lc lr : Int32} {B : hB} (h : LT r sh V lc lr B) {p1 : Int32} : EVQ S 6 138 [.ref 64, .int p1] (hH sh V) (xP 0 (V.1 65 4) sh V 16) := by
  obtain ⟨q0, hk⟩ := h.1.who
  exact (cw138 (S := S) h.1 h.2.1 (p1 := p1))
theorem cl139 {S : ww_S} {sh : List mm_C} {V : hV} {r : Nat} {lc lr : Int32} {B : hB} (h : LT r sh V lc lr B) {p1 : Int32} : EVQ S 7 139 [.ref 64, .int p1] (hH sh V) (xP 0 (V.1 65 4) sh V 16) := by
  obtain ⟨q0, hk⟩ := h.1.who
  exact (cw139 (S := S) h.1 h.2.1 h.2.2.2.2.2.2.2.1 h.2.2.1 (p1 := p1))
theorem cl140 {S : ww_S} {sh : List mm_C} {V : hV} {r : Nat} {lc lr : Int32} {B : hB} (h : LT r sh V lc lr B) {p1 : Int32} : EVQ S 7 140 [.ref 64, .int p1] (hH sh V) (xP 0 (V.1 65 4) sh V 16) := by
  obtain ⟨q0, hk⟩ := h.1.who
  exact (cw140 (S := S) h.1 h.2.2.2.2.2.2.2.1 h.2.2.1 (p1 := p1))
theorem cl141 {S : ww_S} {sh : List mm_C} {V : hV} {r : Nat} {lc lr : Int32} {B : hB} (h : LT r sh V lc lr B) : EVQ S 9 141 [.ref 64] (hH sh V) (xI 0 (V.1 65 4) sh V) := by
  obtain ⟨q0, hk⟩ := h.1.who
  exact (cw141 (S := S) h.1 h.2.2.2.2.2.2.2.1 h.2.2.1)
theorem cl142 {S : ww_S} {sh : List mm_C} {V : hV} {r : Nat} {lc lr : Int32} {B : hB} (h : LT r sh V lc lr B) {p1 : Int32} : EVQ S 5 142 [.ref 64, .int p1] (hH sh V) (xI 0 (V.1 65 4) sh V) := by
  obtain ⟨q0, hk⟩ := h.1.who
  exact (cw142 (S := S) h.1 h.2.2.1 (p1 := p1)).xI0
theorem cl143 {S : ww_S} {sh : List mm_C} {V : hV} {r : Nat} {lc lr : Int32} {B : hB} (h : LT r sh V lc lr B) : EVQ S 4 143 [.ref 64] (hH sh V) (xI 0 (V.1 65 4) sh V) := by
  obtain ⟨q0, hk⟩ := h.1.who
  exact (cw143 (S := S) h.1 h.2.1)
theorem cl144 {S : ww_S} {sh : List mm_C} {V : hV} {r : Nat} {lc lr : Int32} {B : hB} (h : LT r sh V lc lr B) : EVQ S 4 144 [.ref 64] (hH sh V) (xI 0 (V.1 65 4) sh V) := by
  obtain ⟨q0, hk⟩ := h.1.who
  exact (cw144 (S := S) h.1 h.2.1)
theorem cl145 {S : ww_S} {sh : List mm_C} {V : hV} {r : Nat} {lc lr : Int32} {B : hB} (h : LT r sh V lc lr B) : EVQ S 4 145 [.ref 64] (hH sh V) (xP 0 (V.1 65 4) sh V 17) := by
  obtain ⟨q0, hk⟩ := h.1.who
  exact (cw145 (S := S) h.1 h.2.1)
theorem wr314 {S : ww_S} {sh : List mm_C} {V : hV} {r l : Nat} {lr : Int32} {B : hB} (h : LT r sh V (Int32.ofNat l) lr B) (h6 : l ≤ 600) {p1 p2 p3 p4 p5 : Int32} : EVQ S 4 314 [.ref 64, .int p1, .int p2, .int p3, .int p4, .int p5, .ref 323] (hH sh V) (fun v g => ∃ (k : Int32) (s : List mm_C) (W : hV), v = .inl (some (.int k)) ∧ g = hH s W ∧ ((l ≤ 580 ∧ k = 0 ∧ OU W (Int32.ofNat (l + 20)) ∧ LT (r + 7) s W (Int32.ofNat (l + 20)) lr ((apV V l p1 p2 p3 p4 p5).1 66, B.2)) ∨ (580 < l ∧ k = 1 ∧ LT (r + 7) s W (Int32.ofNat l) lr B))) := by
  obtain ⟨v, g, e, hd⟩ := cw98 (S := S) h.1 h.2.2.2.2.2.1 h6 (p1 := p1) (p2 := p2) (p3 := p3) (p4 := p4) (p5 := p5)
  rcases hd with ⟨h5, rfl, rfl⟩ | ⟨h5, rfl, rfl⟩
  · refine ev_of P314 rfl ?_
    refine wp_aload k314_0 rfl rfl ?_
    refine wp_iconst 0 k314_2 (by decide) ?_
    refine wp_aload_n k314_3 rfl rfl ?_
    refine wp_iload_n k314_4 rfl rfl ?_
    refine wp_iload_n k314_5 rfl rfl ?_
    refine wp_iload_n k314_6 rfl rfl ?_
    refine wp_iload k314_7 rfl rfl ?_
    refine wp_iload k314_9 rfl rfl ?_
    refine wp_cv (st2 := [_, _]) k314_11 e (by decide) rfl rfl rfl rfl (by decide) h.s (by decide) ?_
    refine wp_i2l k314_14 ?_
    refine wp_lastore k314_15 (by decide) (h.ap (W := apV V l p1 p2 p3 p4 p5) apV_4 (fun a h1 h2 => apV_ne h1 h2)).o (by decide) ?_
    refine wp_goto k314_16 ?_
    refine wp_iconst 0 k314_23 (by decide) ?_
    exact wp_retI k314_24 rfl ⟨_, _, _, rfl, rfl, Or.inl ⟨h5, rfl, ou_up, ((h.ap apV_4 (fun a h1 h2 => apV_ne h1 h2)).mono (by omega)).upL⟩⟩
  · refine ev_of P314 rfl ?_
    refine wp_aload k314_0 rfl rfl ?_
    refine wp_iconst 0 k314_2 (by decide) ?_
    refine wp_aload_n k314_3 rfl rfl ?_
    refine wp_iload_n k314_4 rfl rfl ?_
    refine wp_iload_n k314_5 rfl rfl ?_
    refine wp_iload_n k314_6 rfl rfl ?_
    refine wp_iload k314_7 rfl rfl ?_
    refine wp_iload k314_9 rfl rfl ?_
    exact wp_callc k314_11 (wx_callV (by decide) rfl rfl (by decide) h.s rfl rfl) e (by decide) rfl rfl ⟨_, _, _, rfl, thr_hH, Or.inr ⟨h5, rfl, (h.thr (by decide)).mono (by omega)⟩⟩
theorem wr315 {S : ww_S} {sh : List mm_C} {V : hV} {r l : Nat} {lr : Int32} {B : hB} (h : LT r sh V (Int32.ofNat l) lr B) (h6 : l ≤ 600) {p1 : Int32} : EVQ S 2 315 [.ref 64, .int p1, .ref 323] (hH sh V) (fun v g => ∃ (k : Int32) (s : List mm_C) (W : hV), v = .inl (some (.int k)) ∧ g = hH s W ∧ ((∃ m : Nat, m ≤ l ∧ p1 = Int32.ofNat m ∧ k = 0 ∧ OU W p1 ∧ LT (r + 7) s W p1 lr B) ∨ ((p1 < 0 ∨ Int32.ofNat l < p1) ∧ k = 1 ∧ LT (r + 7) s W (Int32.ofNat l) lr B))) := by
  obtain ⟨v, g, e, hd⟩ := cw99 (S := S) h.1 h.2.2.2.2.2.1 h6 (x := p1)
  rcases hd with ⟨m, s, W, hm, h5, rfl, rfl, f⟩ | ⟨h5, rfl, rfl⟩
  · refine ev_of P315 rfl ?_
    refine wp_aload_n k315_0 rfl rfl ?_
    refine wp_iconst 0 k315_1 (by decide) ?_
    refine wp_aload_n k315_2 rfl rfl ?_
    refine wp_iload_n k315_3 rfl rfl ?_
    refine wp_cv (st2 := [_, _]) k315_4 e (by decide) rfl rfl rfl rfl (by decide) h.s (by decide) ?_
    refine wp_i2l k315_7 ?_
    refine wp_lastore k315_8 (by decide) (h.fx f).o (by decide) ?_
    refine wp_goto k315_9 ?_
    refine wp_iconst 0 k315_15 (by decide) ?_
    exact wp_retI k315_16 rfl ⟨_, _, _, rfl, rfl, Or.inl ⟨m, hm, h5, rfl, ou_up, ((h.fx f).mono (by omega)).upL⟩⟩
  · refine ev_of P315 rfl ?_
    refine wp_aload_n k315_0 rfl rfl ?_
    refine wp_iconst 0 k315_1 (by decide) ?_
    refine wp_aload_n k315_2 rfl rfl ?_
    refine wp_iload_n k315_3 rfl rfl ?_
    exact wp_callc k315_4 (wx_callV (by decide) rfl rfl (by decide) h.s rfl rfl) e (by decide) rfl rfl ⟨_, _, _, rfl, thr_hH, Or.inr ⟨h5, rfl, (h.thr (by decide)).mono (by omega)⟩⟩
theorem wr316 {S : ww_S} {sh : List mm_C} {V : hV} {r : Nat} {lc lr : Int32} {B : hB} (h : LT r sh V lc lr B) : EVQ S 11 316 [.ref 64, .ref 323] (hH sh V) (yP (r + 7) 0 lr B) := by
  refine ev_of P316 rfl ?_
  refine wp_aload_n k316_0 rfl rfl ?_
  refine wp_iconst 0 k316_1 (by decide) ?_
  refine wp_aload_n k316_2 rfl rfl ?_
  refine wcxP (st2 := [_, _]) k316_3 (cl100 h) (by decide) rfl rfl rfl rfl (by decide) h.s (by decide) rfl rfl (fun x s W f => ?_) (fun s W f => ?_)
  · refine wp_i2l k316_6 ?_
    refine wp_lastore k316_7 (by decide) (h.fx f).o (by decide) ?_
    refine wp_goto k316_8 ?_
    refine wp_iconst 0 k316_14 (by decide) ?_
    exact wp_retI k316_15 rfl ⟨_, _, _, rfl, rfl, ((h.fx f).mono (by omega)).upL⟩
  · exact ⟨_, _, _, rfl, thr_hH, ((h.fx f).thr (by decide)).mono (by omega)⟩
theorem wr317 {S : ww_S} {sh : List mm_C} {V : hV} {r : Nat} {lc lr : Int32} {B : hB} (h : LT r sh V lc lr B) : EVQ S 11 317 [.ref 64, .ref 323] (hH sh V) (yP (r + 7) 0 lr B) := by
  refine ev_of P317 rfl ?_
  refine wp_aload_n k317_0 rfl rfl ?_
  refine wp_iconst 0 k317_1 (by decide) ?_
  refine wp_aload_n k317_2 rfl rfl ?_
  refine wcxP (st2 := [_, _]) k317_3 (cl101 h) (by decide) rfl rfl rfl rfl (by decide) h.s (by decide) rfl rfl (fun x s W f => ?_) (fun s W f => ?_)
  · refine wp_i2l k317_6 ?_
    refine wp_lastore k317_7 (by decide) (h.fx f).o (by decide) ?_
    refine wp_goto k317_8 ?_
    refine wp_iconst 0 k317_14 (by decide) ?_
    exact wp_retI k317_15 rfl ⟨_, _, _, rfl, rfl, ((h.fx f).mono (by omega)).upL⟩
  · exact ⟨_, _, _, rfl, thr_hH, ((h.fx f).thr (by decide)).mono (by omega)⟩
theorem wr318 {S : ww_S} {sh : List mm_C} {V : hV} {r : Nat} {lc lr : Int32} {B : hB} (h : LT r sh V lc lr B) : EVQ S 10 318 [.ref 64, .ref 323] (hH sh V) (yP (r + 7) 0 lr B) := by
  refine ev_of P318 rfl ?_
  refine wp_aload_n k318_0 rfl rfl ?_
  refine wp_iconst 0 k318_1 (by decide) ?_
  refine wp_aload_n k318_2 rfl rfl ?_
  refine wcxP (st2 := [_, _]) k318_3 (cl102 h) (by decide) rfl rfl rfl rfl (by decide) h.s (by decide) rfl rfl (fun x s W f => ?_) (fun s W f => ?_)
  · refine wp_i2l k318_6 ?_
    refine wp_lastore k318_7 (by decide) (h.fx f).o (by decide) ?_
    refine wp_goto k318_8 ?_
    refine wp_iconst 0 k318_14 (by decide) ?_
    exact wp_retI k318_15 rfl ⟨_, _, _, rfl, rfl, ((h.fx f).mono (by omega)).upL⟩
  · exact ⟨_, _, _, rfl, thr_hH, ((h.fx f).thr (by decide)).mono (by omega)⟩
theorem wr319 {S : ww_S} {sh : List mm_C} {V : hV} {r : Nat} {lc lr : Int32} {B : hB} (h : LT r sh V lc lr B) {p1 : Int32} : EVQ S 4 319 [.ref 64, .int p1, .ref 323] (hH sh V) (yP (r + 7) lc lr B) := by
  refine ev_of P319 rfl ?_
  refine wp_aload_n k319_0 rfl rfl ?_
  refine wp_iconst 0 k319_1 (by decide) ?_
  refine wp_aload_n k319_2 rfl rfl ?_
  refine wp_iload_n k319_3 rfl rfl ?_
  refine wcxP (st2 := [_, _]) k319_4 (cl105 h) (by decide) rfl rfl rfl rfl (by decide) h.s (by decide) rfl rfl (fun x s W f => ?_) (fun s W f => ?_)
  · refine wp_i2l k319_7 ?_
    refine wp_lastore k319_8 (by decide) (h.fx0 f).o (by decide) ?_
    refine wp_goto k319_9 ?_
    refine wp_iconst 0 k319_15 (by decide) ?_
    exact wp_retI k319_16 rfl ⟨_, _, _, rfl, rfl, ((h.fx0 f).mono (by omega)).upL⟩
  · exact ⟨_, _, _, rfl, thr_hH, ((h.fx0 f).thr (by decide)).mono (by omega)⟩
theorem wr320 {S : ww_S} {sh : List mm_C} {V : hV} {r : Nat} {lc lr : Int32} {B : hB} (h : LT r sh V lc lr B) {p1 p2 p3 : Int32} : EVQ S 4 320 [.ref 64, .int p1, .int p2, .int p3, .ref 323] (hH sh V) (yP (r + 7) lc lr B) := by
  refine ev_of P320 rfl ?_
  refine wp_aload k320_0 rfl rfl ?_
  refine wp_iconst 0 k320_2 (by decide) ?_
  refine wp_aload_n k320_3 rfl rfl ?_
  refine wp_iload_n k320_4 rfl rfl ?_
  refine wp_iload_n k320_5 rfl rfl ?_
  refine wp_iload_n k320_6 rfl rfl ?_
  refine wcxP (st2 := [_, _]) k320_7 (cl106 h) (by decide) rfl rfl rfl rfl (by decide) h.s (by decide) rfl rfl (fun x s W f => ?_) (fun s W f => ?_)
  · refine wp_i2l k320_10 ?_
    refine wp_lastore k320_11 (by decide) (h.fx0 f).o (by decide) ?_
    refine wp_goto k320_12 ?_
    refine wp_iconst 0 k320_19 (by decide) ?_
    exact wp_retI k320_20 rfl ⟨_, _, _, rfl, rfl, ((h.fx0 f).mono (by omega)).upL⟩
  · exact ⟨_, _, _, rfl, thr_hH, ((h.fx0 f).thr (by decide)).mono (by omega)⟩
theorem wr321 {S : ww_S} {sh : List mm_C} {V : hV} {r : Nat} {lc lr : Int32} {B : hB} (h : LT r sh V lc lr B) {p1 : Int32} : EVQ S 3 321 [.ref 64, .int p1, .ref 323] (hH sh V) (yP (r + 7) lc lr B) := by
  refine ev_of P321 rfl ?_
  refine wp_aload_n k321_0 rfl rfl ?_
  refine wp_iconst 0 k321_1 (by decide) ?_
  refine wp_aload_n k321_2 rfl rfl ?_
  refine wp_iload_n k321_3 rfl rfl ?_
  refine wcxP (st2 := [_, _]) k321_4 (cl107 h) (by decide) rfl rfl rfl rfl (by decide) h.s (by decide) rfl rfl (fun x s W f => ?_) (fun s W f => ?_)
  · refine wp_i2l k321_7 ?_
    refine wp_lastore k321_8 (by decide) (h.fx0 f).o (by decide) ?_
    refine wp_goto k321_9 ?_
    refine wp_iconst 0 k321_15 (by decide) ?_
    exact wp_retI k321_16 rfl ⟨_, _, _, rfl, rfl, ((h.fx0 f).mono (by omega)).upL⟩
  · exact ⟨_, _, _, rfl, thr_hH, ((h.fx0 f).thr (by decide)).mono (by omega)⟩
theorem wr322 {S : ww_S} {sh : List mm_C} {V : hV} {r : Nat} {lc lr : Int32} {B : hB} (h : LT r sh V lc lr B) {p1 p2 : Int32} : EVQ S 3 322 [.ref 64, .int p1, .int p2, .ref 323] (hH sh V) (yP (r + 7) lc lr B) := by
  refine ev_of P322 rfl ?_
  refine wp_aload_n k322_0 rfl rfl ?_
  refine wp_iconst 0 k322_1 (by decide) ?_
  refine wp_aload_n k322_2 rfl rfl ?_
  refine wp_iload_n k322_3 rfl rfl ?_
  refine wp_iload_n k322_4 rfl rfl ?_
  refine wcxP (st2 := [_, _]) k322_5 (cl109 h) (by decide) rfl rfl rfl rfl (by decide) h.s (by decide) rfl rfl (fun x s W f => ?_) (fun s W f => ?_)
  · refine wp_i2l k322_8 ?_
    refine wp_lastore k322_9 (by decide) (h.fx0 f).o (by decide) ?_
    refine wp_goto k322_10 ?_
    refine wp_iconst 0 k322_17 (by decide) ?_
    exact wp_retI k322_18 rfl ⟨_, _, _, rfl, rfl, ((h.fx0 f).mono (by omega)).upL⟩
  · exact ⟨_, _, _, rfl, thr_hH, ((h.fx0 f).thr (by decide)).mono (by omega)⟩
theorem wr323 {S : ww_S} {sh : List mm_C} {V : hV} {r : Nat} {lc lr : Int32} {B : hB} (h : LT r sh V lc lr B) {p1 : Int32} : EVQ S 4 323 [.ref 64, .int p1, .ref 323] (hH sh V) (yP (r + 7) lc lr B) := by
  refine ev_of P323 rfl ?_
  refine wp_aload_n k323_0 rfl rfl ?_
  refine wp_iconst 0 k323_1 (by decide) ?_
  refine wp_aload_n k323_2 rfl rfl ?_
  refine wp_iload_n k323_3 rfl rfl ?_
  refine wcxP (st2 := [_, _]) k323_4 (cl110 h) (by decide) rfl rfl rfl rfl (by decide) h.s (by decide) rfl rfl (fun x s W f => ?_) (fun s W f => ?_)
  · refine wp_i2l k323_7 ?_
    refine wp_lastore k323_8 (by decide) (h.fx0 f).o (by decide) ?_
    refine wp_goto k323_9 ?_
    refine wp_iconst 0 k323_15 (by decide) ?_
    exact wp_retI k323_16 rfl ⟨_, _, _, rfl, rfl, ((h.fx0 f).mono (by omega)).upL⟩
  · exact ⟨_, _, _, rfl, thr_hH, ((h.fx0 f).thr (by decide)).mono (by omega)⟩
theorem wr324 {S : ww_S} {sh : List mm_C} {V : hV} {r : Nat} {lc lr : Int32} {B : hB} (h : LT r sh V lc lr B) {p1 : Int32} : EVQ S 4 324 [.ref 64, .int p1, .ref 323] (hH sh V) (yP (r + 7) lc lr B) := by
  refine ev_of P324 rfl ?_
  refine wp_aload_n k324_0 rfl rfl ?_
  refine wp_iconst 0 k324_1 (by decide) ?_
  refine wp_aload_n k324_2 rfl rfl ?_
  refine wp_iload_n k324_3 rfl rfl ?_
  refine wcxP (st2 := [_, _]) k324_4 (cl111 h) (by decide) rfl rfl rfl rfl (by decide) h.s (by decide) rfl rfl (fun x s W f => ?_) (fun s W f => ?_)
  · refine wp_i2l k324_7 ?_
    refine wp_lastore k324_8 (by decide) (h.fx0 f).o (by decide) ?_
    refine wp_goto k324_9 ?_
    refine wp_iconst 0 k324_15 (by decide) ?_
    exact wp_retI k324_16 rfl ⟨_, _, _, rfl, rfl, ((h.fx0 f).mono (by omega)).upL⟩
  · exact ⟨_, _, _, rfl, thr_hH, ((h.fx0 f).thr (by decide)).mono (by omega)⟩
theorem wr325 {S : ww_S} {sh : List mm_C} {V : hV} {r : Nat} {lc lr : Int32} {B : hB} (h : LT r sh V lc lr B) {p1 : Int32} : EVQ S 5 325 [.ref 64, .int p1, .ref 323] (hH sh V) (yP (r + 7) lc lr B) := by
  refine ev_of P325 rfl ?_
  refine wp_aload_n k325_0 rfl rfl ?_
  refine wp_iconst 0 k325_1 (by decide) ?_
  refine wp_aload_n k325_2 rfl rfl ?_
  refine wp_iload_n k325_3 rfl rfl ?_
  refine wcxP (st2 := [_, _]) k325_4 (cl112 h) (by decide) rfl rfl rfl rfl (by decide) h.s (by decide) rfl rfl (fun x s W f => ?_) (fun s W f => ?_)
  · refine wp_i2l k325_7 ?_
    refine wp_lastore k325_8 (by decide) (h.fx0 f).o (by decide) ?_
    refine wp_goto k325_9 ?_
    refine wp_iconst 0 k325_15 (by decide) ?_
    exact wp_retI k325_16 rfl ⟨_, _, _, rfl, rfl, ((h.fx0 f).mono (by omega)).upL⟩
  · exact ⟨_, _, _, rfl, thr_hH, ((h.fx0 f).thr (by decide)).mono (by omega)⟩
theorem wr326 {S : ww_S} {sh : List mm_C} {V : hV} {r : Nat} {lc lr : Int32} {B : hB} (h : LT r sh V lc lr B) {p1 p2 : Int32} : EVQ S 5 326 [.ref 64, .int p1, .int p2, .ref 323] (hH sh V) (yP (r + 7) lc lr B) := by
  refine ev_of P326 rfl ?_
  refine wp_aload_n k326_0 rfl rfl ?_
  refine wp_iconst 0 k326_1 (by decide) ?_
  refine wp_aload_n k326_2 rfl rfl ?_
  refine wp_iload_n k326_3 rfl rfl ?_
  refine wp_iload_n k326_4 rfl rfl ?_
  refine wcxP (st2 := [_, _]) k326_5 (cl113 h) (by decide) rfl rfl rfl rfl (by decide) h.s (by decide) rfl rfl (fun x s W f => ?_) (fun s W f => ?_)
  · refine wp_i2l k326_8 ?_
    refine wp_lastore k326_9 (by decide) (h.fx0 f).o (by decide) ?_
    refine wp_goto k326_10 ?_
    refine wp_iconst 0 k326_17 (by decide) ?_
    exact wp_retI k326_18 rfl ⟨_, _, _, rfl, rfl, ((h.fx0 f).mono (by omega)).upL⟩
  · exact ⟨_, _, _, rfl, thr_hH, ((h.fx0 f).thr (by decide)).mono (by omega)⟩
theorem wr327 {S : ww_S} {sh : List mm_C} {V : hV} {r : Nat} {lc lr : Int32} {B : hB} (h : LT r sh V lc lr B) {p1 : Int32} : EVQ S 8 327 [.ref 64, .int p1, .ref 323] (hH sh V) (yP (r + 7) lc lr B) := by
  refine ev_of P327 rfl ?_
  refine wp_aload_n k327_0 rfl rfl ?_
  refine wp_iconst 0 k327_1 (by decide) ?_
  refine wp_aload_n k327_2 rfl rfl ?_
  refine wp_iload_n k327_3 rfl rfl ?_
  refine wcxP (st2 := [_, _]) k327_4 (cl114 h) (by decide) rfl rfl rfl rfl (by decide) h.s (by decide) rfl rfl (fun x s W f => ?_) (fun s W f => ?_)
  · refine wp_if_eq k327_7 (fun c => ?_) (fun c => ?_)
    · refine wp_lconst 0 k327_14 rfl ?_
      refine wp_lastore k327_15 (by decide) (h.fx0 f).o (by decide) ?_
      refine wp_goto k327_16 ?_
      refine wp_iconst 0 k327_22 (by decide) ?_
      exact wp_retI k327_23 rfl ⟨_, _, _, rfl, rfl, ((h.fx0 f).mono (by omega)).upL⟩
    · refine wp_lconst 1 k327_10 rfl ?_
      refine wp_goto k327_11 ?_
      refine wp_lastore k327_15 (by decide) (h.fx0 f).o (by decide) ?_
      refine wp_goto k327_16 ?_
      refine wp_iconst 0 k327_22 (by decide) ?_
      exact wp_retI k327_23 rfl ⟨_, _, _, rfl, rfl, ((h.fx0 f).mono (by omega)).upL⟩
  · exact ⟨_, _, _, rfl, thr_hH, ((h.fx0 f).thr (by decide)).mono (by omega)⟩
theorem wr328 {S : ww_S} {sh : List mm_C} {V : hV} {r : Nat} {lc lr : Int32} {B : hB} (h : LT r sh V lc lr B) {p1 p2 : Int32} : EVQ S 3 328 [.ref 64, .int p1, .int p2, .ref 323] (hH sh V) (yP (r + 7) lc lr B) := by
  refine ev_of P328 rfl ?_
  refine wp_aload_n k328_0 rfl rfl ?_
  refine wp_iconst 0 k328_1 (by decide) ?_
  refine wp_aload_n k328_2 rfl rfl ?_
  refine wp_iload_n k328_3 rfl rfl ?_
  refine wp_iload_n k328_4 rfl rfl ?_
  refine wcxP (st2 := [_, _]) k328_5 (cl121 h) (by decide) rfl rfl rfl rfl (by decide) h.s (by decide) rfl rfl (fun x s W f => ?_) (fun s W f => ?_)
  · refine wp_i2l k328_8 ?_
    refine wp_lastore k328_9 (by decide) (h.fx0 f).o (by decide) ?_
    refine wp_goto k328_10 ?_
    refine wp_iconst 0 k328_17 (by decide) ?_
    exact wp_retI k328_18 rfl ⟨_, _, _, rfl, rfl, ((h.fx0 f).mono (by omega)).upL⟩
  · exact ⟨_, _, _, rfl, thr_hH, ((h.fx0 f).thr (by decide)).mono (by omega)⟩
theorem wr329 {S : ww_S} {sh : List mm_C} {V : hV} {r : Nat} {lc lr : Int32} {B : hB} (h : LT r sh V lc lr B) {p1 : Int32} : EVQ S 8 329 [.ref 64, .int p1, .ref 323] (hH sh V) (yP (r + 7) lc lr B) := by
  refine ev_of P329 rfl ?_
  refine wp_aload_n k329_0 rfl rfl ?_
  refine wp_iconst 0 k329_1 (by decide) ?_
  refine wp_aload_n k329_2 rfl rfl ?_
  refine wp_iload_n k329_3 rfl rfl ?_
  refine wcxP (st2 := [_, _]) k329_4 (cl124 h) (by decide) rfl rfl rfl rfl (by decide) h.s (by decide) rfl rfl (fun x s W f => ?_) (fun s W f => ?_)
  · refine wp_i2l k329_7 ?_
    refine wp_lastore k329_8 (by decide) (h.fx0 f).o (by decide) ?_
    refine wp_goto k329_9 ?_
    refine wp_iconst 0 k329_15 (by decide) ?_
    exact wp_retI k329_16 rfl ⟨_, _, _, rfl, rfl, ((h.fx0 f).mono (by omega)).upL⟩
  · exact ⟨_, _, _, rfl, thr_hH, ((h.fx0 f).thr (by decide)).mono (by omega)⟩
theorem wr330 {S : ww_S} {sh : List mm_C} {V : hV} {r : Nat} {lc lr : Int32} {B : hB} (h : LT r sh V lc lr B) {p1 : Int32} : EVQ S 8 330 [.ref 64, .int p1, .ref 323] (hH sh V) (yP (r + 7) lc lr B) := by
  refine ev_of P330 rfl ?_
  refine wp_aload_n k330_0 rfl rfl ?_
  refine wp_iconst 0 k330_1 (by decide) ?_
  refine wp_aload_n k330_2 rfl rfl ?_
  refine wp_iload_n k330_3 rfl rfl ?_
  refine wcxP (st2 := [_, _]) k330_4 (cl125 h) (by decide) rfl rfl rfl rfl (by decide) h.s (by decide) rfl rfl (fun x s W f => ?_) (fun s W f => ?_)
  · refine wp_i2l k330_7 ?_
    refine wp_lastore k330_8 (by decide) (h.fx0 f).o (by decide) ?_
    refine wp_goto k330_9 ?_
    refine wp_iconst 0 k330_15 (by decide) ?_
    exact wp_retI k330_16 rfl ⟨_, _, _, rfl, rfl, ((h.fx0 f).mono (by omega)).upL⟩
  · exact ⟨_, _, _, rfl, thr_hH, ((h.fx0 f).thr (by decide)).mono (by omega)⟩
theorem wr331 {S : ww_S} {sh : List mm_C} {V : hV} {r : Nat} {lc lr : Int32} {B : hB} (h : LT r sh V lc lr B) {p1 : Int32} : EVQ S 6 331 [.ref 64, .int p1, .ref 323] (hH sh V) (yP (r + 7) lc lr B) := by
  refine ev_of P331 rfl ?_
  refine wp_aload_n k331_0 rfl rfl ?_
  refine wp_iconst 0 k331_1 (by decide) ?_
  refine wp_aload_n k331_2 rfl rfl ?_
  refine wp_iload_n k331_3 rfl rfl ?_
  refine wcxP (st2 := [_, _]) k331_4 (cl126 h) (by decide) rfl rfl rfl rfl (by decide) h.s (by decide) rfl rfl (fun x s W f => ?_) (fun s W f => ?_)
  · refine wp_i2l k331_7 ?_
    refine wp_lastore k331_8 (by decide) (h.fx0 f).o (by decide) ?_
    refine wp_goto k331_9 ?_
    refine wp_iconst 0 k331_15 (by decide) ?_
    exact wp_retI k331_16 rfl ⟨_, _, _, rfl, rfl, ((h.fx0 f).mono (by omega)).upL⟩
  · exact ⟨_, _, _, rfl, thr_hH, ((h.fx0 f).thr (by decide)).mono (by omega)⟩
theorem wr332 {S : ww_S} {sh : List mm_C} {V : hV} {r : Nat} {lc lr : Int32} {B : hB} (h : LT r sh V lc lr B) {p1 : Int32} : EVQ S 3 332 [.ref 64, .int p1, .ref 323] (hH sh V) (yP (r + 7) lc lr B) := by
  refine ev_of P332 rfl ?_
  refine wp_aload_n k332_0 rfl rfl ?_
  refine wp_iconst 0 k332_1 (by decide) ?_
  refine wp_aload_n k332_2 rfl rfl ?_
  refine wp_iload_n k332_3 rfl rfl ?_
  refine wcxP (st2 := [_, _]) k332_4 (cl128 h) (by decide) rfl rfl rfl rfl (by decide) h.s (by decide) rfl rfl (fun x s W f => ?_) (fun s W f => ?_)
  · refine wp_i2l k332_7 ?_
    refine wp_lastore k332_8 (by decide) (h.fx0 f).o (by decide) ?_
    refine wp_goto k332_9 ?_
    refine wp_iconst 0 k332_15 (by decide) ?_
    exact wp_retI k332_16 rfl ⟨_, _, _, rfl, rfl, ((h.fx0 f).mono (by omega)).upL⟩
  · exact ⟨_, _, _, rfl, thr_hH, ((h.fx0 f).thr (by decide)).mono (by omega)⟩
theorem wr333 {S : ww_S} {sh : List mm_C} {V : hV} {r : Nat} {lc lr : Int32} {B : hB} (h : LT r sh V lc lr B) {p1 p2 : Int32} : EVQ S 4 333 [.ref 64, .int p1, .int p2, .ref 323] (hH sh V) (yP (r + 7) lc lr B) := by
  refine ev_of P333 rfl ?_
  refine wp_aload_n k333_0 rfl rfl ?_
  refine wp_iconst 0 k333_1 (by decide) ?_
  refine wp_aload_n k333_2 rfl rfl ?_
  refine wp_iload_n k333_3 rfl rfl ?_
  refine wp_iload_n k333_4 rfl rfl ?_
  refine wcxP (st2 := [_, _]) k333_5 (cl129 h) (by decide) rfl rfl rfl rfl (by decide) h.s (by decide) rfl rfl (fun x s W f => ?_) (fun s W f => ?_)
  · refine wp_i2l k333_8 ?_
    refine wp_lastore k333_9 (by decide) (h.fx0 f).o (by decide) ?_
    refine wp_goto k333_10 ?_
    refine wp_iconst 0 k333_17 (by decide) ?_
    exact wp_retI k333_18 rfl ⟨_, _, _, rfl, rfl, ((h.fx0 f).mono (by omega)).upL⟩
  · exact ⟨_, _, _, rfl, thr_hH, ((h.fx0 f).thr (by decide)).mono (by omega)⟩
theorem wr334 {S : ww_S} {sh : List mm_C} {V : hV} {r : Nat} {lc lr : Int32} {B : hB} (h : LT r sh V lc lr B) {p1 : Int32} : EVQ S 3 334 [.ref 64, .int p1, .ref 323] (hH sh V) (yP (r + 7) lc lr B) := by
  refine ev_of P334 rfl ?_
  refine wp_aload_n k334_0 rfl rfl ?_
  refine wp_iconst 0 k334_1 (by decide) ?_
  refine wp_aload_n k334_2 rfl rfl ?_
  refine wp_iload_n k334_3 rfl rfl ?_
  refine wcxP (st2 := [_, _]) k334_4 (cl130 h) (by decide) rfl rfl rfl rfl (by decide) h.s (by decide) rfl rfl (fun x s W f => ?_) (fun s W f => ?_)
  · refine wp_i2l k334_7 ?_
    refine wp_lastore k334_8 (by decide) (h.fx0 f).o (by decide) ?_
    refine wp_goto k334_9 ?_
    refine wp_iconst 0 k334_15 (by decide) ?_
    exact wp_retI k334_16 rfl ⟨_, _, _, rfl, rfl, ((h.fx0 f).mono (by omega)).upL⟩
  · exact ⟨_, _, _, rfl, thr_hH, ((h.fx0 f).thr (by decide)).mono (by omega)⟩
theorem wr335 {S : ww_S} {sh : List mm_C} {V : hV} {r : Nat} {lc lr : Int32} {B : hB} (h : LT r sh V lc lr B) {p1 : Int32} : EVQ S 8 335 [.ref 64, .int p1, .ref 323] (hH sh V) (yP (r + 7) lc lr B) := by
  refine ev_of P335 rfl ?_
  refine wp_aload_n k335_0 rfl rfl ?_
  refine wp_iconst 0 k335_1 (by decide) ?_
  refine wp_aload_n k335_2 rfl rfl ?_
  refine wp_iload_n k335_3 rfl rfl ?_
  refine wcxP (st2 := [_, _]) k335_4 (cl135 h) (by decide) rfl rfl rfl rfl (by decide) h.s (by decide) rfl rfl (fun x s W f => ?_) (fun s W f => ?_)
  · refine wp_i2l k335_7 ?_
    refine wp_lastore k335_8 (by decide) (h.fx0 f).o (by decide) ?_
    refine wp_goto k335_9 ?_
    refine wp_iconst 0 k335_15 (by decide) ?_
    exact wp_retI k335_16 rfl ⟨_, _, _, rfl, rfl, ((h.fx0 f).mono (by omega)).upL⟩
  · exact ⟨_, _, _, rfl, thr_hH, ((h.fx0 f).thr (by decide)).mono (by omega)⟩
theorem wr336 {S : ww_S} {sh : List mm_C} {V : hV} {r : Nat} {lc lr : Int32} {B : hB} (h : LT r sh V lc lr B) {p1 : Int32} : EVQ S 8 336 [.ref 64, .int p1, .ref 323] (hH sh V) (yP (r + 7) lc lr B) := by
  refine ev_of P336 rfl ?_
  refine wp_aload_n k336_0 rfl rfl ?_
  refine wp_iconst 0 k336_1 (by decide) ?_
  refine wp_aload_n k336_2 rfl rfl ?_
  refine wp_iload_n k336_3 rfl rfl ?_
  refine wcxP (st2 := [_, _]) k336_4 (cl136 h) (by decide) rfl rfl rfl rfl (by decide) h.s (by decide) rfl rfl (fun x s W f => ?_) (fun s W f => ?_)
  · refine wp_i2l k336_7 ?_
    refine wp_lastore k336_8 (by decide) (h.fx0 f).o (by decide) ?_
    refine wp_goto k336_9 ?_
    refine wp_iconst 0 k336_15 (by decide) ?_
    exact wp_retI k336_16 rfl ⟨_, _, _, rfl, rfl, ((h.fx0 f).mono (by omega)).upL⟩
  · exact ⟨_, _, _, rfl, thr_hH, ((h.fx0 f).thr (by decide)).mono (by omega)⟩
theorem wr337 {S : ww_S} {sh : List mm_C} {V : hV} {r : Nat} {lc lr : Int32} {B : hB} (h : LT r sh V lc lr B) {p1 p2 : Int32} : EVQ S 6 337 [.ref 64, .int p1, .int p2, .ref 323] (hH sh V) (yP (r + 7) lc lr B) := by
  refine ev_of P337 rfl ?_
  refine wp_aload_n k337_0 rfl rfl ?_
  refine wp_iconst 0 k337_1 (by decide) ?_
  refine wp_aload_n k337_2 rfl rfl ?_
  refine wp_iload_n k337_3 rfl rfl ?_
  refine wp_iload_n k337_4 rfl rfl ?_
  refine wcxP (st2 := [_, _]) k337_5 (cl137 h) (by decide) rfl rfl rfl rfl (by decide) h.s (by decide) rfl rfl (fun x s W f => ?_) (fun s W f => ?_)
  · refine wp_i2l k337_8 ?_
    refine wp_lastore k337_9 (by decide) (h.fx0 f).o (by decide) ?_
    refine wp_goto k337_10 ?_
    refine wp_iconst 0 k337_17 (by decide) ?_
    exact wp_retI k337_18 rfl ⟨_, _, _, rfl, rfl, ((h.fx0 f).mono (by omega)).upL⟩
  · exact ⟨_, _, _, rfl, thr_hH, ((h.fx0 f).thr (by decide)).mono (by omega)⟩
theorem wr338 {S : ww_S} {sh : List mm_C} {V : hV} {r : Nat} {lc lr : Int32} {B : hB} (h : LT r sh V lc lr B) {p1 : Int32} : EVQ S 7 338 [.ref 64, .int p1, .ref 323] (hH sh V) (yP (r + 7) lc lr B) := by
  refine ev_of P338 rfl ?_
  refine wp_aload_n k338_0 rfl rfl ?_
  refine wp_iconst 0 k338_1 (by decide) ?_
  refine wp_aload_n k338_2 rfl rfl ?_
  refine wp_iload_n k338_3 rfl rfl ?_
  refine wcxP (st2 := [_, _]) k338_4 (cl138 h) (by decide) rfl rfl rfl rfl (by decide) h.s (by decide) rfl rfl (fun x s W f => ?_) (fun s W f => ?_)
  · refine wp_i2l k338_7 ?_
    refine wp_lastore k338_8 (by decide) (h.fx0 f).o (by decide) ?_
    refine wp_goto k338_9 ?_
    refine wp_iconst 0 k338_15 (by decide) ?_
    exact wp_retI k338_16 rfl ⟨_, _, _, rfl, rfl, ((h.fx0 f).mono (by omega)).upL⟩
  · exact ⟨_, _, _, rfl, thr_hH, ((h.fx0 f).thr (by decide)).mono (by omega)⟩
theorem wr339 {S : ww_S} {sh : List mm_C} {V : hV} {r : Nat} {lc lr : Int32} {B : hB} (h : LT r sh V lc lr B) {p1 : Int32} : EVQ S 8 339 [.ref 64, .int p1, .ref 323] (hH sh V) (yP (r + 7) lc lr B) := by
  refine ev_of P339 rfl ?_
  refine wp_aload_n k339_0 rfl rfl ?_
  refine wp_iconst 0 k339_1 (by decide) ?_
  refine wp_aload_n k339_2 rfl rfl ?_
  refine wp_iload_n k339_3 rfl rfl ?_
  refine wcxP (st2 := [_, _]) k339_4 (cl139 h) (by decide) rfl rfl rfl rfl (by decide) h.s (by decide) rfl rfl (fun x s W f => ?_) (fun s W f => ?_)
  · refine wp_i2l k339_7 ?_
    refine wp_lastore k339_8 (by decide) (h.fx0 f).o (by decide) ?_
    refine wp_goto k339_9 ?_
    refine wp_iconst 0 k339_15 (by decide) ?_
    exact wp_retI k339_16 rfl ⟨_, _, _, rfl, rfl, ((h.fx0 f).mono (by omega)).upL⟩
  · exact ⟨_, _, _, rfl, thr_hH, ((h.fx0 f).thr (by decide)).mono (by omega)⟩
theorem wr340 {S : ww_S} {sh : List mm_C} {V : hV} {r : Nat} {lc lr : Int32} {B : hB} (h : LT r sh V lc lr B) {p1 : Int32} : EVQ S 8 340 [.ref 64, .int p1, .ref 323] (hH sh V) (yP (r + 7) lc lr B) := by
  refine ev_of P340 rfl ?_
  refine wp_aload_n k340_0 rfl rfl ?_
  refine wp_iconst 0 k340_1 (by decide) ?_
  refine wp_aload_n k340_2 rfl rfl ?_
  refine wp_iload_n k340_3 rfl rfl ?_
  refine wcxP (st2 := [_, _]) k340_4 (cl140 h) (by decide) rfl rfl rfl rfl (by decide) h.s (by decide) rfl rfl (fun x s W f => ?_) (fun s W f => ?_)
  · refine wp_i2l k340_7 ?_
    refine wp_lastore k340_8 (by decide) (h.fx0 f).o (by decide) ?_
    refine wp_goto k340_9 ?_
    refine wp_iconst 0 k340_15 (by decide) ?_
    exact wp_retI k340_16 rfl ⟨_, _, _, rfl, rfl, ((h.fx0 f).mono (by omega)).upL⟩
  · exact ⟨_, _, _, rfl, thr_hH, ((h.fx0 f).thr (by decide)).mono (by omega)⟩
theorem wr341 {S : ww_S} {sh : List mm_C} {V : hV} {r : Nat} {lc lr : Int32} {B : hB} (h : LT r sh V lc lr B) : EVQ S 5 341 [.ref 64, .ref 323] (hH sh V) (yP (r + 7) lc lr B) := by
  refine ev_of P341 rfl ?_
  refine wp_aload_n k341_0 rfl rfl ?_
  refine wp_iconst 0 k341_1 (by decide) ?_
  refine wp_aload_n k341_2 rfl rfl ?_
  refine wcxP (st2 := [_, _]) k341_3 (cl145 h) (by decide) rfl rfl rfl rfl (by decide) h.s (by decide) rfl rfl (fun x s W f => ?_) (fun s W f => ?_)
  · refine wp_i2l k341_6 ?_
    refine wp_lastore k341_7 (by decide) (h.fx0 f).o (by decide) ?_
    refine wp_goto k341_8 ?_
    refine wp_iconst 0 k341_14 (by decide) ?_
    exact wp_retI k341_15 rfl ⟨_, _, _, rfl, rfl, ((h.fx0 f).mono (by omega)).upL⟩
  · exact ⟨_, _, _, rfl, thr_hH, ((h.fx0 f).thr (by decide)).mono (by omega)⟩
theorem wx316 {S : ww_S} {sh : List mm_C} {V : hV} {r l : Nat} {lr : Int32} {B : hB} (h : LT r sh V (Int32.ofNat l) lr B) (h6 : l ≤ 600) : EVQ S 11 316 [.ref 64, .ref 323] (hH sh V) (fun v g => ∃ (k : Int32) (s : List mm_C) (W : hV), v = .inl (some (.int k)) ∧ g = hH s W ∧ LT (r + 7) s W 0 lr B ∧ ((dsA (V.1 66) l = none ∧ k = 1) ∨ ∃ t, dsA (V.1 66) l = some t ∧ k = 0 ∧ OU W (bcF t.2.2.2.2.2.1))) := by
  obtain ⟨v, g, e, s, W, f, hd⟩ := x_read (S := S) h.1 h.2.2.2.2.2.2.2.1 h.2.2.1 h.2.1 h.2.2.2.2.2.1 h6
  have h2 := h.fx f
  rcases hd with ⟨a, rfl, rfl⟩ | ⟨t, a, rfl, rfl⟩
  · refine ev_of P316 rfl ?_
    refine wp_aload_n k316_0 rfl rfl ?_
    refine wp_iconst 0 k316_1 (by decide) ?_
    refine wp_aload_n k316_2 rfl rfl ?_
    exact wp_callc k316_3 (wx_callV (by decide) rfl rfl (by decide) h.s rfl rfl) e (by decide) rfl rfl ⟨_, _, _, rfl, thr_hH, (h2.thr (by decide)).mono (by omega), Or.inl ⟨a, rfl⟩⟩
  · refine ev_of P316 rfl ?_
    refine wp_aload_n k316_0 rfl rfl ?_
    refine wp_iconst 0 k316_1 (by decide) ?_
    refine wp_aload_n k316_2 rfl rfl ?_
    refine wp_cv (st2 := [_, _]) k316_3 e (by decide) rfl rfl rfl rfl (by decide) h.s (by decide) ?_
    refine wp_i2l k316_6 ?_
    refine wp_lastore k316_7 (by decide) (h.fx f).o (by decide) ?_
    refine wp_goto k316_8 ?_
    refine wp_iconst 0 k316_14 (by decide) ?_
    exact wp_retI k316_15 rfl ⟨_, _, _, rfl, rfl, (h2.mono (by omega)).upL, Or.inr ⟨t, a, rfl, ou_up⟩⟩
end M79
