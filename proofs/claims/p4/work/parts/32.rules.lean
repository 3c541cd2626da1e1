/-! ===== a rule for each instruction ===== -/
section WR
variable {S : ww_S} {D : Nat} {M : mm_M} {pc p9 nx : Nat} {L : mm_L} {st : List Value} {h : mm_H} {Q : mm_V → mm_H → Prop} {ax : List Nat} {sh : List mm_C} {V : hV}
theorem wx_ld {i : Nat} {ok : Value → Bool} {v : Value} (hx : mm_get L i = some v) (hv : ok v = true) : mm_ld nx L st i ok = some (.inl (nx, L, v :: st, none)) := by
  unfold mm_ld
  rw [hx]
  dsimp only
  rw [if_pos hv]
  rfl
theorem wx_s1 {i : Nat} {ok : Value → Bool} {v : Value} {L1 : mm_L} (hv : ok v = true) (hL : mm_set1 L i v = some L1) : mm_s1 nx L (v :: st) i ok = some (.inl (nx, L1, st, none)) := by
  unfold mm_s1
  dsimp only
  rw [if_pos hv, hL]
  rfl
theorem wx_i2 {f : Int32 → Int32 → Int32} {x y : Int32} : mm_i2 nx L (.int y :: .int x :: st) f = some (.inl (nx, L, .int (f x y) :: st, none)) := by
  unfold mm_i2
  dsimp only
  rw [mm_fI_eq]
  rfl
theorem wx_i1 {f : Int32 → Int32} {x : Int32} : mm_i1 nx L (.int x :: st) f = some (.inl (nx, L, .int (f x) :: st, none)) := by
  unfold mm_i1
  dsimp only
  rw [mm_fI_eq]
  rfl
theorem wp_aload_n {k : Fin 4} (hk : mm_lk M.1 pc = some (p9, .aload_n k, nx, ax)) {v : Value} (hx : mm_get L k.val = some v) (hv : mm_isA v = true) (w : WP S D M nx L (v :: st) h Q) : WP S D M pc L st h Q := wp_go hk (wx_ld hx hv) w
theorem wp_aload {k : Nat} (hk : mm_lk M.1 pc = some (p9, .aload k, nx, ax)) {v : Value} (hx : mm_get L k = some v) (hv : mm_isA v = true) (w : WP S D M nx L (v :: st) h Q) : WP S D M pc L st h Q := wp_go hk (wx_ld hx hv) w
theorem wp_iload_n {k : Fin 4} (hk : mm_lk M.1 pc = some (p9, .iload_n k, nx, ax)) {v : Value} (hx : mm_get L k.val = some v) (hv : mm_isI v = true) (w : WP S D M nx L (v :: st) h Q) : WP S D M pc L st h Q := wp_go hk (wx_ld hx hv) w
theorem wp_iload {k : Nat} (hk : mm_lk M.1 pc = some (p9, .iload k, nx, ax)) {v : Value} (hx : mm_get L k = some v) (hv : mm_isI v = true) (w : WP S D M nx L (v :: st) h Q) : WP S D M pc L st h Q := wp_go hk (wx_ld hx hv) w
theorem wp_lload_n {k : Fin 4} (hk : mm_lk M.1 pc = some (p9, .lload_n k, nx, ax)) {v : Value} (hx : mm_get L k.val = some v) (hv : mm_isL v = true) (w : WP S D M nx L (v :: st) h Q) : WP S D M pc L st h Q := wp_go hk (wx_ld hx hv) w
theorem wp_lload {k : Nat} (hk : mm_lk M.1 pc = some (p9, .lload k, nx, ax)) {v : Value} (hx : mm_get L k = some v) (hv : mm_isL v = true) (w : WP S D M nx L (v :: st) h Q) : WP S D M pc L st h Q := wp_go hk (wx_ld hx hv) w
theorem wp_dload_n {k : Fin 4} (hk : mm_lk M.1 pc = some (p9, .dload_n k, nx, ax)) {v : Value} (hx : mm_get L k.val = some v) (hv : mm_isD v = true) (w : WP S D M nx L (v :: st) h Q) : WP S D M pc L st h Q := wp_go hk (wx_ld hx hv) w
theorem wp_dload {k : Nat} (hk : mm_lk M.1 pc = some (p9, .dload k, nx, ax)) {v : Value} (hx : mm_get L k = some v) (hv : mm_isD v = true) (w : WP S D M nx L (v :: st) h Q) : WP S D M pc L st h Q := wp_go hk (wx_ld hx hv) w
theorem wp_astore_n {k : Fin 4} (hk : mm_lk M.1 pc = some (p9, .astore_n k, nx, ax)) {v : Value} {L1 : mm_L} (hv : mm_isA v = true) (hL : mm_set1 L k.val v = some L1) (w : WP S D M nx L1 st h Q) : WP S D M pc L (v :: st) h Q := wp_go hk (wx_s1 hv hL) w
theorem wp_astore {k : Nat} (hk : mm_lk M.1 pc = some (p9, .astore k, nx, ax)) {v : Value} {L1 : mm_L} (hv : mm_isA v = true) (hL : mm_set1 L k v = some L1) (w : WP S D M nx L1 st h Q) : WP S D M pc L (v :: st) h Q := wp_go hk (wx_s1 hv hL) w
theorem wp_istore_n {k : Fin 4} (hk : mm_lk M.1 pc = some (p9, .istore_n k, nx, ax)) {v : Value} {L1 : mm_L} (hv : mm_isI v = true) (hL : mm_set1 L k.val v = some L1) (w : WP S D M nx L1 st h Q) : WP S D M pc L (v :: st) h Q := wp_go hk (wx_s1 hv hL) w
theorem wp_istore {k : Nat} (hk : mm_lk M.1 pc = some (p9, .istore k, nx, ax)) {v : Value} {L1 : mm_L} (hv : mm_isI v = true) (hL : mm_set1 L k v = some L1) (w : WP S D M nx L1 st h Q) : WP S D M pc L (v :: st) h Q := wp_go hk (wx_s1 hv hL) w
theorem wp_lstore {k : Nat} (hk : mm_lk M.1 pc = some (p9, .lstore k, nx, ax)) {v : Value} {L1 : mm_L} (hv : mm_isL v = true) (hL : mm_set2 L k v = some L1) (w : WP S D M nx L1 st h Q) : WP S D M pc L (v :: st) h Q := wp_go hk (by show mm_s2 nx L (v :: st) k mm_isL = _; unfold mm_s2; dsimp only; rw [if_pos hv, hL]; rfl) w
theorem wp_dstore {k : Nat} (hk : mm_lk M.1 pc = some (p9, .dstore k, nx, ax)) {v : Value} {L1 : mm_L} (hv : mm_isD v = true) (hL : mm_set2 L k v = some L1) (w : WP S D M nx L1 st h Q) : WP S D M pc L (v :: st) h Q := wp_go hk (by show mm_s2 nx L (v :: st) k mm_isD = _; unfold mm_s2; dsimp only; rw [if_pos hv, hL]; rfl) w
theorem wp_iconst {n : Int} (z : Int32) (hk : mm_lk M.1 pc = some (p9, .iconst n, nx, ax)) (hz : Int32.ofInt n = z) (w : WP S D M nx L (.int z :: st) h Q) : WP S D M pc L st h Q := wp_go hk (by simp only [mm_stp]; rw [mm_fI_eq, hz]; rfl) w
theorem wp_bipush {n : Int} (z : Int32) (hk : mm_lk M.1 pc = some (p9, .bipush n, nx, ax)) (hz : (Int8.ofInt n).toInt32 = z) (w : WP S D M nx L (.int z :: st) h Q) : WP S D M pc L st h Q := wp_go hk (by simp only [mm_stp]; rw [mm_fI_eq, hz]; rfl) w
theorem wp_sipush {n : Int} (z : Int32) (hk : mm_lk M.1 pc = some (p9, .sipush n, nx, ax)) (hz : (Int16.ofInt n).toInt32 = z) (w : WP S D M nx L (.int z :: st) h Q) : WP S D M pc L st h Q := wp_go hk (by simp only [mm_stp]; rw [mm_fI_eq, hz]; rfl) w
theorem wp_lconst {n : Fin 2} (z : Int64) (hk : mm_lk M.1 pc = some (p9, .lconst n, nx, ax)) (hz : Int64.ofNat n.val = z) (w : WP S D M nx L (.long z :: st) h Q) : WP S D M pc L st h Q := wp_go hk rfl (by rw [hz]; exact w)
theorem wp_aconst_null (hk : mm_lk M.1 pc = some (p9, .aconst_null, nx, ax)) (w : WP S D M nx L (.null :: st) h Q) : WP S D M pc L st h Q := wp_go hk rfl w
theorem wp_ldcI {u c : Nat} {r : List Nat} (z : Int32) (hk : mm_lk M.1 pc = some (p9, .ldc u, nx, 0 :: c :: r)) (hz : Int32.ofNat c = z) (w : WP S D M nx L (.int z :: st) h Q) : WP S D M pc L st h Q := wp_go hk rfl (by rw [hz]; exact w)
theorem wp_ldcR {u c : Nat} {r : List Nat} (hk : mm_lk M.1 pc = some (p9, .ldc u, nx, 1 :: c :: r)) (w : WP S D M nx L (.ref c :: st) h Q) : WP S D M pc L st h Q := wp_go hk rfl w
theorem wp_ldc_wI {u c : Nat} {r : List Nat} (z : Int32) (hk : mm_lk M.1 pc = some (p9, .ldc_w u, nx, 0 :: c :: r)) (hz : Int32.ofNat c = z) (w : WP S D M nx L (.int z :: st) h Q) : WP S D M pc L st h Q := wp_go hk rfl (by rw [hz]; exact w)
theorem wp_ldc_wR {u c : Nat} {r : List Nat} (hk : mm_lk M.1 pc = some (p9, .ldc_w u, nx, 1 :: c :: r)) (w : WP S D M nx L (.ref c :: st) h Q) : WP S D M pc L st h Q := wp_go hk rfl w
theorem wp_ldc2_w {u c : Nat} {r : List Nat} (hk : mm_lk M.1 pc = some (p9, .ldc2_w u, nx, c :: r)) (w : WP S D M nx L (.long (Int64.ofNat c) :: st) h Q) : WP S D M pc L st h Q := wp_go hk rfl w
theorem wp_iadd (hk : mm_lk M.1 pc = some (p9, .iadd, nx, ax)) {x y : Int32} (w : WP S D M nx L (.int (x + y) :: st) h Q) : WP S D M pc L (.int y :: .int x :: st) h Q := wp_go hk (wx_i2 (f := fun x y => x + y)) w
theorem wp_isub (hk : mm_lk M.1 pc = some (p9, .isub, nx, ax)) {x y : Int32} (w : WP S D M nx L (.int (x - y) :: st) h Q) : WP S D M pc L (.int y :: .int x :: st) h Q := wp_go hk (wx_i2 (f := fun x y => x - y)) w
theorem wp_imul (hk : mm_lk M.1 pc = some (p9, .imul, nx, ax)) {x y : Int32} (w : WP S D M nx L (.int (x * y) :: st) h Q) : WP S D M pc L (.int y :: .int x :: st) h Q := wp_go hk (wx_i2 (f := fun x y => x * y)) w
theorem wp_iand (hk : mm_lk M.1 pc = some (p9, .iand, nx, ax)) {x y : Int32} (w : WP S D M nx L (.int (x &&& y) :: st) h Q) : WP S D M pc L (.int y :: .int x :: st) h Q := wp_go hk (wx_i2 (f := fun x y => x &&& y)) w
theorem wp_ior (hk : mm_lk M.1 pc = some (p9, .ior, nx, ax)) {x y : Int32} (w : WP S D M nx L (.int (x ||| y) :: st) h Q) : WP S D M pc L (.int y :: .int x :: st) h Q := wp_go hk (wx_i2 (f := fun x y => x ||| y)) w
theorem wp_ixor (hk : mm_lk M.1 pc = some (p9, .ixor, nx, ax)) {x y : Int32} (w : WP S D M nx L (.int (x ^^^ y) :: st) h Q) : WP S D M pc L (.int y :: .int x :: st) h Q := wp_go hk (wx_i2 (f := fun x y => x ^^^ y)) w
theorem wp_ishl (hk : mm_lk M.1 pc = some (p9, .ishl, nx, ax)) {x y : Int32} (w : WP S D M nx L (.int (x <<< (y &&& 31)) :: st) h Q) : WP S D M pc L (.int y :: .int x :: st) h Q := wp_go hk (wx_i2 (f := fun x y => x <<< (y &&& 31))) w
theorem wp_ishr (hk : mm_lk M.1 pc = some (p9, .ishr, nx, ax)) {x y : Int32} (w : WP S D M nx L (.int (x >>> (y &&& 31)) :: st) h Q) : WP S D M pc L (.int y :: .int x :: st) h Q := wp_go hk (wx_i2 (f := fun x y => x >>> (y &&& 31))) w
theorem wp_iushr (hk : mm_lk M.1 pc = some (p9, .iushr, nx, ax)) {x y : Int32} (w : WP S D M nx L (.int ((x.toUInt32 >>> (y.toUInt32 &&& Int32.toUInt32 31)).toInt32) :: st) h Q) : WP S D M pc L (.int y :: .int x :: st) h Q := wp_go hk (wx_i2 (f := fun x y => (x.toUInt32 >>> (y.toUInt32 &&& Int32.toUInt32 31)).toInt32)) w
theorem wp_idiv (hk : mm_lk M.1 pc = some (p9, .idiv, nx, ax)) {x y : Int32} (hy : mm_eq y 0 = false) (w : WP S D M nx L (.int (x / y) :: st) h Q) : WP S D M pc L (.int y :: .int x :: st) h Q := wp_go hk (by simp only [mm_stp]; rw [hy]; exact wx_i2 (f := fun x y => x / y)) w
theorem wp_irem (hk : mm_lk M.1 pc = some (p9, .irem, nx, ax)) {x y : Int32} (hy : mm_eq y 0 = false) (w : WP S D M nx L (.int (x - x / y * y) :: st) h Q) : WP S D M pc L (.int y :: .int x :: st) h Q := wp_go hk (by simp only [mm_stp]; rw [hy]; exact wx_i2 (f := fun x y => x - x / y * y)) w
theorem wp_ineg (hk : mm_lk M.1 pc = some (p9, .ineg, nx, ax)) {x : Int32} (w : WP S D M nx L (.int (-x) :: st) h Q) : WP S D M pc L (.int x :: st) h Q := wp_go hk (wx_i1 (f := fun x => -x)) w
theorem wp_i2b (hk : mm_lk M.1 pc = some (p9, .i2b, nx, ax)) {x : Int32} (w : WP S D M nx L (.int (x.toInt8.toInt32) :: st) h Q) : WP S D M pc L (.int x :: st) h Q := wp_go hk (wx_i1 (f := fun x => x.toInt8.toInt32)) w
theorem wp_i2c (hk : mm_lk M.1 pc = some (p9, .i2c, nx, ax)) {x : Int32} (w : WP S D M nx L (.int ((x.toUInt32 % 65536).toInt32) :: st) h Q) : WP S D M pc L (.int x :: st) h Q := wp_go hk (wx_i1 (f := fun x => (x.toUInt32 % 65536).toInt32)) w
theorem wp_i2l (hk : mm_lk M.1 pc = some (p9, .i2l, nx, ax)) {x : Int32} (w : WP S D M nx L (.long x.toInt64 :: st) h Q) : WP S D M pc L (.int x :: st) h Q := wp_go hk (by simp only [mm_stp]; rw [mm_fL_eq]; rfl) w
theorem wp_lcmp (hk : mm_lk M.1 pc = some (p9, .lcmp, nx, ax)) {x y : Int64} (w : WP S D M nx L (.int (mm_lcmp x y) :: st) h Q) : WP S D M pc L (.long y :: .long x :: st) h Q := wp_go hk (by simp only [mm_stp]; rw [mm_fI_eq]; rfl) w
theorem wp_dup (hk : mm_lk M.1 pc = some (p9, .dup, nx, ax)) {v : Value} (hv : mm_cat2 v = false) (w : WP S D M nx L (v :: v :: st) h Q) : WP S D M pc L (v :: st) h Q := wp_go hk (by simp only [mm_stp]; rw [if_neg (by rw [hv]; decide)]; rfl) w
theorem wp_pop (hk : mm_lk M.1 pc = some (p9, .pop, nx, ax)) {v : Value} (hv : mm_cat2 v = false) (w : WP S D M nx L st h Q) : WP S D M pc L (v :: st) h Q := wp_go hk (by simp only [mm_stp]; rw [if_neg (by rw [hv]; decide)]; rfl) w
theorem wp_dup_x1 (hk : mm_lk M.1 pc = some (p9, .dup_x1, nx, ax)) {v u : Value} (hv : mm_cat2 v = false) (hu : mm_cat2 u = false) (w : WP S D M nx L (v :: u :: v :: st) h Q) : WP S D M pc L (v :: u :: st) h Q := wp_go hk (by simp only [mm_stp]; rw [if_neg (by rw [hv, hu]; decide)]; rfl) w
theorem wp_dup2 (hk : mm_lk M.1 pc = some (p9, .dup2, nx, ax)) {v u : Value} (hv : mm_cat2 v = false) (hu : mm_cat2 u = false) (w : WP S D M nx L (v :: u :: v :: u :: st) h Q) : WP S D M pc L (v :: u :: st) h Q := wp_go hk (by simp only [mm_stp]; rw [if_neg (by rw [hv, hu]; decide)]; rfl) w
theorem wp_iinc {k : Nat} {n : Int} (z : Int32) (hk : mm_lk M.1 pc = some (p9, .iinc k n, nx, ax)) {x : Int32} {L1 : mm_L} (hx : mm_get L k = some (.int x)) (hz : Int32.ofInt n = z) (hL : mm_set1 L k (.int (x + z)) = some L1) (w : WP S D M nx L1 st h Q) : WP S D M pc L st h Q := wp_go hk (by simp only [mm_stp]; rw [hx]; dsimp only; rw [mm_fI_eq, hz, hL]; rfl) w
theorem wp_goto {d : Int} {t : Nat} (hk : mm_lk M.1 pc = some (p9, .goto d, nx, [t])) (w : WP S D M t L st h Q) : WP S D M pc L st h Q := wp_go hk rfl w
theorem wx_br {t : Nat} {b : Bool} (w1 : b = true → WP S D M t L st h Q) (w2 : b = false → WP S D M nx L st h Q) {mi : mm_I} {st9 : List Value} (hk : mm_lk M.1 pc = some mi) (hs : mm_stp (ww_X S) h L st9 mi = mm_br nx L [t] st b) : WP S D M pc L st9 h Q := by
  cases b with
  | true => exact wp_go hk hs (w1 rfl)
  | false => exact wp_go hk hs (w2 rfl)
theorem wp_if_icmp_eq {d : Int} {t : Nat} (hk : mm_lk M.1 pc = some (p9, .if_icmp .eq d, nx, [t])) {x y : Int32} (w1 : x = y → WP S D M t L st h Q) (w2 : ¬ x = y → WP S D M nx L st h Q) : WP S D M pc L (.int y :: .int x :: st) h Q := wx_br (b := mm_cnd .eq x y) (fun q => w1 ((mm_cnd_iff .eq x y).mp q)) (fun q => w2 (fun e => Bool.false_ne_true (q.symm.trans ((mm_cnd_iff .eq x y).mpr e)))) hk rfl
theorem wp_if_eq {d : Int} {t : Nat} (hk : mm_lk M.1 pc = some (p9, .ifCond .eq d, nx, [t])) {x : Int32} (w1 : x = 0 → WP S D M t L st h Q) (w2 : ¬ x = 0 → WP S D M nx L st h Q) : WP S D M pc L (.int x :: st) h Q := wx_br (b := mm_cnd .eq x 0) (fun q => w1 ((mm_cnd_iff .eq x 0).mp q)) (fun q => w2 (fun e => Bool.false_ne_true (q.symm.trans ((mm_cnd_iff .eq x 0).mpr e)))) hk rfl
theorem wp_if_icmp_ne {d : Int} {t : Nat} (hk : mm_lk M.1 pc = some (p9, .if_icmp .ne d, nx, [t])) {x y : Int32} (w1 : ¬ x = y → WP S D M t L st h Q) (w2 : x = y → WP S D M nx L st h Q) : WP S D M pc L (.int y :: .int x :: st) h Q := wx_br (b := mm_cnd .ne x y) (fun q => w1 ((mm_cnd_iff .ne x y).mp q)) (fun q => w2 (Decidable.byContradiction fun e => Bool.false_ne_true (q.symm.trans ((mm_cnd_iff .ne x y).mpr e)))) hk rfl
theorem wp_if_ne {d : Int} {t : Nat} (hk : mm_lk M.1 pc = some (p9, .ifCond .ne d, nx, [t])) {x : Int32} (w1 : ¬ x = 0 → WP S D M t L st h Q) (w2 : x = 0 → WP S D M nx L st h Q) : WP S D M pc L (.int x :: st) h Q := wx_br (b := mm_cnd .ne x 0) (fun q => w1 ((mm_cnd_iff .ne x 0).mp q)) (fun q => w2 (Decidable.byContradiction fun e => Bool.false_ne_true (q.symm.trans ((mm_cnd_iff .ne x 0).mpr e)))) hk rfl
theorem wp_if_icmp_lt {d : Int} {t : Nat} (hk : mm_lk M.1 pc = some (p9, .if_icmp .lt d, nx, [t])) {x y : Int32} (w1 : x < y → WP S D M t L st h Q) (w2 : ¬ x < y → WP S D M nx L st h Q) : WP S D M pc L (.int y :: .int x :: st) h Q := wx_br (b := mm_cnd .lt x y) (fun q => w1 ((mm_cnd_iff .lt x y).mp q)) (fun q => w2 (fun e => Bool.false_ne_true (q.symm.trans ((mm_cnd_iff .lt x y).mpr e)))) hk rfl
theorem wp_if_lt {d : Int} {t : Nat} (hk : mm_lk M.1 pc = some (p9, .ifCond .lt d, nx, [t])) {x : Int32} (w1 : x < 0 → WP S D M t L st h Q) (w2 : ¬ x < 0 → WP S D M nx L st h Q) : WP S D M pc L (.int x :: st) h Q := wx_br (b := mm_cnd .lt x 0) (fun q => w1 ((mm_cnd_iff .lt x 0).mp q)) (fun q => w2 (fun e => Bool.false_ne_true (q.symm.trans ((mm_cnd_iff .lt x 0).mpr e)))) hk rfl
theorem wp_if_icmp_ge {d : Int} {t : Nat} (hk : mm_lk M.1 pc = some (p9, .if_icmp .ge d, nx, [t])) {x y : Int32} (w1 : ¬ x < y → WP S D M t L st h Q) (w2 : x < y → WP S D M nx L st h Q) : WP S D M pc L (.int y :: .int x :: st) h Q := wx_br (b := mm_cnd .ge x y) (fun q => w1 ((mm_cnd_iff .ge x y).mp q)) (fun q => w2 (Decidable.byContradiction fun e => Bool.false_ne_true (q.symm.trans ((mm_cnd_iff .ge x y).mpr e)))) hk rfl
theorem wp_if_ge {d : Int} {t : Nat} (hk : mm_lk M.1 pc = some (p9, .ifCond .ge d, nx, [t])) {x : Int32} (w1 : ¬ x < 0 → WP S D M t L st h Q) (w2 : x < 0 → WP S D M nx L st h Q) : WP S D M pc L (.int x :: st) h Q := wx_br (b := mm_cnd .ge x 0) (fun q => w1 ((mm_cnd_iff .ge x 0).mp q)) (fun q => w2 (Decidable.byContradiction fun e => Bool.false_ne_true (q.symm.trans ((mm_cnd_iff .ge x 0).mpr e)))) hk rfl
theorem wp_if_icmp_gt {d : Int} {t : Nat} (hk : mm_lk M.1 pc = some (p9, .if_icmp .gt d, nx, [t])) {x y : Int32} (w1 : y < x → WP S D M t L st h Q) (w2 : ¬ y < x → WP S D M nx L st h Q) : WP S D M pc L (.int y :: .int x :: st) h Q := wx_br (b := mm_cnd .gt x y) (fun q => w1 ((mm_cnd_iff .gt x y).mp q)) (fun q => w2 (fun e => Bool.false_ne_true (q.symm.trans ((mm_cnd_iff .gt x y).mpr e)))) hk rfl
theorem wp_if_gt {d : Int} {t : Nat} (hk : mm_lk M.1 pc = some (p9, .ifCond .gt d, nx, [t])) {x : Int32} (w1 : 0 < x → WP S D M t L st h Q) (w2 : ¬ 0 < x → WP S D M nx L st h Q) : WP S D M pc L (.int x :: st) h Q := wx_br (b := mm_cnd .gt x 0) (fun q => w1 ((mm_cnd_iff .gt x 0).mp q)) (fun q => w2 (fun e => Bool.false_ne_true (q.symm.trans ((mm_cnd_iff .gt x 0).mpr e)))) hk rfl
theorem wp_if_icmp_le {d : Int} {t : Nat} (hk : mm_lk M.1 pc = some (p9, .if_icmp .le d, nx, [t])) {x y : Int32} (w1 : ¬ y < x → WP S D M t L st h Q) (w2 : y < x → WP S D M nx L st h Q) : WP S D M pc L (.int y :: .int x :: st) h Q := wx_br (b := mm_cnd .le x y) (fun q => w1 ((mm_cnd_iff .le x y).mp q)) (fun q => w2 (Decidable.byContradiction fun e => Bool.false_ne_true (q.symm.trans ((mm_cnd_iff .le x y).mpr e)))) hk rfl
theorem wp_if_le {d : Int} {t : Nat} (hk : mm_lk M.1 pc = some (p9, .ifCond .le d, nx, [t])) {x : Int32} (w1 : ¬ 0 < x → WP S D M t L st h Q) (w2 : 0 < x → WP S D M nx L st h Q) : WP S D M pc L (.int x :: st) h Q := wx_br (b := mm_cnd .le x 0) (fun q => w1 ((mm_cnd_iff .le x 0).mp q)) (fun q => w2 (Decidable.byContradiction fun e => Bool.false_ne_true (q.symm.trans ((mm_cnd_iff .le x 0).mpr e)))) hk rfl
theorem wp_ifnull_n {d : Int} {t : Nat} (hk : mm_lk M.1 pc = some (p9, .ifnull d, nx, [t])) (w : WP S D M t L st h Q) : WP S D M pc L (.null :: st) h Q := wp_go hk rfl w
theorem wp_ifnull_r {d : Int} {t : Nat} (hk : mm_lk M.1 pc = some (p9, .ifnull d, nx, [t])) {a : Nat} (ha : 64 ≤ a) (w : WP S D M nx L st h Q) : WP S D M pc L (.ref a :: st) h Q := wp_go hk (by simp only [mm_stp]; rw [show Nat.beq a 63 = false from Bool.eq_false_iff.mpr fun e => by have := Nat.beq_eq.mp e; omega]; rfl) w
theorem wp_ifnonnull_r {d : Int} {t : Nat} (hk : mm_lk M.1 pc = some (p9, .ifnonnull d, nx, [t])) {a : Nat} (ha : 64 ≤ a) (w : WP S D M t L st h Q) : WP S D M pc L (.ref a :: st) h Q := wp_go hk (by simp only [mm_stp]; rw [show Nat.beq a 63 = false from Bool.eq_false_iff.mpr fun e => by have := Nat.beq_eq.mp e; omega]; rfl) w
theorem wp_tsw {a b : Int} {l0 dd : Nat} {offs : Array Int} {ts : List Nat} (hk : mm_lk M.1 pc = some (p9, .tableswitch a (.ofNat l0) b offs, nx, dd :: ts)) {x : Int32} (w1 : ∀ i t, ts[i]? = some t → mm_un x = l0 + i → WP S D M t L st h Q) (w2 : (∀ i, i < ts.length → mm_un x ≠ l0 + i) → WP S D M dd L st h Q) (hs : l0 + ts.length ≤ 2147483648) : WP S D M pc L (.int x :: st) h Q := by
  cases hb : (Nat.ble (mm_un x) 2147483647 && (Nat.ble l0 (mm_un x) && Nat.ble (mm_un x - l0 + 1) ts.length)) with
  | true =>
    obtain ⟨b1, b2⟩ := mf_b1 hb
    obtain ⟨b2, b3⟩ := mf_b1 b2
    have b2 := Nat.le_of_ble_eq_true b2
    have b3 := Nat.le_of_ble_eq_true b3
    have ht : ts[mm_un x - l0]? = some (ts[mm_un x - l0]'(by omega)) := List.getElem?_eq_getElem _
    refine wp_go hk ?_ (w1 (mm_un x - l0) _ ht (by omega))
    simp only [mm_stp]
    rw [hb]
    dsimp only
    rw [ht]
    rfl
  | false =>
    refine wp_go hk ?_ (w2 fun i hi e => ?_)
    · simp only [mm_stp]
      rw [hb]
      rfl
    · rw [e, Nat.ble_eq_true_of_le (show l0 + i ≤ 2147483647 by omega), Nat.ble_eq_true_of_le (show l0 ≤ l0 + i by omega), Nat.ble_eq_true_of_le (show l0 + i - l0 + 1 ≤ ts.length by omega)] at hb
      cases hb
theorem wx_own {a : Nat} {s : mm_C} (h64 : 64 ≤ a) (hs : sh[a - 64]? = some s) : mm_rd mm_ext (hH sh V) a = some (hc (V.1 a) (V.2 a) s) := by
  rw [mm_rd_own h64, hp_get, hs, show 64 + (a - 64) = a by omega]
  rfl
theorem wx_obj {a ci : Nat} {fs : List Value} (h64 : 64 ≤ a) (hs : sh[a - 64]? = some (.inr (.inr (ci, fs)))) : mm_obj (mm_rd mm_ext (hH sh V) a) ci = some (hz (V.1 a) 0 fs) := by
  rw [wx_own h64 hs]
  show (match Nat.beq ci ci with | true => some (hz (V.1 a) 0 fs) | false => none) = _
  rw [Nat.beq_eq.mpr rfl]
theorem wx_recv {a ci : Nat} {fs : List Value} (h64 : 64 ≤ a) (hs : sh[a - 64]? = some (.inr (.inr (ci, fs)))) : mm_recv (ww_X S) (hH sh V) (some (.ref a)) ci = true := by
  unfold mm_recv
  dsimp only
  rw [show mm_obj (mm_rd (ww_X S).1 (hH sh V) a) ci = some (hz (V.1 a) 0 fs) from wx_obj h64 hs]
theorem wp_getI {u n0 ci k a : Nat} {r : List Nat} {fs : List Value} {z : Int32} (hk : mm_lk M.1 pc = some (p9, .getfield u, nx, n0 :: ci :: k :: r)) (h64 : 64 ≤ a) (hs : sh[a - 64]? = some (.inr (.inr (ci, fs)))) (hf : fs[k]? = some (.int z)) (x : Int32) (hx : V.1 a k = x) (w : WP S D M nx L (.int x :: st) (hH sh V) Q) : WP S D M pc L (.ref a :: st) (hH sh V) Q := by
  subst hx
  refine wp_go hk ?_ w
  simp only [mm_stp]
  rw [show mm_obj (mm_rd (ww_X S).1 (hH sh V) a) ci = some (hz (V.1 a) 0 fs) from wx_obj h64 hs]
  dsimp only
  rw [hz_get, hf]
  dsimp only [Option.map]
  rw [Nat.zero_add]
  rfl
theorem wp_getR {u n0 ci k a : Nat} {r : List Nat} {fs : List Value} {q : Nat} (hk : mm_lk M.1 pc = some (p9, .getfield u, nx, n0 :: ci :: k :: r)) (h64 : 64 ≤ a) (hs : sh[a - 64]? = some (.inr (.inr (ci, fs)))) (hf : fs[k]? = some (.ref q)) (w : WP S D M nx L (.ref q :: st) (hH sh V) Q) : WP S D M pc L (.ref a :: st) (hH sh V) Q := by
  refine wp_go hk ?_ w
  simp only [mm_stp]
  rw [show mm_obj (mm_rd (ww_X S).1 (hH sh V) a) ci = some (hz (V.1 a) 0 fs) from wx_obj h64 hs]
  dsimp only
  rw [hz_get, hf]
  rfl
theorem wx_sl {f g : Nat → Int32} {N K : Nat} {s : mm_C} : mm_sl (hc f N s) = mm_sl (hc g K s) := by
  match s with
  | .inl (0, n, _) => rfl
  | .inl (1, n, _) => rfl
  | .inl (t + 2, n, _) => rfl
  | .inr (.inl q) => rfl
  | .inr (.inr (ci, fs)) =>
    show (match Nat.ble 15 ci with | true => 6 | false => (hz f 0 fs).length) = (match Nat.ble 15 ci with | true => 6 | false => (hz g 0 fs).length)
    rw [hz_len, hz_len]
theorem wx_up {a k : Nat} {x : Int32} {s : mm_C} {c : mm_C} (h64 : 64 ≤ a) (hs : sh[a - 64]? = some s) (hcx : hc ((up V a k x).1 a) ((up V a k x).2 a) s = c) : (hH sh V).set (a - 64) c = hH sh (up V a k x) := by
  have h := hp_set V (up V a k x) sh 64 (a - 64) s fun b _ _ hne => ⟨by funext j; exact (up_ne V x (Or.inl (by omega))).symm, rfl⟩
  rw [show 64 + (a - 64) = a by omega, hcx, hl_set _ _ _ hs] at h
  exact h
theorem wp_putI {u n0 ci k a : Nat} {r : List Nat} {fs : List Value} {z x : Int32} {ty : FieldType} (hk : mm_lk M.1 pc = some (p9, .putfield u, nx, n0 :: ci :: k :: r)) (h64 : 64 ≤ a) (hs : sh[a - 64]? = some (.inr (.inr (ci, fs)))) (hf : fs[k]? = some (.int z)) (hty : (mm_fty ci)[k]? = some ty) (hfit : mm_fit ty (.int x) = true) (w : WP S D M nx L st (hH sh (up V a k x)) Q) : WP S D M pc L (.int x :: .ref a :: st) (hH sh V) Q := by
  have e : (hH sh V).set (a - 64) (.inr (.inr (ci, (hz (V.1 a) 0 fs).set k (.int x)))) = hH sh (up V a k x) := by
    refine wx_up h64 hs ?_
    show Sum.inr (Sum.inr (ci, hz ((up V a k x).1 a) 0 fs)) = _
    have e9 : (fun j => if j = 0 + k then x else V.1 a j) = (up V a k x).1 a := by
      funext j
      unfold up
      dsimp only
      rw [if_pos rfl, Nat.zero_add]
    rw [hz_setI (V.1 a) x fs 0 k z hf, e9]
  refine wp_wr (c := .inr (.inr (ci, (hz (V.1 a) 0 fs).set k (.int x)))) (k := a - 64) hk ?_ (c0 := hc (V.1 a) (V.2 a) (.inr (.inr (ci, fs)))) ?_ ?_ (by rw [e]; exact w)
  · simp only [mm_stp]
    rw [show mm_obj (mm_rd (ww_X S).1 (hH sh V) a) ci = some (hz (V.1 a) 0 fs) from wx_obj h64 hs]
    dsimp only
    rw [hz_get, hf]
    dsimp only [Option.map]
    rw [show ((ww_X S).2.2.2 ci)[k]? = some ty from hty]
    dsimp only
    rw [hfit]
    dsimp only
    unfold mm_wr
    rw [Nat.ble_eq_true_of_le h64]
  · rw [hp_get, hs, show 64 + (a - 64) = a by omega]
    rfl
  · show mm_sl (.inr (.inr (ci, hz (V.1 a) 0 fs))) = mm_sl (.inr (.inr (ci, (hz (V.1 a) 0 fs).set k (.int x))))
    show (match Nat.ble 15 ci with | true => 6 | false => (hz (V.1 a) 0 fs).length) = (match Nat.ble 15 ci with | true => 6 | false => ((hz (V.1 a) 0 fs).set k (.int x)).length)
    rw [List.length_set]
theorem wx_ar {f : Nat → Int32} {N t n z : Nat} (ht : t ≠ 1) : hc f N (.inl (t, n, z)) = .inl (t, n, he_n f n) := by
  match t, ht with
  | 0, _ => rfl
  | 1, h => exact (h rfl).elim
  | t + 2, _ => rfl
theorem wx_prim {a t n z : Nat} (ht : t ≠ 1) (h64 : 64 ≤ a) (hs : sh[a - 64]? = some (.inl (t, n, z))) : mm_prim (mm_rd mm_ext (hH sh V) a) t = some (n, he_n (V.1 a) n) := by
  rw [wx_own h64 hs, wx_ar ht]
  show (match Nat.beq t t with | true => some (n, he_n (V.1 a) n) | false => none) = _
  rw [Nat.beq_eq.mpr rfl]
theorem wx_un (x : Int32) : Int32.ofNat (mm_un x) = x := by
  have h := mm_fI_eq x id
  unfold mm_fI at h
  rw [mm_fN_eq] at h
  exact h
theorem wx_in {i : Int32} {n : Nat} (h : mm_in i n = true) : mm_un i < n := by
  obtain ⟨h1, -⟩ := mf_b1 h
  exact Nat.le_of_ble_eq_true h1
theorem wp_iaload {a n z : Nat} {i : Int32} (hk : mm_lk M.1 pc = some (p9, .iaload, nx, ax)) (h64 : 64 ≤ a) (hs : sh[a - 64]? = some (.inl (0, n, z))) (hi : mm_in i n = true) (q : Nat) (hq : mm_un i = q) (x : Int32) (hx : V.1 a q = x) (w : WP S D M nx L (.int x :: st) (hH sh V) Q) : WP S D M pc L (.int i :: .ref a :: st) (hH sh V) Q := by
  subst hq
  subst hx
  refine wp_go hk ?_ w
  simp only [mm_stp]
  rw [show Nat.beq a 0 = false from Bool.eq_false_iff.mpr fun e => by have := Nat.beq_eq.mp e; omega]
  dsimp only
  rw [show mm_prim (mm_rd (ww_X S).1 (hH sh V) a) 0 = some (n, he_n (V.1 a) n) from wx_prim (by decide) h64 hs]
  dsimp only
  rw [hi]
  dsimp only
  rw [mm_fI_eq, he_ag, if_pos (wx_in hi), wx_un]
  rfl
theorem wp_ialoadx {a n N : Nat} {i : Int32} (hk : mm_lk M.1 pc = some (p9, .iaload, nx, ax)) (h1 : a = 1) (hs : mm_ext a = some (.inl (0, n, N))) (hi : mm_in i n = true) (q : Nat) (hq : mm_un i = q) (w : WP S D M nx L (.int (Int32.ofNat (mm_ag 32 N q)) :: st) h Q) : WP S D M pc L (.int i :: .ref a :: st) h Q := by
  subst hq
  subst h1
  refine wp_go hk ?_ w
  simp only [mm_stp]
  rw [show mm_prim (mm_rd (ww_X S).1 h 1) 0 = some (n, N) from by
    rw [show mm_rd (ww_X S).1 h 1 = some (.inl (0, n, N)) from hs]
    rfl]
  dsimp only
  rw [hi]
  dsimp only
  rw [mm_fI_eq]
  rfl
theorem wp_baload {a n z : Nat} {i : Int32} (hk : mm_lk M.1 pc = some (p9, .baload, nx, ax)) (h64 : 64 ≤ a) (hs : sh[a - 64]? = some (.inl (2, n, z))) (hi : mm_in i n = true) (q : Nat) (hq : mm_un i = q) (x : Int32) (hx : V.1 a q = x) (w : WP S D M nx L (.int x :: st) (hH sh V) Q) : WP S D M pc L (.int i :: .ref a :: st) (hH sh V) Q := by
  subst hq
  subst hx
  refine wp_go hk ?_ w
  simp only [mm_stp]
  rw [show mm_prim (mm_rd (ww_X S).1 (hH sh V) a) 2 = some (n, he_n (V.1 a) n) from wx_prim (by decide) h64 hs]
  dsimp only
  rw [hi]
  dsimp only
  rw [mm_fI_eq, he_ag, if_pos (wx_in hi), wx_un]
  rfl
theorem wp_baloadx {a n N : Nat} {i : Int32} (hk : mm_lk M.1 pc = some (p9, .baload, nx, ax)) (h1 : Nat.ble 64 a = false) (hs : mm_ext a = some (.inl (2, n, N))) (hi : mm_in i n = true) (q : Nat) (hq : mm_un i = q) (w : WP S D M nx L (.int (Int32.ofNat (mm_ag 32 N q)) :: st) h Q) : WP S D M pc L (.int i :: .ref a :: st) h Q := by
  subst hq
  refine wp_go hk ?_ w
  simp only [mm_stp]
  rw [show mm_prim (mm_rd (ww_X S).1 h a) 2 = some (n, N) from by
    unfold mm_rd
    rw [h1]
    dsimp only
    rw [show (ww_X S).1 a = some (.inl (2, n, N)) from hs]
    rfl]
  dsimp only
  rw [hi]
  dsimp only
  rw [mm_fI_eq]
  rfl
theorem wp_alen {a t n z : Nat} (hk : mm_lk M.1 pc = some (p9, .arraylength, nx, ax)) (ht : Nat.ble t 4 = true) (h64 : 64 ≤ a) (hs : sh[a - 64]? = some (.inl (t, n, z))) (w : WP S D M nx L (.int (Int32.ofNat n) :: st) (hH sh V) Q) : WP S D M pc L (.ref a :: st) (hH sh V) Q := by
  refine wp_go hk ?_ w
  have e : ∃ N, hc (V.1 a) (V.2 a) (.inl (t, n, z)) = .inl (t, n, N) := by
    match t with
    | 0 => exact ⟨_, rfl⟩
    | 1 => exact ⟨_, rfl⟩
    | t + 2 => exact ⟨_, rfl⟩
  obtain ⟨N, e⟩ := e
  simp only [mm_stp]
  rw [show Nat.beq a 0 = false from Bool.eq_false_iff.mpr fun e => by have := Nat.beq_eq.mp e; omega]
  dsimp only
  rw [show mm_rd (ww_X S).1 (hH sh V) a = some (.inl (t, n, N)) from (wx_own h64 hs).trans (by rw [e])]
  dsimp only
  rw [ht]
  rfl
theorem wp_alenR {a t : Nat} {rs : List (Option Nat)} (hk : mm_lk M.1 pc = some (p9, .arraylength, nx, ax)) (ht : Nat.ble t 4 = true) (h64 : 64 ≤ a) (hs : sh[a - 64]? = some (.inr (.inl (t, rs)))) (w : WP S D M nx L (.int (Int32.ofNat rs.length) :: st) (hH sh V) Q) : WP S D M pc L (.ref a :: st) (hH sh V) Q := by
  refine wp_go hk ?_ w
  simp only [mm_stp]
  rw [show Nat.beq a 0 = false from Bool.eq_false_iff.mpr fun e => by have := Nat.beq_eq.mp e; omega]
  dsimp only
  rw [show mm_rd (ww_X S).1 (hH sh V) a = some (.inr (.inl (t, rs))) from wx_own h64 hs]
  dsimp only
  rw [ht, Nat.ble_eq_true_of_le h64]
  rfl
theorem wp_alenx {a t n N : Nat} (hk : mm_lk M.1 pc = some (p9, .arraylength, nx, ax)) (ht : Nat.ble t 4 = true) (h0 : Nat.beq a 0 = false) (h1 : Nat.ble 64 a = false) (hs : mm_ext a = some (.inl (t, n, N))) (w : WP S D M nx L (.int (Int32.ofNat n) :: st) h Q) : WP S D M pc L (.ref a :: st) h Q := by
  refine wp_go hk ?_ w
  simp only [mm_stp]
  rw [h0]
  dsimp only
  rw [show mm_rd (ww_X S).1 h a = some (.inl (t, n, N)) from by unfold mm_rd; rw [h1]; exact hs]
  dsimp only
  rw [ht]
  rfl
theorem wp_aaload {a t q : Nat} {i : Int32} {rs : List (Option Nat)} (hk : mm_lk M.1 pc = some (p9, .aaload, nx, ax)) (h64 : 64 ≤ a) (ht : (Nat.ble 3 t && Nat.ble t 4) = true) (hs : sh[a - 64]? = some (.inr (.inl (t, rs)))) (hi : mm_in i rs.length = true) (hq : rs[mm_un i]? = some (some q)) (w : WP S D M nx L (.ref q :: st) (hH sh V) Q) : WP S D M pc L (.int i :: .ref a :: st) (hH sh V) Q := by
  refine wp_go hk ?_ w
  simp only [mm_stp]
  rw [Nat.ble_eq_true_of_le h64]
  dsimp only
  rw [show mm_rd (ww_X S).1 (hH sh V) a = some (.inr (.inl (t, rs))) from wx_own h64 hs]
  dsimp only
  simp only [hi, ht, Bool.and_self, hq]
  rfl
theorem wx_iastore {t a n z : Nat} {i x : Int32} (ht : t ≠ 1) (h64 : 64 ≤ a) (hs : sh[a - 64]? = some (.inl (t, n, z))) (hi : mm_in i n = true) : (hH sh V).set (a - 64) (.inl (t, n, mm_as 32 (he_n (V.1 a) n) (mm_un i) (mm_un x))) = hH sh (up V a (mm_un i) x) := by
  refine wx_up h64 hs ?_
  rw [wx_ar ht, he_set _ _ _ _ (wx_in hi)]
  congr 3
  refine he_congr fun j _ => ?_
  unfold up
  dsimp only
  rw [if_pos rfl]
theorem wp_iastore {a n z : Nat} {i x : Int32} (hk : mm_lk M.1 pc = some (p9, .iastore, nx, ax)) (h64 : 64 ≤ a) (hs : sh[a - 64]? = some (.inl (0, n, z))) (hi : mm_in i n = true) (q : Nat) (hq : mm_un i = q) (w : WP S D M nx L st (hH sh (up V a q x)) Q) : WP S D M pc L (.int x :: .int i :: .ref a :: st) (hH sh V) Q := by
  subst hq
  refine wp_wr (c := .inl (0, n, mm_as 32 (he_n (V.1 a) n) (mm_un i) (mm_un x))) (k := a - 64) hk ?_ (c0 := hc (V.1 a) (V.2 a) (.inl (0, n, z))) ?_ rfl (by rw [wx_iastore (by decide) h64 hs hi]; exact w)
  · simp only [mm_stp]
    rw [show mm_prim (mm_rd (ww_X S).1 (hH sh V) a) 0 = some (n, he_n (V.1 a) n) from wx_prim (by decide) h64 hs]
    dsimp only
    rw [hi]
    dsimp only
    rw [mm_fN_eq]
    unfold mm_wr
    rw [Nat.ble_eq_true_of_le h64]
  · rw [hp_get, hs, show 64 + (a - 64) = a by omega]
    rfl
theorem wp_bastore {a n z : Nat} {i x : Int32} (hk : mm_lk M.1 pc = some (p9, .bastore, nx, ax)) (h64 : 64 ≤ a) (hs : sh[a - 64]? = some (.inl (2, n, z))) (hi : mm_in i n = true) (q : Nat) (hq : mm_un i = q) (w : WP S D M nx L st (hH sh (up V a q x.toInt8.toInt32)) Q) : WP S D M pc L (.int x :: .int i :: .ref a :: st) (hH sh V) Q := by
  subst hq
  refine wp_wr (c := .inl (2, n, mm_as 32 (he_n (V.1 a) n) (mm_un i) (mm_un x.toInt8.toInt32))) (k := a - 64) hk ?_ (c0 := hc (V.1 a) (V.2 a) (.inl (2, n, z))) ?_ rfl (by rw [wx_iastore (by decide) h64 hs hi]; exact w)
  · simp only [mm_stp]
    rw [show mm_prim (mm_rd (ww_X S).1 (hH sh V) a) 2 = some (n, he_n (V.1 a) n) from wx_prim (by decide) h64 hs]
    dsimp only
    rw [hi]
    dsimp only
    rw [mm_fN_eq]
    unfold mm_wr
    rw [Nat.ble_eq_true_of_le h64]
  · rw [hp_get, hs, show 64 + (a - 64) = a by omega]
    rfl
theorem wp_getstatic {u n0 k : Nat} {r : List Nat} {v : Value} (hk : mm_lk M.1 pc = some (p9, .getstatic u, nx, n0 :: k :: r)) (hs : mm_stc k = some v) (w : WP S D M nx L (v :: st) h Q) : WP S D M pc L st h Q := wp_go hk (by simp only [mm_stp]; rw [show (ww_X S).2.2.1 k = some v from hs]; rfl) w
/-! calls -/
theorem wx_callS {u kd j n : Nat} {r : List Nat} {as st2 : List Value} (hkd : kd = 1 ∨ kd = 6 ∨ kd = 8) (hb : (Nat.ble n st.length && mm_rst st n) = true) (ha : (st.take n).reverse = as) (hr : st.drop n = st2) : mm_stp (ww_X S) h L st (p9, .invokestatic u, nx, kd :: j :: n :: r) = some (.inr (.inl (j, as, st2))) := by
  subst ha hr
  rcases hkd with rfl | rfl | rfl <;> (simp only [mm_stp, mm_call]; rw [hb])
theorem wx_callV {u kd j n ci a : Nat} {r : List Nat} {as st2 : List Value} {fs : List Value} (hkd : kd = 0 ∨ kd = 5 ∨ kd = 3) (hb : (Nat.ble n st.length && mm_rst st n) = true) (hv : st[n - 1]? = some (.ref a)) (h64 : 64 ≤ a) (hs : sh[a - 64]? = some (.inr (.inr (ci, fs)))) (ha : (st.take n).reverse = as) (hr : st.drop n = st2) : mm_stp (ww_X S) (hH sh V) L st (p9, .invokevirtual u, nx, kd :: j :: n :: ci :: r) = some (.inr (.inl (j, as, st2))) := by
  subst ha hr
  have hrc : mm_recv (ww_X S) (hH sh V) (some (.ref a)) ci = true := wx_recv h64 hs
  rcases hkd with rfl | rfl | rfl <;> (simp only [mm_stp, mm_call]; rw [hb]; dsimp only; rw [hv, hrc])
theorem wx_callX {u kd j n ci a : Nat} {r : List Nat} {as st2 : List Value} {c : mm_C} (hkd : kd = 0 ∨ kd = 5 ∨ kd = 3) (hb : (Nat.ble n st.length && mm_rst st n) = true) (hv : st[n - 1]? = some (.ref a)) (hs : mm_rd mm_ext h a = some c) (hc0 : (mm_obj (some c) ci).isSome = true) (ha : (st.take n).reverse = as) (hr : st.drop n = st2) : mm_stp (ww_X S) h L st (p9, .invokevirtual u, nx, kd :: j :: n :: ci :: r) = some (.inr (.inl (j, as, st2))) := by
  subst ha hr
  have hrc : mm_recv (ww_X S) h (some (.ref a)) ci = true := by
    unfold mm_recv
    dsimp only
    rw [show mm_rd (ww_X S).1 h a = some c from hs]
    cases hq : mm_obj (some c) ci with
    | none => rw [hq] at hc0; cases hc0
    | some _ => rfl
  rcases hkd with rfl | rfl | rfl <;> (simp only [mm_stp, mm_call]; rw [hb]; dsimp only; rw [hv, hrc])
theorem wx_callI {u kd j n a : Nat} {r : List Nat} {as st2 : List Value} (hkd : kd = 2 ∨ kd = 7) (hb : (Nat.ble n st.length && mm_rst st n) = true) (hv : st[n - 1]? = some (.ref a)) (h64 : 64 ≤ a) (ha : (st.take n).reverse = as) (hr : st.drop n = st2) : mm_stp (ww_X S) h L st (p9, .invokespecial u, nx, kd :: j :: n :: r) = some (.inr (.inl (j, as, st2))) := by
  subst ha hr
  have hrc : mm_recv0 (some (.ref a)) = true := Nat.ble_eq_true_of_le h64
  rcases hkd with rfl | rfl <;> (simp only [mm_stp, mm_call]; rw [hb]; dsimp only; rw [hv, hrc])
theorem wp_max {u q : Nat} (hk : mm_lk M.1 pc = some (p9, .invokestatic u, nx, [11, q])) {x y : Int32} (hb : Nat.ble st.length 4 = true) (w : WP S D M nx L (.int (if x < y then y else x) :: st) h Q) : WP S D M pc L (.int y :: .int x :: st) h Q := wp_go hk (by
  show mm_math nx L (.int y :: .int x :: st) true = _
  unfold mm_math
  dsimp only
  rw [hb]
  dsimp only
  rw [mm_fI_eq]
  by_cases e : x < y
  · rw [(mm_lt_iff x y).mpr e, if_pos e]
    rfl
  · rw [show mm_lt x y = false from Bool.eq_false_iff.mpr fun q => e ((mm_lt_iff x y).mp q), if_neg e]
    rfl) w
theorem wp_min {u q : Nat} (hk : mm_lk M.1 pc = some (p9, .invokestatic u, nx, [12, q])) {x y : Int32} (hb : Nat.ble st.length 4 = true) (w : WP S D M nx L (.int (if y < x then y else x) :: st) h Q) : WP S D M pc L (.int y :: .int x :: st) h Q := wp_go hk (by
  show mm_math nx L (.int y :: .int x :: st) false = _
  unfold mm_math
  dsimp only
  rw [hb]
  dsimp only
  rw [mm_fI_eq]
  by_cases e : y < x
  · rw [(mm_lt_iff y x).mpr e, if_pos e]
    rfl
  · rw [show mm_lt y x = false from Bool.eq_false_iff.mpr fun q => e ((mm_lt_iff y x).mp q), if_neg e]
    rfl) w
end WR
