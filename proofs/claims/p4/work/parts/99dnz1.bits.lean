section N_z
/-! ===== bitCount counts bits ===== -/
theorem and_split {a c m m' : Nat} (ha : a < 256) (hm : m < 256) : (a + 256 * c) &&& (m + 256 * m') = (a &&& m) + 256 * (c &&& m') := by
  have h1 : ((a + 256 * c) &&& (m + 256 * m')) % 2 ^ 8 = a &&& m := by
    rw [Nat.and_mod_two_pow, show (a + 256 * c) % 2 ^ 8 = a by omega, show (m + 256 * m') % 2 ^ 8 = m by omega]
  have h2 : ((a + 256 * c) &&& (m + 256 * m')) / 2 ^ 8 = c &&& m' := by
    rw [← Nat.shiftRight_eq_div_pow, Nat.shiftRight_and_distrib, Nat.shiftRight_eq_div_pow, Nat.shiftRight_eq_div_pow, show (a + 256 * c) / 2 ^ 8 = c by omega, show (m + 256 * m') / 2 ^ 8 = m' by omega]
  omega
theorem by1 : ∀ b : Fin 128, ∀ r : Fin 2, (b.val + 128 * r.val) &&& 85 = b.val &&& 85 := by decide +kernel
theorem by2 : ∀ b : Fin 64, ∀ r : Fin 4, (b.val + 64 * r.val) &&& 51 = b.val &&& 51 := by decide +kernel
theorem by3 : ∀ d : Fin 69, ∀ r : Fin 5, (d.val + d.val / 16 + 16 * r.val) &&& 15 = (d.val + d.val / 16) &&& 15 := by decide +kernel
def pe (b : Nat) : Nat := (b / 2) &&& 85
def pc (b : Nat) : Nat := b - pe b
def pd (b : Nat) : Nat := (pc b &&& 51) + ((pc b / 4) &&& 51)
def pp8 (b : Nat) : Nat := (pd b + pd b / 16) &&& 15
theorem by4 : ∀ b : Fin 256, pe b.val ≤ b.val ∧ pd b.val ≤ 68 ∧ pd b.val % 16 ≤ 4 ∧ pp8 b.val = cntN 8 b.val ∧ cntN 8 b.val ≤ 8 := by decide +kernel
theorem sp1 {b r M : Nat} (hb : b < 256) : ((b + 256 * r) / 2) &&& (85 + 256 * M) = pe b + 256 * ((r / 2) &&& M) := by
  rw [show (b + 256 * r) / 2 = (b / 2 + 128 * (r % 2)) + 256 * (r / 2) by omega, and_split (by omega) (by omega)]
  have h := by1 ⟨b / 2, by omega⟩ ⟨r % 2, by omega⟩
  dsimp only at h
  rw [h]
  rfl
theorem sp2 {b r M : Nat} (hb : b < 256) : ((b + 256 * r) / 4) &&& (51 + 256 * M) = ((b / 4) &&& 51) + 256 * ((r / 4) &&& M) := by
  rw [show (b + 256 * r) / 4 = (b / 4 + 64 * (r % 4)) + 256 * (r / 4) by omega, and_split (by omega) (by omega)]
  have h := by2 ⟨b / 4, by omega⟩ ⟨r % 4, by omega⟩
  dsimp only at h
  rw [h]
theorem sp3 {d r M : Nat} (hd : d ≤ 68) (hr : r % 16 ≤ 4) : ((d + 256 * r) + (d + 256 * r) / 16) &&& (15 + 256 * M) = ((d + d / 16) &&& 15) + 256 * ((r + r / 16) &&& M) := by
  rw [show (d + 256 * r) + (d + 256 * r) / 16 = (d + d / 16 + 16 * (r % 16)) + 256 * (r + r / 16) by omega, and_split (by omega) (by omega)]
  have h := by3 ⟨d, by omega⟩ ⟨r % 16, by omega⟩
  dsimp only at h
  rw [h]
theorem cntN_split : ∀ (k f b r : Nat), b < 2 ^ k → cntN (k + f) (b + 2 ^ k * r) = cntN k b + cntN f r
  | 0, f, b, r, h => by
    have h0 : b = 0 := by rw [Nat.pow_zero] at h; omega
    subst h0
    rw [Nat.zero_add, Nat.zero_add, Nat.pow_zero, Nat.one_mul]
    show cntN f r = 0 + cntN f r
    omega
  | k + 1, f, b, r, h => by
    rw [Nat.pow_succ] at h ⊢
    rw [show k + 1 + f = (k + f) + 1 by omega]
    show (b + 2 ^ k * 2 * r) % 2 + cntN (k + f) ((b + 2 ^ k * 2 * r) / 2) = b % 2 + cntN k (b / 2) + cntN f r
    have e : 2 ^ k * 2 * r = 2 * (2 ^ k * r) := by rw [Nat.mul_comm (2 ^ k) 2, Nat.mul_assoc]
    rw [e, show (b + 2 * (2 ^ k * r)) % 2 = b % 2 by omega, show (b + 2 * (2 ^ k * r)) / 2 = b / 2 + 2 ^ k * r by omega, cntN_split k f (b / 2) r (by omega)]
    omega
theorem un_us1 (x : Int32) : mm_un (us x 1) = mm_un x / 2 := by
  show (x.toUInt32 >>> ((1 : Int32).toUInt32 &&& Int32.toUInt32 31)).toNat = _
  rw [UInt32.toNat_shiftRight, show ((1 : Int32).toUInt32 &&& Int32.toUInt32 31).toNat % 32 = 1 from by decide, Nat.shiftRight_eq_div_pow]
  rfl
theorem un_us2 (x : Int32) : mm_un (us x 2) = mm_un x / 4 := by
  show (x.toUInt32 >>> ((2 : Int32).toUInt32 &&& Int32.toUInt32 31)).toNat = _
  rw [UInt32.toNat_shiftRight, show ((2 : Int32).toUInt32 &&& Int32.toUInt32 31).toNat % 32 = 2 from by decide, Nat.shiftRight_eq_div_pow]
  rfl
theorem un_us4 (x : Int32) : mm_un (us x 4) = mm_un x / 16 := by
  show (x.toUInt32 >>> ((4 : Int32).toUInt32 &&& Int32.toUInt32 31)).toNat = _
  rw [UInt32.toNat_shiftRight, show ((4 : Int32).toUInt32 &&& Int32.toUInt32 31).toNat % 32 = 4 from by decide, Nat.shiftRight_eq_div_pow]
  rfl
theorem un_us8 (x : Int32) : mm_un (us x 8) = mm_un x / 256 := by
  show (x.toUInt32 >>> ((8 : Int32).toUInt32 &&& Int32.toUInt32 31)).toNat = _
  rw [UInt32.toNat_shiftRight, show ((8 : Int32).toUInt32 &&& Int32.toUInt32 31).toNat % 32 = 8 from by decide, Nat.shiftRight_eq_div_pow]
  rfl
theorem un_us16 (x : Int32) : mm_un (us x 16) = mm_un x / 65536 := by
  show (x.toUInt32 >>> ((16 : Int32).toUInt32 &&& Int32.toUInt32 31)).toNat = _
  rw [UInt32.toNat_shiftRight, show ((16 : Int32).toUInt32 &&& Int32.toUInt32 31).toNat % 32 = 16 from by decide, Nat.shiftRight_eq_div_pow]
  rfl
theorem un_addm (x y : Int32) : mm_un (x + y) = (mm_un x + mm_un y) % 4294967296 := by
  rw [mm_un_bv, mm_un_bv, mm_un_bv]
  show (x.toBitVec + y.toBitVec).toNat = _
  rw [BitVec.toNat_add]
theorem un_subm {x y : Int32} (h : mm_un y ≤ mm_un x) : mm_un (x - y) = mm_un x - mm_un y := by
  have hx := mm_un_lt x
  have hy := mm_un_lt y
  rw [mm_un_bv] at *
  rw [mm_un_bv] at *
  rw [mm_un_bv]
  show (x.toBitVec - y.toBitVec).toNat = _
  rw [BitVec.toNat_sub]
  show (2 ^ 32 - y.toBitVec.toNat + x.toBitVec.toNat) % 2 ^ 32 = _
  omega
theorem bc_cnt (x : Int32) : bcF x = Int32.ofNat (cnt x) := by
  have hlt := mm_un_lt x
  obtain ⟨n, hn⟩ : ∃ n, mm_un x = n := ⟨_, rfl⟩
  rw [hn] at hlt
  obtain ⟨b0, b1, b2, b3, k0, k1, k2, k3, hb⟩ : ∃ b0 b1 b2 b3 : Nat, b0 < 256 ∧ b1 < 256 ∧ b2 < 256 ∧ b3 < 256 ∧ n = b0 + 256 * (b1 + 256 * (b2 + 256 * b3)) := ⟨n % 256, n / 256 % 256, n / 65536 % 256, n / 16777216, by omega, by omega, by omega, by omega, by omega⟩
  obtain ⟨p0, p1, p2, p3, p4⟩ := by4 ⟨b0, k0⟩
  obtain ⟨q0, q1, q2, q3, q4⟩ := by4 ⟨b1, k1⟩
  obtain ⟨r0, r1, r2, r3, r4⟩ := by4 ⟨b2, k2⟩
  obtain ⟨s0, s1, s2, s3, s4⟩ := by4 ⟨b3, k3⟩
  dsimp only at p0 p1 p2 p3 p4 q0 q1 q2 q3 q4 r0 r1 r2 r3 r4 s0 s1 s2 s3 s4
  have e1 : mm_un (us x 1 &&& 1431655765) = pe b0 + 256 * (pe b1 + 256 * (pe b2 + 256 * pe b3)) := by
    rw [un_and, un_us1, hn, hb, show mm_un (1431655765 : Int32) = 85 + 256 * (85 + 256 * (85 + 256 * 85)) from by decide, sp1 k0, sp1 k1, sp1 k2]
    rfl
  have e2 : mm_un (bc1 x) = pc b0 + 256 * (pc b1 + 256 * (pc b2 + 256 * pc b3)) := by
    have h : mm_un (bc1 x) = mm_un x - mm_un (us x 1 &&& 1431655765) := un_subm (by rw [e1, hn, hb]; omega)
    rw [h, e1, hn, hb]
    unfold pc
    omega
  have c0 : pc b0 < 256 := by unfold pc; omega
  have c1 : pc b1 < 256 := by unfold pc; omega
  have c2 : pc b2 < 256 := by unfold pc; omega
  have e3 : mm_un (bc1 x &&& 858993459) = (pc b0 &&& 51) + 256 * ((pc b1 &&& 51) + 256 * ((pc b2 &&& 51) + 256 * (pc b3 &&& 51))) := by
    rw [un_and, e2, show mm_un (858993459 : Int32) = 51 + 256 * (51 + 256 * (51 + 256 * 51)) from by decide, and_split c0 (by decide), and_split c1 (by decide), and_split c2 (by decide)]
  have e4 : mm_un (us (bc1 x) 2 &&& 858993459) = (pc b0 / 4 &&& 51) + 256 * ((pc b1 / 4 &&& 51) + 256 * ((pc b2 / 4 &&& 51) + 256 * (pc b3 / 4 &&& 51))) := by
    rw [un_and, un_us2, e2, show mm_un (858993459 : Int32) = 51 + 256 * (51 + 256 * (51 + 256 * 51)) from by decide, sp2 c0, sp2 c1, sp2 c2]
  have e5 : mm_un (bc2 (bc1 x)) = pd b0 + 256 * (pd b1 + 256 * (pd b2 + 256 * pd b3)) := by
    have h : mm_un (bc2 (bc1 x)) = _ := un_addm (bc1 x &&& 858993459) (us (bc1 x) 2 &&& 858993459)
    rw [h, e3, e4]
    unfold pd at p1 q1 r1 s1 ⊢
    omega
  have e6 : mm_un (bc3 (bc2 (bc1 x))) = pp8 b0 + 256 * (pp8 b1 + 256 * (pp8 b2 + 256 * pp8 b3)) := by
    have h : mm_un (bc3 (bc2 (bc1 x))) = _ := un_and (bc2 (bc1 x) + us (bc2 (bc1 x)) 4) 252645135
    rw [h, un_addm, un_us4, e5, Nat.mod_eq_of_lt (by omega), show mm_un (252645135 : Int32) = 15 + 256 * (15 + 256 * (15 + 256 * 15)) from by decide, sp3 p1 (by omega), sp3 q1 (by omega), sp3 r1 s2]
    rfl
  rw [p3, q3, r3, s3] at e6
  have hc : cnt x = cntN 8 b0 + (cntN 8 b1 + (cntN 8 b2 + cntN 8 b3)) := by
    have h1 := cntN_split 8 24 b0 (b1 + 256 * (b2 + 256 * b3)) k0
    have h2 := cntN_split 8 16 b1 (b2 + 256 * b3) k1
    have h3 := cntN_split 8 8 b2 b3 k2
    unfold cnt
    rw [hn, hb]
    exact h1.trans (by rw [← h3, ← h2])
  refine un_inj ?_
  have h : mm_un (bcF x) = _ := un_and (bc5 (bc4 (bc3 (bc2 (bc1 x))))) 63
  have h5 : mm_un (bc5 (bc4 (bc3 (bc2 (bc1 x))))) = _ := un_addm (bc4 (bc3 (bc2 (bc1 x)))) (us (bc4 (bc3 (bc2 (bc1 x)))) 16)
  have h4 : mm_un (bc4 (bc3 (bc2 (bc1 x)))) = _ := un_addm (bc3 (bc2 (bc1 x))) (us (bc3 (bc2 (bc1 x))) 8)
  rw [h, h5, un_us16, h4, un_us8, e6, show mm_un (63 : Int32) = 2 ^ 6 - 1 from by decide, Nat.and_two_pow_sub_one_eq_mod, i_un (by rw [hc]; omega), hc]
  generalize cntN 8 b0 = w0 at p4 ⊢
  generalize cntN 8 b1 = w1 at q4 ⊢
  generalize cntN 8 b2 = w2 at r4 ⊢
  generalize cntN 8 b3 = w3 at s4 ⊢
  have f0 : (w0 + 256 * (w1 + 256 * (w2 + 256 * w3))) / 256 = w1 + 256 * (w2 + 256 * w3) := by omega
  have f1 : (w0 + 256 * (w1 + 256 * (w2 + 256 * w3)) + (w0 + 256 * (w1 + 256 * (w2 + 256 * w3))) / 256) % 4294967296 = (w0 + w1) + 256 * (w1 + w2) + 65536 * ((w2 + w3) + 256 * w3) := by
    rw [f0, Nat.mod_eq_of_lt (by omega)]
    omega
  rw [f1]
  have f2 : ((w0 + w1) + 256 * (w1 + w2) + 65536 * ((w2 + w3) + 256 * w3)) / 65536 = (w2 + w3) + 256 * w3 := by omega
  have f3 : ((w0 + w1) + 256 * (w1 + w2) + 65536 * ((w2 + w3) + 256 * w3) + ((w2 + w3) + 256 * w3)) % 4294967296 = (w0 + w1) + 256 * (w1 + w2) + 65536 * ((w2 + w3) + 256 * w3) + ((w2 + w3) + 256 * w3) := Nat.mod_eq_of_lt (by omega)
  rw [f2, f3]
  omega
end N_z
