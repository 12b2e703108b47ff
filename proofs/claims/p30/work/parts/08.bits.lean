/-! How many bits of a long are set: the JDK's Long.bitCount, over the set of broken places. -/
theorem bx_split (i a b c d : Nat) (hb : b < 2 ^ i) (hd : d < 2 ^ i) : (2 ^ i * a + b) &&& (2 ^ i * c + d) = 2 ^ i * (a &&& c) + (b &&& d) := by
  have hbd : b &&& d < 2 ^ i := Nat.and_lt_two_pow b hd
  apply Nat.eq_of_testBit_eq
  intro j
  rw [Nat.testBit_and, Nat.testBit_two_pow_mul_add a hb, Nat.testBit_two_pow_mul_add c hd, Nat.testBit_two_pow_mul_add (a &&& c) hbd]
  by_cases h : j < i
  · simp [h]
  · simp [h]
theorem bx_lo (i b c d : Nat) (hb : b < 2 ^ i) (hd : d < 2 ^ i) : b &&& (2 ^ i * c + d) = b &&& d := by
  have h := bx_split i 0 b c d hb hd
  rw [Nat.mul_zero, Nat.zero_add, Nat.zero_and, Nat.mul_zero, Nat.zero_add] at h
  exact h
/-- four bytes under a mask of equal bytes -/
theorem bx_4 (d0 d1 d2 d3 k z : Nat) (h0 : d0 < 256) (h1 : d1 < 256) (h2 : d2 < 256) (h3 : d3 < 256) (hk : k < 256) : (d0 + 256 * (d1 + 256 * (d2 + 256 * d3))) &&& (k + 256 * (k + 256 * (k + 256 * (k + 256 * z)))) = (d0 &&& k) + 256 * ((d1 &&& k) + 256 * ((d2 &&& k) + 256 * (d3 &&& k))) := by
  have e : ∀ a b : Nat, b + 256 * a = 2 ^ 8 * a + b := fun a b => by omega
  rw [e, e, e, e, e, e, e, bx_split 8 _ _ _ _ h0 hk, bx_split 8 _ _ _ _ h1 hk, bx_split 8 _ _ _ _ h2 hk, bx_lo 8 _ _ _ h3 hk, e, e, e]
def bf1 (d : Nat) : Nat := d - (d / 2 &&& 85)
def bf2 (d : Nat) : Nat := (bf1 d &&& 51) + (bf1 d / 4 &&& 51)
def bf3 (d : Nat) : Nat := (bf2 d + bf2 d / 16) &&& 15
theorem bx_d1 : ∀ d, d < 256 → ∀ c, c < 2 → ((d / 2 + 128 * c) &&& 85) = (d / 2 &&& 85) ∧ (d / 2 &&& 85) ≤ d ∧ bf1 d < 256 := by decide +kernel
theorem bx_d2 : ∀ d, d < 256 → ∀ c, c < 4 → ((bf1 d / 4 + 64 * c) &&& 51) = (bf1 d / 4 &&& 51) ∧ bf2 d ≤ 68 ∧ bf2 d % 16 ≤ 4 := by decide +kernel
theorem bx_d3 : ∀ d, d < 256 → ∀ c, c < 5 → ((bf2 d + bf2 d / 16 + 16 * c) &&& 15) = bf3 d ∧ bf3 d ≤ 8 := by decide +kernel
/-- the JDK's steps, over counted numbers -/
def pq1 (a : Nat) : Nat := a - (a / 2 &&& 6148914691236517205)
def pq2 (a : Nat) : Nat := (a &&& 3689348814741910323) + (a / 4 &&& 3689348814741910323)
def pq3 (a : Nat) : Nat := (a + a / 16) &&& 1085102592571150095
def pq4 (a : Nat) : Nat := a + a / 256
def pq5 (a : Nat) : Nat := a + a / 65536
def pq6 (a : Nat) : Nat := a + a / 4294967296
def pcs (a : Nat) : Nat := pq6 (pq5 (pq4 (pq3 (pq2 (pq1 a))))) % 128
theorem pcs_fin (p0 p1 p2 p3 : Nat) (h0 : p0 ≤ 8) (h1 : p1 ≤ 8) (h2 : p2 ≤ 8) (h3 : p3 ≤ 8) : pq6 (pq5 (pq4 (p0 + 256 * (p1 + 256 * (p2 + 256 * p3))))) % 128 = p0 + p1 + p2 + p3 := by
  have e4 : pq4 (p0 + 256 * (p1 + 256 * (p2 + 256 * p3))) = (p0 + p1) + 256 * (p1 + p2) + 65536 * (p2 + p3) + 16777216 * p3 := by
    unfold pq4
    have : (p0 + 256 * (p1 + 256 * (p2 + 256 * p3))) / 256 = p1 + 256 * (p2 + 256 * p3) := by omega
    rw [this]; omega
  have e5 : pq5 ((p0 + p1) + 256 * (p1 + p2) + 65536 * (p2 + p3) + 16777216 * p3) = (p0 + p1 + p2 + p3) + 256 * (p1 + p2 + p3) + 65536 * (p2 + p3) + 16777216 * p3 := by
    unfold pq5
    have : ((p0 + p1) + 256 * (p1 + p2) + 65536 * (p2 + p3) + 16777216 * p3) / 65536 = (p2 + p3) + 256 * p3 := by omega
    rw [this]; omega
  have e6 : pq6 ((p0 + p1 + p2 + p3) + 256 * (p1 + p2 + p3) + 65536 * (p2 + p3) + 16777216 * p3) = (p0 + p1 + p2 + p3) + 256 * (p1 + p2 + p3) + 65536 * (p2 + p3) + 16777216 * p3 := by
    unfold pq6
    have : ((p0 + p1 + p2 + p3) + 256 * (p1 + p2 + p3) + 65536 * (p2 + p3) + 16777216 * p3) / 4294967296 = 0 := by omega
    rw [this]; omega
  rw [e4, e5, e6]
  omega
theorem pcs_4 (d0 d1 d2 d3 : Nat) (h0 : d0 < 256) (h1 : d1 < 256) (h2 : d2 < 256) (h3 : d3 < 256) : pcs (d0 + 256 * (d1 + 256 * (d2 + 256 * d3))) = bf3 d0 + bf3 d1 + bf3 d2 + bf3 d3 := by
  have m1 : (6148914691236517205 : Nat) = 85 + 256 * (85 + 256 * (85 + 256 * (85 + 256 * 1431655765))) := rfl
  have m2 : (3689348814741910323 : Nat) = 51 + 256 * (51 + 256 * (51 + 256 * (51 + 256 * 858993459))) := rfl
  have m3 : (1085102592571150095 : Nat) = 15 + 256 * (15 + 256 * (15 + 256 * (15 + 256 * 252645135))) := rfl
  have e1 : (d0 + 256 * (d1 + 256 * (d2 + 256 * d3))) / 2 = (d0 / 2 + 128 * (d1 % 2)) + 256 * ((d1 / 2 + 128 * (d2 % 2)) + 256 * ((d2 / 2 + 128 * (d3 % 2)) + 256 * (d3 / 2))) := by omega
  have q0 := bx_d1 d0 h0 (d1 % 2) (by omega)
  have q1 := bx_d1 d1 h1 (d2 % 2) (by omega)
  have q2 := bx_d1 d2 h2 (d3 % 2) (by omega)
  have q3 := bx_d1 d3 h3 0 (by omega)
  have s1 : d0 + 256 * (d1 + 256 * (d2 + 256 * d3)) - ((d0 + 256 * (d1 + 256 * (d2 + 256 * d3))) / 2 &&& 6148914691236517205) = bf1 d0 + 256 * (bf1 d1 + 256 * (bf1 d2 + 256 * bf1 d3)) := by
    rw [e1, m1, bx_4 _ _ _ _ 85 _ (by omega) (by omega) (by omega) (by omega) (by omega), q0.1, q1.1, q2.1]
    have b0 : bf1 d0 = d0 - (d0 / 2 &&& 85) := rfl
    have b1 : bf1 d1 = d1 - (d1 / 2 &&& 85) := rfl
    have b2 : bf1 d2 = d2 - (d2 / 2 &&& 85) := rfl
    have b3 : bf1 d3 = d3 - (d3 / 2 &&& 85) := rfl
    omega
  have r0 := bx_d2 d0 h0 (bf1 d1 % 4) (by omega)
  have r1 := bx_d2 d1 h1 (bf1 d2 % 4) (by omega)
  have r2 := bx_d2 d2 h2 (bf1 d3 % 4) (by omega)
  have r3 := bx_d2 d3 h3 0 (by omega)
  have e2 : (bf1 d0 + 256 * (bf1 d1 + 256 * (bf1 d2 + 256 * bf1 d3))) / 4 = (bf1 d0 / 4 + 64 * (bf1 d1 % 4)) + 256 * ((bf1 d1 / 4 + 64 * (bf1 d2 % 4)) + 256 * ((bf1 d2 / 4 + 64 * (bf1 d3 % 4)) + 256 * (bf1 d3 / 4))) := by omega
  have s2 : ((bf1 d0 + 256 * (bf1 d1 + 256 * (bf1 d2 + 256 * bf1 d3))) &&& 3689348814741910323) + ((bf1 d0 + 256 * (bf1 d1 + 256 * (bf1 d2 + 256 * bf1 d3))) / 4 &&& 3689348814741910323) = bf2 d0 + 256 * (bf2 d1 + 256 * (bf2 d2 + 256 * bf2 d3)) := by
    rw [e2, m2, bx_4 _ _ _ _ 51 _ q0.2.2 q1.2.2 q2.2.2 q3.2.2 (by omega), bx_4 _ _ _ _ 51 _ (by omega) (by omega) (by omega) (by omega) (by omega), r0.1, r1.1, r2.1]
    have b0 : bf2 d0 = (bf1 d0 &&& 51) + (bf1 d0 / 4 &&& 51) := rfl
    have b1 : bf2 d1 = (bf1 d1 &&& 51) + (bf1 d1 / 4 &&& 51) := rfl
    have b2 : bf2 d2 = (bf1 d2 &&& 51) + (bf1 d2 / 4 &&& 51) := rfl
    have b3 : bf2 d3 = (bf1 d3 &&& 51) + (bf1 d3 / 4 &&& 51) := rfl
    omega
  have t0 := bx_d3 d0 h0 (bf2 d1 % 16) (by omega)
  have t1 := bx_d3 d1 h1 (bf2 d2 % 16) (by omega)
  have t2 := bx_d3 d2 h2 (bf2 d3 % 16) (by omega)
  have t3 := bx_d3 d3 h3 0 (by omega)
  have e3 : (bf2 d0 + 256 * (bf2 d1 + 256 * (bf2 d2 + 256 * bf2 d3))) + (bf2 d0 + 256 * (bf2 d1 + 256 * (bf2 d2 + 256 * bf2 d3))) / 16 = (bf2 d0 + bf2 d0 / 16 + 16 * (bf2 d1 % 16)) + 256 * ((bf2 d1 + bf2 d1 / 16 + 16 * (bf2 d2 % 16)) + 256 * ((bf2 d2 + bf2 d2 / 16 + 16 * (bf2 d3 % 16)) + 256 * (bf2 d3 + bf2 d3 / 16))) := by omega
  have s3 : ((bf2 d0 + 256 * (bf2 d1 + 256 * (bf2 d2 + 256 * bf2 d3))) + (bf2 d0 + 256 * (bf2 d1 + 256 * (bf2 d2 + 256 * bf2 d3))) / 16) &&& 1085102592571150095 = bf3 d0 + 256 * (bf3 d1 + 256 * (bf3 d2 + 256 * bf3 d3)) := by
    rw [e3, m3, bx_4 _ _ _ _ 15 _ (by omega) (by omega) (by omega) (by omega) (by omega), t0.1, t1.1, t2.1]
    rfl
  show pq6 (pq5 (pq4 (pq3 (pq2 (pq1 (d0 + 256 * (d1 + 256 * (d2 + 256 * d3)))))))) % 128 = _
  rw [show pq1 (d0 + 256 * (d1 + 256 * (d2 + 256 * d3))) = bf1 d0 + 256 * (bf1 d1 + 256 * (bf1 d2 + 256 * bf1 d3)) from s1, show pq2 (bf1 d0 + 256 * (bf1 d1 + 256 * (bf1 d2 + 256 * bf1 d3))) = bf2 d0 + 256 * (bf2 d1 + 256 * (bf2 d2 + 256 * bf2 d3)) from s2, show pq3 (bf2 d0 + 256 * (bf2 d1 + 256 * (bf2 d2 + 256 * bf2 d3))) = bf3 d0 + 256 * (bf3 d1 + 256 * (bf3 d2 + 256 * bf3 d3)) from s3]
  exact pcs_fin _ _ _ _ t0.2 t1.2 t2.2 t3.2
/-- the set's number -/
def bsN (p : Nat → Bool) : Nat → Nat
  | 0 => 0
  | i + 1 => bsN p i + (if p i then 2 ^ i else 0)
theorem bsN_lt (p : Nat → Bool) : ∀ n, bsN p n < 2 ^ n
  | 0 => by show 0 < 2 ^ 0; decide
  | n + 1 => by
    have h := bsN_lt p n
    show bsN p n + _ < 2 ^ (n + 1)
    rw [Nat.pow_succ]
    split <;> omega
def cut (p : Nat → Bool) (n : Nat) : Nat → Bool := fun i => decide (i < n) && p i
theorem bsN_cut (p : Nat → Bool) (n : Nat) : ∀ m, n ≤ m → bsN (cut p n) m = bsN p n
  | m, h => by
    have lo : ∀ k, k ≤ n → bsN (cut p n) k = bsN p k := by
      intro k
      induction k with
      | zero => intro _; rfl
      | succ k ih =>
        intro hk
        show bsN (cut p n) k + _ = bsN p k + _
        rw [ih (by omega)]
        have : cut p n k = p k := by unfold cut; rw [decide_eq_true (by omega), Bool.true_and]
        rw [this]
    induction m with
    | zero => exact (lo 0 (Nat.zero_le n)).trans (by rw [show n = 0 by omega])
    | succ m ih =>
      rcases Nat.lt_or_ge m n with q | q
      · rw [show n = m + 1 by omega]; rw [show n = m + 1 by omega] at lo; exact lo _ (Nat.le_refl _)
      · show bsN (cut p n) m + _ = _
        rw [ih q]
        have : cut p n m = false := by unfold cut; rw [decide_eq_false (by omega), Bool.false_and]
        rw [this]; rfl
theorem cnt_cut (p : Nat → Bool) (n : Nat) : ∀ m, n ≤ m → cnt (cut p n) m = cnt p n
  | m, h => by
    have e : cnt (cut p n) n = cnt p n := cnt_cg (fun k hk => by unfold cut; rw [decide_eq_true hk, Bool.true_and])
    induction m with
    | zero => rw [show n = 0 by omega]; rfl
    | succ m ih =>
      rcases Nat.lt_or_ge m n with q | q
      · rw [show m + 1 = n by omega]; exact e
      · rw [cnt_f (by unfold cut; rw [decide_eq_false (by omega), Bool.false_and]), ih q]
theorem bf3_b : ∀ b0 b1 b2 b3 b4 b5 b6 b7 : Bool, bf3 ((if b0 then 1 else 0) + (if b1 then 2 else 0) + (if b2 then 4 else 0) + (if b3 then 8 else 0) + (if b4 then 16 else 0) + (if b5 then 32 else 0) + (if b6 then 64 else 0) + (if b7 then 128 else 0)) = (if b0 then 1 else 0) + (if b1 then 1 else 0) + (if b2 then 1 else 0) + (if b3 then 1 else 0) + (if b4 then 1 else 0) + (if b5 then 1 else 0) + (if b6 then 1 else 0) + (if b7 then 1 else 0) := by decide +kernel
def by8 (p : Nat → Bool) (k : Nat) : Nat := (if p k then 1 else 0) + (if p (k + 1) then 2 else 0) + (if p (k + 2) then 4 else 0) + (if p (k + 3) then 8 else 0) + (if p (k + 4) then 16 else 0) + (if p (k + 5) then 32 else 0) + (if p (k + 6) then 64 else 0) + (if p (k + 7) then 128 else 0)
theorem by8_lt (p : Nat → Bool) (k : Nat) : by8 p k < 256 := by
  unfold by8
  have h : ∀ (b : Bool) (m : Nat), (if b then m else 0) ≤ m := fun b m => by cases b <;> simp
  have := h (p k) 1; have := h (p (k + 1)) 2; have := h (p (k + 2)) 4; have := h (p (k + 3)) 8
  have := h (p (k + 4)) 16; have := h (p (k + 5)) 32; have := h (p (k + 6)) 64; have := h (p (k + 7)) 128
  omega
theorem bsN_8 (p : Nat → Bool) (k : Nat) : bsN p (k + 8) = bsN p k + 2 ^ k * by8 p k := by
  have h : ∀ (b : Bool) (m : Nat), (if b then 2 ^ k * m else 0) = 2 ^ k * (if b then m else 0) := fun b m => by cases b <;> simp
  have e : bsN p (k + 8) = bsN p k + (if p k then 2 ^ k else 0) + (if p (k + 1) then 2 ^ (k + 1) else 0) + (if p (k + 2) then 2 ^ (k + 2) else 0) + (if p (k + 3) then 2 ^ (k + 3) else 0) + (if p (k + 4) then 2 ^ (k + 4) else 0) + (if p (k + 5) then 2 ^ (k + 5) else 0) + (if p (k + 6) then 2 ^ (k + 6) else 0) + (if p (k + 7) then 2 ^ (k + 7) else 0) := rfl
  have h1 := h (p k) 1; have h2 := h (p (k + 1)) 2; have h3 := h (p (k + 2)) 4; have h4 := h (p (k + 3)) 8
  have h5 := h (p (k + 4)) 16; have h6 := h (p (k + 5)) 32; have h7 := h (p (k + 6)) 64; have h8 := h (p (k + 7)) 128
  rw [Nat.mul_one] at h1
  rw [e, show 2 ^ (k + 1) = 2 ^ k * 2 by rw [Nat.pow_succ], show 2 ^ (k + 2) = 2 ^ k * 4 by rw [Nat.pow_add], show 2 ^ (k + 3) = 2 ^ k * 8 by rw [Nat.pow_add], show 2 ^ (k + 4) = 2 ^ k * 16 by rw [Nat.pow_add], show 2 ^ (k + 5) = 2 ^ k * 32 by rw [Nat.pow_add], show 2 ^ (k + 6) = 2 ^ k * 64 by rw [Nat.pow_add], show 2 ^ (k + 7) = 2 ^ k * 128 by rw [Nat.pow_add], h1, h2, h3, h4, h5, h6, h7, h8]
  unfold by8
  simp only [Nat.mul_add]
  omega
theorem cnt_8 (p : Nat → Bool) (k : Nat) : cnt p (k + 8) = cnt p k + bf3 (by8 p k) := by
  rw [show bf3 (by8 p k) = _ from bf3_b (p k) (p (k + 1)) (p (k + 2)) (p (k + 3)) (p (k + 4)) (p (k + 5)) (p (k + 6)) (p (k + 7))]
  have e : cnt p (k + 8) = cnt p k + (if p k then 1 else 0) + (if p (k + 1) then 1 else 0) + (if p (k + 2) then 1 else 0) + (if p (k + 3) then 1 else 0) + (if p (k + 4) then 1 else 0) + (if p (k + 5) then 1 else 0) + (if p (k + 6) then 1 else 0) + (if p (k + 7) then 1 else 0) := rfl
  rw [e]; omega
theorem pcs_bsN (p : Nat → Bool) {n : Nat} (hn : n ≤ 32) : pcs (bsN p n) = cnt p n := by
  rw [← bsN_cut p n 32 hn, ← cnt_cut p n 32 hn]
  generalize cut p n = q
  have a1 : bsN q 32 = bsN q 24 + 2 ^ 24 * by8 q 24 := bsN_8 q 24
  have a2 : bsN q 24 = bsN q 16 + 2 ^ 16 * by8 q 16 := bsN_8 q 16
  have a3 : bsN q 16 = bsN q 8 + 2 ^ 8 * by8 q 8 := bsN_8 q 8
  have a4 : bsN q 8 = 0 + 2 ^ 0 * by8 q 0 := bsN_8 q 0
  have e : bsN q 32 = by8 q 0 + 256 * (by8 q 8 + 256 * (by8 q 16 + 256 * by8 q 24)) := by omega
  rw [e, pcs_4 _ _ _ _ (by8_lt q 0) (by8_lt q 8) (by8_lt q 16) (by8_lt q 24)]
  have b1 : cnt q 32 = cnt q 24 + bf3 (by8 q 24) := cnt_8 q 24
  have b2 : cnt q 24 = cnt q 16 + bf3 (by8 q 16) := cnt_8 q 16
  have b3 : cnt q 16 = cnt q 8 + bf3 (by8 q 8) := cnt_8 q 8
  have b4 : cnt q 8 = 0 + bf3 (by8 q 0) := cnt_8 q 0
  omega
/-! Out of kit/laws (given for pasting): longs as bits. -/
theorem wb_tb (n : Nat) : (lN n).toBitVec = BitVec.ofNat 64 n := rfl
theorem wb_inj {a b : Int64} (h : a.toBitVec = b.toBitVec) : a = b := Int64.toBitVec_inj.mp h
theorem wb_tn {n : Nat} (h : n < 2 ^ 64) : (lN n).toBitVec.toNat = n := by rw [wb_tb, BitVec.toNat_ofNat, Nat.mod_eq_of_lt h]
theorem wb_c : ∀ k, k < 64 → ((nI k).toInt64 &&& 63) = lN k := by decide +kernel
theorem wb_cu : ∀ k, k < 64 → ((nI k).toInt64.toUInt64 &&& Int64.toUInt64 63) = UInt64.ofNat k := by decide +kernel
theorem wb_sm : ∀ k, k < 64 → (BitVec.ofNat 64 k).smod 64 = BitVec.ofNat 64 k := by decide +kernel
theorem wb_shr {n k : Nat} (hn : n < 2 ^ 64) (hk : k < 64) : ((lN n).toUInt64 >>> ((nI k).toInt64.toUInt64 &&& Int64.toUInt64 63)).toInt64 = lN (n / 2 ^ k) := by
  rw [wb_cu k hk]
  apply wb_inj
  apply BitVec.eq_of_toNat_eq
  show ((lN n).toUInt64 >>> UInt64.ofNat k).toNat = (BitVec.ofNat 64 _).toNat
  have h1 : (UInt64.ofNat k).toNat = k := by
    show (BitVec.ofNat 64 k).toNat = k
    rw [BitVec.toNat_ofNat, Nat.mod_eq_of_lt (by omega)]
  have h2 : (lN n).toUInt64.toNat = n := wb_tn hn
  rw [UInt64.toNat_shiftRight, h1, h2, Nat.mod_eq_of_lt hk, Nat.shiftRight_eq_div_pow, BitVec.toNat_ofNat, Nat.mod_eq_of_lt (Nat.lt_of_le_of_lt (Nat.div_le_self _ _) hn)]
theorem wb_shl (n : Nat) {k : Nat} (hk : k < 64) : lN n <<< ((nI k).toInt64 &&& 63) = lN (n * 2 ^ k) := by
  rw [wb_c k hk]
  apply wb_inj
  rw [Int64.toBitVec_shiftLeft, wb_tb, wb_tb, wb_tb, wb_sm k hk]
  apply BitVec.eq_of_toNat_eq
  rw [BitVec.shiftLeft_eq', BitVec.toNat_shiftLeft, BitVec.toNat_ofNat, BitVec.toNat_ofNat, BitVec.toNat_ofNat, Nat.mod_eq_of_lt (show k < 2 ^ 64 by omega), Nat.shiftLeft_eq, Nat.mul_mod, Nat.mod_mod, ← Nat.mul_mod]
theorem u_tn {n : Nat} (h : n < 2 ^ 64) : (UInt64.ofNat n).toNat = n := Nat.mod_eq_of_lt h
theorem g_or {k p a b : Nat} (hp : 2 ^ k = p) (ha : a < p) (h : b * p + a < 2 ^ 64) : lN (b * p) ||| lN a = lN (b * p + a) := by
  subst hp
  have h1 : b * 2 ^ k ||| a = b * 2 ^ k + a := by rw [← Nat.shiftLeft_eq, Nat.shiftLeft_add_eq_or_of_lt ha]
  have h3 : UInt64.ofNat (b * 2 ^ k) ||| UInt64.ofNat a = UInt64.ofNat (b * 2 ^ k + a) := UInt64.toNat_inj.mp (by rw [UInt64.toNat_or, u_tn (by omega), u_tn (by omega), u_tn h, h1])
  have h2 := congrArg UInt64.toInt64 h3
  exact h2
theorem g_or' {k p a b : Nat} (hp : 2 ^ k = p) (ha : a < p) (h : a + b * p < 2 ^ 64) : lN a ||| lN (b * p) = lN (a + b * p) := by
  rw [Int64.or_comm, g_or hp ha (by omega), Nat.add_comm]
theorem fb_andL (a b : Nat) : lN a &&& lN b = lN (a &&& b) := by
  apply Int64.toBitVec_inj.1
  show BitVec.ofNat 64 a &&& BitVec.ofNat 64 b = BitVec.ofNat 64 (a &&& b)
  apply BitVec.eq_of_getLsbD_eq
  intro i hi
  simp [hi]
theorem bst_N (fl : Bool) (v : Nat → Int64) (n b : Nat) : ∀ i, i ≤ 32 → bst fl v n b i = lN (bsN (brk fl v n b) i)
  | 0, _ => rfl
  | i + 1, hi => by
    have ih := bst_N fl v n b i (by omega)
    show (if brk fl v n b i then bst fl v n b i ||| (lN 1 <<< ((nI i).toInt64 &&& 63)) else bst fl v n b i) = lN (bsN (brk fl v n b) i + if brk fl v n b i then 2 ^ i else 0)
    cases h : brk fl v n b i with
    | false => rw [if_neg (by decide), if_neg (by decide), Nat.add_zero]; exact ih
    | true =>
      have h1 := bsN_lt (brk fl v n b) i
      have h2 : 2 ^ i ≤ 2 ^ 31 := Nat.pow_le_pow_right (by decide) (by omega)
      rw [if_pos rfl, if_pos rfl, ih, wb_shl 1 (by omega), g_or' rfl h1 (by omega), Nat.one_mul]
/-- the JDK's bitCount over the broken places -/
theorem pcs_bst (fl : Bool) (v : Nat → Int64) {n : Nat} (b : Nat) (hn : n ≤ 32) : bst fl v n b n = lN (bsN (brk fl v n b) n) ∧ pcs (bsN (brk fl v n b) n) = cnt (brk fl v n b) n := ⟨bst_N fl v n b n hn, pcs_bsN _ hn⟩
theorem fa_and (a b : Nat) : nI a &&& nI b = nI (a &&& b) := by
  apply Int32.toBitVec_inj.1
  show BitVec.ofNat 32 a &&& BitVec.ofNat 32 b = BitVec.ofNat 32 (a &&& b)
  apply BitVec.eq_of_getLsbD_eq
  intro i hi
  simp [hi]
theorem fa_mask (n k : Nat) : nI n &&& nI (2 ^ k - 1) = nI (n % 2 ^ k) := by rw [fa_and, Nat.and_two_pow_sub_one_eq_mod]
