/-! The texts: the class's reading and the model's come to the same. -/
def cdi (i : Nat) : Nat := [841, 12251, 3063, 14006, 390787, 1373818, 259906].getD i 0
section WRD
variable {c : Nat → Nat} {st en : Nat}
theorem mt3 (i : Nat) : mt c i st 3 = true ↔ c (st + 0) = wcc i 0 ∧ c (st + 1) = wcc i 1 ∧ c (st + 2) = wcc i 2 := by
  simp only [mt, Bool.true_and, Bool.and_eq_true, decide_eq_true_eq, and_assoc]
theorem mt4 (i : Nat) : mt c i st 4 = true ↔ c (st + 0) = wcc i 0 ∧ c (st + 1) = wcc i 1 ∧ c (st + 2) = wcc i 2 ∧ c (st + 3) = wcc i 3 := by
  simp only [mt, Bool.true_and, Bool.and_eq_true, decide_eq_true_eq, and_assoc]
theorem mt5 (i : Nat) : mt c i st 5 = true ↔ c (st + 0) = wcc i 0 ∧ c (st + 1) = wcc i 1 ∧ c (st + 2) = wcc i 2 ∧ c (st + 3) = wcc i 3 ∧ c (st + 4) = wcc i 4 := by
  simp only [mt, Bool.true_and, Bool.and_eq_true, decide_eq_true_eq, and_assoc]
/-- a word's number tells its length and its letters -/
theorem wrd_iff {m x0 x1 x2 x3 x4 : Nat} (h : ∀ j, j < en - st → 97 ≤ c (st + j) ∧ c (st + j) ≤ 122) (hm : en - st = m) (e0 : c (st + 0) = x0) (e1 : c (st + 1) = x1) (e2 : c (st + 2) = x2) (e3 : c (st + 3) = x3) (e4 : c (st + 4) = x4) :
    (m = 0 ∧ wrd c st en = 0) ∨ (m = 1 ∧ wrd c st en = x0 - 97 + 1 ∧ 97 ≤ x0 ∧ x0 ≤ 122) ∨ (m = 2 ∧ wrd c st en = 27 * (x0 - 97 + 1) + x1 - 97 + 1 ∧ 97 ≤ x0 ∧ x0 ≤ 122 ∧ 97 ≤ x1 ∧ x1 ≤ 122)
    ∨ (m = 3 ∧ wrd c st en = 27 * (27 * (x0 - 97 + 1) + x1 - 97 + 1) + x2 - 97 + 1 ∧ 97 ≤ x0 ∧ x0 ≤ 122 ∧ 97 ≤ x1 ∧ x1 ≤ 122 ∧ 97 ≤ x2 ∧ x2 ≤ 122)
    ∨ (m = 4 ∧ wrd c st en = 27 * (27 * (27 * (x0 - 97 + 1) + x1 - 97 + 1) + x2 - 97 + 1) + x3 - 97 + 1 ∧ 97 ≤ x0 ∧ x0 ≤ 122 ∧ 97 ≤ x1 ∧ x1 ≤ 122 ∧ 97 ≤ x2 ∧ x2 ≤ 122 ∧ 97 ≤ x3 ∧ x3 ≤ 122)
    ∨ (m = 5 ∧ wrd c st en = 27 * (27 * (27 * (27 * (x0 - 97 + 1) + x1 - 97 + 1) + x2 - 97 + 1) + x3 - 97 + 1) + x4 - 97 + 1 ∧ 97 ≤ x0 ∧ x0 ≤ 122 ∧ 97 ≤ x1 ∧ x1 ≤ 122 ∧ 97 ≤ x2 ∧ x2 ≤ 122 ∧ 97 ≤ x3 ∧ x3 ≤ 122 ∧ 97 ≤ x4 ∧ x4 ≤ 122)
    ∨ (5 < m ∧ wrd c st en = 0) := by
  rw [hm] at h
  unfold wrd
  rw [hm]
  by_cases hb : 5 < m
  · right; right; right; right; right; right
    exact ⟨hb, if_pos hb⟩
  rw [if_neg hb]
  have z0 : w27 c st 0 = 0 := rfl
  have z1 : w27 c st 1 = 27 * w27 c st 0 + c (st + 0) - 97 + 1 := rfl
  have z2 : w27 c st 2 = 27 * w27 c st 1 + c (st + 1) - 97 + 1 := rfl
  have z3 : w27 c st 3 = 27 * w27 c st 2 + c (st + 2) - 97 + 1 := rfl
  have z4 : w27 c st 4 = 27 * w27 c st 3 + c (st + 3) - 97 + 1 := rfl
  have z5 : w27 c st 5 = 27 * w27 c st 4 + c (st + 4) - 97 + 1 := rfl
  rw [e0] at z1; rw [e1] at z2; rw [e2] at z3; rw [e3] at z4; rw [e4] at z5
  have g0 : 0 < m → 97 ≤ x0 ∧ x0 ≤ 122 := fun q => by rw [← e0]; exact h 0 q
  have g1 : 1 < m → 97 ≤ x1 ∧ x1 ≤ 122 := fun q => by rw [← e1]; exact h 1 q
  have g2 : 2 < m → 97 ≤ x2 ∧ x2 ≤ 122 := fun q => by rw [← e2]; exact h 2 q
  have g3 : 3 < m → 97 ≤ x3 ∧ x3 ≤ 122 := fun q => by rw [← e3]; exact h 3 q
  have g4 : 4 < m → 97 ≤ x4 ∧ x4 ≤ 122 := fun q => by rw [← e4]; exact h 4 q
  rcases (show m = 0 ∨ m = 1 ∨ m = 2 ∨ m = 3 ∨ m = 4 ∨ m = 5 by omega) with rfl | rfl | rfl | rfl | rfl | rfl
  · left; exact ⟨rfl, z0⟩
  · right; left
    have := g0 (by decide)
    exact ⟨rfl, by omega, by omega, by omega⟩
  · right; right; left
    have := g0 (by decide); have := g1 (by decide)
    exact ⟨rfl, by omega, by omega, by omega, by omega, by omega⟩
  · right; right; right; left
    have := g0 (by decide); have := g1 (by decide); have := g2 (by decide)
    exact ⟨rfl, by omega, by omega, by omega, by omega, by omega, by omega, by omega⟩
  · right; right; right; right; left
    have := g0 (by decide); have := g1 (by decide); have := g2 (by decide); have := g3 (by decide)
    exact ⟨rfl, by omega, by omega, by omega, by omega, by omega, by omega, by omega, by omega, by omega⟩
  · right; right; right; right; right; left
    have := g0 (by decide); have := g1 (by decide); have := g2 (by decide); have := g3 (by decide); have := g4 (by decide)
    exact ⟨rfl, by omega, by omega, by omega, by omega, by omega, by omega, by omega, by omega, by omega, by omega, by omega⟩
theorem btw_3 {i : Nat} (h : ∀ j, j < en - st → 97 ≤ c (st + j) ∧ c (st + j) ≤ 122) (hl : wln i = 3) (hk : cdi i = 27 * (27 * (wcc i 0 - 97 + 1) + wcc i 1 - 97 + 1) + wcc i 2 - 97 + 1) (b0 : 97 ≤ wcc i 0 ∧ wcc i 0 ≤ 122) (b1 : 97 ≤ wcc i 1 ∧ wcc i 1 ≤ 122) (b2 : 97 ≤ wcc i 2 ∧ wcc i 2 ≤ 122) : btw c i st en = decide (wrd c st en = cdi i) := by
  unfold btw
  rw [hl, Bool.eq_iff_iff, Bool.and_eq_true, decide_eq_true_iff, decide_eq_true_iff, mt3]
  generalize wcc i 0 = y0 at *
  generalize wcc i 1 = y1 at *
  generalize wcc i 2 = y2 at *
  generalize cdi i = w at *
  have k := wrd_iff h rfl rfl rfl rfl rfl rfl
  generalize wrd c st en = z at *
  generalize c (st + 0) = x0 at *
  generalize c (st + 1) = x1 at *
  generalize c (st + 2) = x2 at *
  generalize c (st + 3) = x3 at *
  generalize c (st + 4) = x4 at *
  generalize en - st = m at *
  clear h hl
  constructor
  · rintro ⟨rfl, rfl, rfl, rfl⟩
    omega
  · intro q
    subst q
    rcases k with k | k | k | k | k | k | k <;> omega
theorem btw_4 {i : Nat} (h : ∀ j, j < en - st → 97 ≤ c (st + j) ∧ c (st + j) ≤ 122) (hl : wln i = 4) (hk : cdi i = 27 * (27 * (27 * (wcc i 0 - 97 + 1) + wcc i 1 - 97 + 1) + wcc i 2 - 97 + 1) + wcc i 3 - 97 + 1) (b0 : 97 ≤ wcc i 0 ∧ wcc i 0 ≤ 122) (b1 : 97 ≤ wcc i 1 ∧ wcc i 1 ≤ 122) (b2 : 97 ≤ wcc i 2 ∧ wcc i 2 ≤ 122) (b3 : 97 ≤ wcc i 3 ∧ wcc i 3 ≤ 122) : btw c i st en = decide (wrd c st en = cdi i) := by
  unfold btw
  rw [hl, Bool.eq_iff_iff, Bool.and_eq_true, decide_eq_true_iff, decide_eq_true_iff, mt4]
  generalize wcc i 0 = y0 at *
  generalize wcc i 1 = y1 at *
  generalize wcc i 2 = y2 at *
  generalize wcc i 3 = y3 at *
  generalize cdi i = w at *
  have k := wrd_iff h rfl rfl rfl rfl rfl rfl
  generalize wrd c st en = z at *
  generalize c (st + 0) = x0 at *
  generalize c (st + 1) = x1 at *
  generalize c (st + 2) = x2 at *
  generalize c (st + 3) = x3 at *
  generalize c (st + 4) = x4 at *
  generalize en - st = m at *
  clear h hl
  constructor
  · rintro ⟨rfl, rfl, rfl, rfl, rfl⟩
    omega
  · intro q
    subst q
    rcases k with k | k | k | k | k | k | k <;> omega
theorem btw_5 {i : Nat} (h : ∀ j, j < en - st → 97 ≤ c (st + j) ∧ c (st + j) ≤ 122) (hl : wln i = 5) (hk : cdi i = 27 * (27 * (27 * (27 * (wcc i 0 - 97 + 1) + wcc i 1 - 97 + 1) + wcc i 2 - 97 + 1) + wcc i 3 - 97 + 1) + wcc i 4 - 97 + 1) (b0 : 97 ≤ wcc i 0 ∧ wcc i 0 ≤ 122) (b1 : 97 ≤ wcc i 1 ∧ wcc i 1 ≤ 122) (b2 : 97 ≤ wcc i 2 ∧ wcc i 2 ≤ 122) (b3 : 97 ≤ wcc i 3 ∧ wcc i 3 ≤ 122) (b4 : 97 ≤ wcc i 4 ∧ wcc i 4 ≤ 122) : btw c i st en = decide (wrd c st en = cdi i) := by
  unfold btw
  rw [hl, Bool.eq_iff_iff, Bool.and_eq_true, decide_eq_true_iff, decide_eq_true_iff, mt5]
  generalize wcc i 0 = y0 at *
  generalize wcc i 1 = y1 at *
  generalize wcc i 2 = y2 at *
  generalize wcc i 3 = y3 at *
  generalize wcc i 4 = y4 at *
  generalize cdi i = w at *
  have k := wrd_iff h rfl rfl rfl rfl rfl rfl
  generalize wrd c st en = z at *
  generalize c (st + 0) = x0 at *
  generalize c (st + 1) = x1 at *
  generalize c (st + 2) = x2 at *
  generalize c (st + 3) = x3 at *
  generalize c (st + 4) = x4 at *
  generalize en - st = m at *
  clear h hl
  constructor
  · rintro ⟨rfl, rfl, rfl, rfl, rfl, rfl⟩
    omega
  · intro q
    subst q
    rcases k with k | k | k | k | k | k | k <;> omega
theorem btw_w (h : ∀ j, j < en - st → 97 ≤ c (st + j) ∧ c (st + j) ≤ 122) {i : Nat} (hi : i < 7) : btw c i st en = decide (wrd c st en = cdi i) := by
  rcases (show i = 0 ∨ i = 1 ∨ i = 2 ∨ i = 3 ∨ i = 4 ∨ i = 5 ∨ i = 6 by omega) with rfl | rfl | rfl | rfl | rfl | rfl | rfl
  · exact btw_3 h (by decide) (by decide) (by decide) (by decide) (by decide)
  · exact btw_3 h (by decide) (by decide) (by decide) (by decide) (by decide)
  · exact btw_3 h (by decide) (by decide) (by decide) (by decide) (by decide)
  · exact btw_3 h (by decide) (by decide) (by decide) (by decide) (by decide)
  · exact btw_4 h (by decide) (by decide) (by decide) (by decide) (by decide) (by decide)
  · exact btw_5 h (by decide) (by decide) (by decide) (by decide) (by decide) (by decide) (by decide)
  · exact btw_4 h (by decide) (by decide) (by decide) (by decide) (by decide) (by decide)
theorem cmdO_eq (w : Nat) : cmdO w = if w = 841 then some 0 else if w = 12251 then some 1 else if w = 3063 then some 2 else if w = 14006 then some 3 else if w = 390787 then some 4 else if w = 1373818 then some 5 else if w = 259906 then some 6 else none := rfl
theorem wid_cmd (h : ∀ j, j < en - st → 97 ≤ c (st + j) ∧ c (st + j) ≤ 122) : wid c st en = cmdO (wrd c st en) := by
  have b := fun i hi => btw_w (c := c) (st := st) (en := en) h (i := i) hi
  have b0 : btw c 0 st en = decide (wrd c st en = 841) := b 0 (by decide)
  have b1 : btw c 1 st en = decide (wrd c st en = 12251) := b 1 (by decide)
  have b2 : btw c 2 st en = decide (wrd c st en = 3063) := b 2 (by decide)
  have b3 : btw c 3 st en = decide (wrd c st en = 14006) := b 3 (by decide)
  have b4 : btw c 4 st en = decide (wrd c st en = 390787) := b 4 (by decide)
  have b5 : btw c 5 st en = decide (wrd c st en = 1373818) := b 5 (by decide)
  have b6 : btw c 6 st en = decide (wrd c st en = 259906) := b 6 (by decide)
  have e : wid c st en = (if btw c 0 st en then some 0 else if btw c 1 st en then some 1 else if btw c 2 st en then some 2 else if btw c 3 st en then some 3 else if btw c 4 st en then some 4 else if btw c 5 st en then some 5 else if btw c 6 st en then some 6 else none) := rfl
  rw [e, cmdO_eq, b0, b1, b2, b3, b4, b5, b6]
  simp only [decide_eq_true_eq]
end WRD
theorem wid_wrd {c : Nat → Nat} {n p : Nat} : wid c p (skL c n p) = cmdO (wrd c p (skL c n p)) := by
  refine wid_cmd (fun j hj => ?_)
  have := isA_i (rn_in (P := isA c n 97 122) (f := n - p) (p := p) (p + j) (by omega) (by show p + j < skL c n p; omega))
  exact this.2
/-- the two readings' outcomes: both read, or both at fault in one place -/
def PQ (c : Nat → Nat) (n : Nat) (x : Bool × PS) (y : Bool × MS) : Prop := x.1 = y.1 ∧ y.2.1 = (if x.1 then skS c n x.2.1 else x.2.1)
section PQS
variable {c : Nat → Nat} {n k q : Nat} {am nb pl : Int32} {vl gv : Int64}
theorem PQ_f {q : Nat} {x : Int32 × Option Nat × Int32 × Int64} {y : Int32 × Int32 × Int64} : PQ c n (false, q, x) (false, q, y) := ⟨rfl, rfl⟩
theorem crE_md : PQ c n (crE c n k q am nb vl) (mdE c n k q pl gv) := by
  unfold crE mdE
  split
  · exact ⟨rfl, rfl⟩
  · exact ⟨rfl, rfl⟩
theorem dig_no (h : isA c n 48 57 q = true) : isA c n 32 32 q = false := by
  have := isA_i h
  exact isA_f (by omega)
theorem crE_dig (h : isA c n 48 57 q = true) : crE c n k q am nb vl = (false, q, am, some k, nb, vl) := by
  have e : skS c n q = q := rn_f (dig_no h)
  have h2 := isA_i h
  unfold crE
  rw [e, if_neg (by rw [isA_f (show n ≤ q ∨ c q < 59 ∨ 59 < c q by omega)]; decide)]
theorem ncC_dig (h : isA c n 48 57 q = true) (sg : Bool) : ncC c n q sg = false := by unfold ncC; rw [dig_no h]; rfl
theorem ncP_dig (h : isA c n 48 57 q = true) (sg : Bool) : ncP c n q sg = q := by unfold ncP; rw [dig_no h]; rfl
theorem crV_dig (h : isA c n 48 57 q = true) : (crV c n k q am vl).1 = false ∧ (crV c n k q am vl).2.1 = q := by
  unfold crV
  split
  · rw [if_neg (by rw [ncC_dig h]; decide)]
    exact ⟨rfl, ncP_dig h true⟩
  · rw [crE_dig h]; exact ⟨rfl, rfl⟩
theorem ncC_sp {sg : Bool} (h : ncC c n q sg = true) : isA c n 32 32 q = true := by
  unfold ncC at h
  exact (Bool.and_eq_true_iff.mp h).1
theorem ncP_nuE {sg : Bool} (h : ncC c n q sg = true) : ncP c n q sg = nuE c n q sg := by unfold ncP; rw [if_pos (ncC_sp h)]
theorem crV_md : PQ c n (crV c n k q am vl) (mdV c n k q pl gv) := by
  unfold crV mdV
  by_cases hv : wva k = true
  · rw [if_pos hv, if_pos hv]
    by_cases hc : ncC c n q true = true
    · rw [if_pos hc]
      by_cases hm : nmO c n q true = true
      · rw [if_pos hm]; exact crE_md
      · rw [if_neg hm]
        have hd : isA c n 48 57 (ncP c n q true) = true := by
          rw [ncP_nuE hc]
          unfold nmO at hm
          rw [hc] at hm
          simpa using hm
        rw [crE_dig hd]
        exact PQ_f
    · rw [if_neg hc, if_neg (fun hm => hc (by unfold nmO at hm; exact (Bool.and_eq_true_iff.mp hm).1))]
      exact PQ_f
  · rw [if_neg hv, if_neg hv]
    exact crE_md
theorem crS_md {s : PS} {s' : MS} (h : s.1 = s'.1) : PQ c n (crS c n s) (mdS c n s') := by
  unfold crS mdS
  rw [wid_wrd, ← h]
  cases hw : cmdO (wrd c s.1 (skL c n s.1)) with
  | none => exact PQ_f
  | some k =>
    show PQ c n (if wnu k then (if ncC c n (skL c n s.1) false then crV c n k (ncP c n (skL c n s.1) false) (ncA c n (skL c n s.1) false s.2.1) s.2.2.2.2 else (false, ncP c n (skL c n s.1) false, ncA c n (skL c n s.1) false s.2.1, some k, s.2.2.2.1, s.2.2.2.2)) else crV c n k (skL c n s.1) s.2.1 s.2.2.2.2)
      (if wnu k then (if nmO c n (skL c n s.1) false then mdV c n k (ncP c n (skL c n s.1) false) (nmL c n (skL c n s.1) false s'.2.2.1) (nmG c n (skL c n s.1) false s'.2.2.2) else (false, ncP c n (skL c n s.1) false, nI k, nmL c n (skL c n s.1) false s'.2.2.1, nmG c n (skL c n s.1) false s'.2.2.2)) else mdV c n k (skL c n s.1) s'.2.2.1 s'.2.2.2)
    by_cases hv : wnu k = true
    · rw [if_pos hv, if_pos hv]
      by_cases hc : ncC c n (skL c n s.1) false = true
      · rw [if_pos hc]
        by_cases hm : nmO c n (skL c n s.1) false = true
        · rw [if_pos hm]; exact crV_md
        · rw [if_neg hm]
          have hd : isA c n 48 57 (ncP c n (skL c n s.1) false) = true := by
            rw [ncP_nuE hc]
            unfold nmO at hm
            rw [hc] at hm
            simpa using hm
          have g := crV_dig (k := k) (am := ncA c n (skL c n s.1) false s.2.1) (vl := s.2.2.2.2) hd
          exact ⟨g.1, by rw [g.1]; exact g.2.symm⟩
      · rw [if_neg hc, if_neg (fun hm => hc (by unfold nmO at hm; exact (Bool.and_eq_true_iff.mp hm).1))]
        exact PQ_f
    · rw [if_neg hv, if_neg hv]
      exact crV_md
-- how far a command reaches
theorem crE_gt (h : q ≤ n) (h2 : (crE c n k q am nb vl).1 = true) : q < (crE c n k q am nb vl).2.1 := by
  have h1 := skS_le (c := c) h
  unfold crE at h2 ⊢
  split at h2
  · rename_i h3
    rw [if_pos h3]
    show q < skS c n q + 1
    omega
  · cases h2
theorem crV_gt (h : q ≤ n) (h2 : (crV c n k q am vl).1 = true) : q < (crV c n k q am vl).2.1 := by
  have h3 := ncP_ge (c := c) true h
  have h4 := ncP_le (c := c) true h
  unfold crV at h2 ⊢
  split
  · rename_i hv
    rw [if_pos hv] at h2
    split
    · rename_i hc
      rw [if_pos hc] at h2
      exact Nat.lt_of_le_of_lt h3 (crE_gt h4 h2)
    · rename_i hc
      rw [if_neg hc] at h2
      cases h2
  · rename_i hv
    rw [if_neg hv] at h2
    exact crE_gt h h2
theorem crS_gt {s : PS} (h : s.1 ≤ n) (h2 : (crS c n s).1 = true) : s.1 < (crS c n s).2.1 := by
  have h0 := skL_le (c := c) h
  have h3 := ncP_ge (c := c) false h0.2
  have h4 := ncP_le (c := c) false h0.2
  cases hw : wid c s.1 (skL c n s.1) with
  | none => simp [crS, hw] at h2
  | some k =>
    simp only [crS, hw] at h2 ⊢
    split
    · rename_i hv
      rw [if_pos hv] at h2
      split
      · rename_i hc
        rw [if_pos hc] at h2
        exact Nat.lt_of_le_of_lt (Nat.le_trans h0.1 h3) (crV_gt h4 h2)
      · rename_i hc
        rw [if_neg hc] at h2
        cases h2
    · rename_i hv
      rw [if_neg hv] at h2
      exact Nat.lt_of_le_of_lt h0.1 (crV_gt h0.2 h2)
end PQS
/-- both find the same fault -/
theorem ff_eq {c : Nat → Nat} {n : Nat} : ∀ (f : Nat) (q : PS) (s : MS), q.1 ≤ n → n - q.1 ≤ f → s.1 = skS c n q.1 → (ffS c n f q).1 = (ffM c n (f + 1) s).1
  | 0, q, s, h1, h2, h3 => by
    have e : skS c n q.1 = q.1 := skS_e (by omega)
    rw [ffM_e (by rw [h3, e]; omega)]
    rfl
  | f + 1, q, s, h1, h2, h3 => by
    by_cases h : skS c n q.1 < n
    · have g := crS_md (c := c) (n := n) (s := (skS c n q.1, q.2)) (s' := s) h3.symm
      have hs := skS_le (c := c) h1
      rcases Bool.eq_false_or_eq_true (crS c n (skS c n q.1, q.2)).1 with hc | hc
      · rw [ffS_t h hc, ffM_t (by rw [h3]; exact h) (by rw [← g.1]; exact hc)]
        have g1 := crS_gt (c := c) (n := n) (s := (skS c n q.1, q.2)) hs.2 hc
        have g2 := crS_le (c := c) (n := n) (s := (skS c n q.1, q.2)) hs.2
        have g3 : skS c n q.1 < (crS c n (skS c n q.1, q.2)).2.1 := g1
        exact ff_eq f _ _ g2 (by omega) (by rw [g.2, if_pos hc])
      · rw [ffS_n h hc, ffM_n (by rw [h3]; exact h) (by rw [← g.1]; exact hc)]
        have e := g.2
        rw [if_neg (by rw [hc]; decide)] at e
        exact congrArg some e.symm
    · rw [ffS_e h, ffM_e (by rw [h3]; exact h)]
/-- what is read -/
theorem dgv_lt {c : Nat → Nat} {q : Nat} : ∀ (d : Nat), (∀ j, q ≤ j → j < q + d → 48 ≤ c j ∧ c j ≤ 57) → dgv c q d < 10 ^ d
  | 0, _ => Nat.one_pos
  | d + 1, h => by
    have h1 := dgv_lt d (fun j a b => h j a (by omega))
    have h2 := h (q + d) (by omega) (by omega)
    have h3 : 10 ^ (d + 1) = 10 * 10 ^ d := by rw [Nat.pow_succ, Nat.mul_comm]
    show 10 * dgv c q d + (c (q + d) - 48) < _
    omega
theorem nuV_lt {c : Nat → Nat} {n p : Nat} (sg : Bool) : nuV c n p sg < 2 ^ 31 := by
  have h1 := rn_le (P := isA c n 48 57) (f := 9) (p := nuQ c n p sg)
  have h2 : nuE c n p sg - nuQ c n p sg ≤ 9 := by unfold nuE; omega
  have h3 := dgv_lt (c := c) (q := nuQ c n p sg) (nuE c n p sg - nuQ c n p sg) (fun j a b => by
    have := isA_i (rn_in (P := isA c n 48 57) (f := 9) (p := nuQ c n p sg) j a (by show j < nuE c n p sg; have h4 : nuQ c n p sg ≤ nuE c n p sg := h1.2; omega))
    exact this.2)
  have h4 : 10 ^ (nuE c n p sg - nuQ c n p sg) ≤ 10 ^ 9 := Nat.pow_le_pow_right (by decide) h2
  have h5 : (10 : Nat) ^ 9 < 2 ^ 31 := by decide
  unfold nuV
  omega
theorem neg_l {k : Nat} (h : k < 2 ^ 31) : (-(nI k)).toInt64 = -(lN k) := by
  rw [Int32.toInt64_neg_of_ne (fun z => by
    have := congrArg Int32.toInt z
    rw [nI_toInt h] at this
    have e : (-2147483648 : Int32).toInt = -2147483648 := by decide
    omega), nI_l h]
section CRV
variable {c : Nat → Nat} {n k q : Nat} {am nb pl : Int32} {vl gv : Int64}
theorem crE_v : (crE c n k q am nb vl).2.2.2.2 = (nb, vl) := by unfold crE; split <;> rfl
theorem mdE_v : (mdE c n k q pl gv).2.2.2 = (pl, gv) := by unfold mdE; split <;> rfl
theorem nmL_t : nmL c n q true pl = pl := by unfold nmL; split <;> rfl
theorem nmG_f : nmG c n q false gv = gv := by unfold nmG; split <;> rfl
theorem ncA_l (h : isA c n 32 32 q = true) : (ncA c n q true am).toInt64 = nmG c n q true gv := by
  unfold ncA nmG
  rw [if_pos h, if_pos h, if_pos rfl]
  split
  · exact neg_l (nuV_lt true)
  · exact nI_l (nuV_lt true)
theorem ncA_i (h : isA c n 32 32 q = true) : ncA c n q false am = nmL c n q false pl := by
  unfold ncA nmL nuN
  rw [if_pos h, if_pos h]
  rfl
theorem crV_v (h : (crV c n k q am vl).1 = true) : (crV c n k q am vl).2.2.2.2.1 = am ∧ (mdV c n k q pl gv).2.2.2.1 = pl ∧ (wva k = true → (crV c n k q am vl).2.2.2.2.2 = (mdV c n k q pl gv).2.2.2.2) := by
  have hm : (mdV c n k q pl gv).1 = true := by rw [← (crV_md (c := c) (n := n) (k := k) (q := q) (am := am) (vl := vl) (pl := pl) (gv := gv)).1]; exact h
  unfold crV at h ⊢
  unfold mdV at hm ⊢
  by_cases hv : wva k = true
  · rw [if_pos hv] at h hm ⊢
    rw [if_pos hv]
    by_cases hc : ncC c n q true = true
    · rw [if_pos hc]
      by_cases ho : nmO c n q true = true
      · rw [if_pos ho, crE_v, mdE_v, nmL_t]
        exact ⟨rfl, rfl, fun _ => ncA_l (ncC_sp hc)⟩
      · rw [if_neg ho] at hm; cases hm
    · rw [if_neg hc] at h; cases h
  · rw [if_neg hv, if_neg hv, crE_v, mdE_v]
    exact ⟨rfl, rfl, fun z => absurd z hv⟩
theorem crS_v {s : PS} {s' : MS} (e : s.1 = s'.1) (h : (crS c n s).1 = true) : ∃ k, k < 7 ∧ (crS c n s).2.2.2.1 = some k ∧ kOf c n s' = k ∧ (wnu k = true → (crS c n s).2.2.2.2.1 = (mdS c n s').2.2.2.1) ∧ (wva k = true → (crS c n s).2.2.2.2.2 = (mdS c n s').2.2.2.2) := by
  obtain ⟨k0, hk0, hw0⟩ := crS_wo h
  have hm : (mdS c n s').1 = true := by rw [← (crS_md (c := c) (n := n) e).1]; exact h
  cases hw : wid c s.1 (skL c n s.1) with
  | none => simp [crS, hw] at h
  | some k =>
    have hw2 : cmdO (wrd c s'.1 (skL c n s'.1)) = some k := by rw [← e, ← wid_wrd, hw]
    refine ⟨k, wid_lt hw, ?_, by unfold kOf; rw [hw2]; rfl, ?_⟩
    · simp only [crS, hw]
      split
      · split
        · exact crV_wo
        · rfl
      · exact crV_wo
    · simp only [crS, hw] at h ⊢
      simp only [mdS, hw2] at hm ⊢
      rw [← e] at hm ⊢
      by_cases hv : wnu k = true
      · rw [if_pos hv] at h hm ⊢
        rw [if_pos hv]
        by_cases hc : ncC c n (skL c n s.1) false = true
        · rw [if_pos hc] at h ⊢
          by_cases ho : nmO c n (skL c n s.1) false = true
          · rw [if_pos ho]
            have g := crV_v (c := c) (n := n) (pl := nmL c n (skL c n s.1) false s'.2.2.1) (gv := nmG c n (skL c n s.1) false s'.2.2.2) h
            exact ⟨fun _ => by rw [g.1, g.2.1]; exact ncA_i (ncC_sp hc), g.2.2⟩
          · rw [if_neg ho] at hm; cases hm
        · rw [if_neg hc] at h; cases h
      · rw [if_neg hv] at h ⊢
        rw [if_neg hv]
        have g := crV_v (c := c) (n := n) (pl := s'.2.2.1) (gv := s'.2.2.2) h
        exact ⟨fun z => absurd z hv, g.2.2⟩
end CRV
