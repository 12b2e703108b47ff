/-! What an element tells, what the whole tells; the model's stack of saved states; mending at a change's end. -/
def elV (fl : Bool) (v : Nat → Int64) (n b : Nat) (num : Int32) (k w : Nat) : Int32 := match w with
  | 0 => num
  | 1 => nI (rk0 fl v n k)
  | 2 => dst fl v n k
  | 3 => bI (brk fl v n b k)
  | 4 => bI (fal fl v n k)
  | _ => nI (ivo fl v n k)
def whV (fl me : Bool) (v : Nat → Int64) (n b : Nat) (st lk cm : Int32) (ty w : Nat) : Int32 := match w with
  | 0 => nI n
  | 1 => nI b
  | 2 => bI fl
  | 3 => bI me
  | 4 => nI (cnt (brk fl v n b) n)
  | 5 => nI (ivs fl v n)
  | 6 => nI (cnt (fal fl v n) n)
  | 7 => st
  | 8 => lk
  | 9 => cm
  | 10 => nI (mx (far fl v n) n)
  | _ => nI ty
def shP (pt : Nat → Int64) (i : Nat) : Nat → Int64 := fun k => if k < i then pt (k + 71) else pt k
def wrP (pt : Nat → Int64) (j : Nat) (ss : Nat → Int64) (i : Nat) : Nat → Int64 := fun k => if 71 * j ≤ k ∧ k < 71 * j + i then ss (k - 71 * j) else pt k
def svp (pt : Nat → Int64) (ps : Nat) (ss : Nat → Int64) : Nat → Int64 := if ps = 4 then wrP (shP pt 213) 3 ss 71 else wrP pt ps ss 71
def svn (ps : Nat) : Nat := if ps = 4 then 4 else ps + 1
def cpk (f g : Nat → Int64) (i : Nat) : Nat → Int64 := fun k => if k < i then f k else g k
def unp (pt : Nat → Int64) (j : Nat) (ss : Nat → Int64) (i : Nat) : Nat → Int64 := fun k => if k < i then pt (71 * j + k) else ss k
def eL (me fl : Bool) (n b : Nat) (v : Nat → Int64) : List Nat := if me then mL fl n b 1000 v else []
theorem shP_s (pt : Nat → Int64) (i : Nat) : shP pt (i + 1) = vp_updL (shP pt i) i (pt (i + 71)) := by
  funext k; unfold vp_updL shP
  by_cases h : k = i
  · subst h; rw [if_pos rfl, if_pos (by omega)]
  · rw [if_neg h]
    by_cases c : k < i
    · rw [if_pos c, if_pos (by omega)]
    · rw [if_neg c, if_neg (by omega)]
theorem shP_r (pt : Nat → Int64) (i : Nat) : shP pt i (i + 71) = pt (i + 71) := by unfold shP; rw [if_neg (by omega)]
theorem shP_0 (pt : Nat → Int64) : shP pt 0 = pt := by funext k; unfold shP; rw [if_neg (by omega)]
theorem wrP_0 (pt : Nat → Int64) (j : Nat) (ss : Nat → Int64) : wrP pt j ss 0 = pt := by funext k; unfold wrP; rw [if_neg (by omega)]
theorem wrP_s (pt : Nat → Int64) (j : Nat) (ss : Nat → Int64) (i : Nat) : wrP pt j ss (i + 1) = vp_updL (wrP pt j ss i) (71 * j + i) (ss i) := by
  funext k; unfold vp_updL wrP
  by_cases h : k = 71 * j + i
  · subst h; rw [if_pos rfl, if_pos (by omega)]; congr 1; omega
  · rw [if_neg h]
    by_cases c : 71 * j ≤ k ∧ k < 71 * j + i
    · rw [if_pos c, if_pos (by omega)]
    · rw [if_neg c, if_neg (by omega)]
theorem cpk_0 (f g : Nat → Int64) : cpk f g 0 = g := by funext k; unfold cpk; rw [if_neg (by omega)]
theorem cpk_s (f g : Nat → Int64) (i : Nat) : cpk f g (i + 1) = vp_updL (cpk f g i) i (f i) := by
  funext k; unfold vp_updL cpk
  by_cases h : k = i
  · subst h; rw [if_pos rfl, if_pos (by omega)]
  · rw [if_neg h]
    by_cases c : k < i
    · rw [if_pos c, if_pos (by omega)]
    · rw [if_neg c, if_neg (by omega)]
theorem unp_0 (pt : Nat → Int64) (j : Nat) (ss : Nat → Int64) : unp pt j ss 0 = ss := by funext k; unfold unp; rw [if_neg (by omega)]
theorem unp_s (pt : Nat → Int64) (j : Nat) (ss : Nat → Int64) (i : Nat) : unp pt j ss (i + 1) = vp_updL (unp pt j ss i) i (pt (71 * j + i)) := by
  funext k; unfold vp_updL unp
  by_cases h : k = i
  · subst h; rw [if_pos rfl, if_pos (by omega)]
  · rw [if_neg h]
    by_cases c : k < i
    · rw [if_pos c, if_pos (by omega)]
    · rw [if_neg c, if_neg (by omega)]
theorem cpk_back (S0 S1 hd : Nat → Int64) (h : ∀ k, 71 ≤ k → S1 k = S0 k) : cpk (cpk S0 hd 71) S1 71 = S0 := by
  funext k; unfold cpk
  by_cases c : k < 71
  · rw [if_pos c, if_pos c]
  · rw [if_neg c]; exact h k (by omega)
theorem oI_m1 {o : Option Nat} (h : ∀ k, o = some k → k < 2 ^ 31) : ¬ oI o = (-1001) := by
  cases o with
  | none => decide
  | some k =>
    intro z
    have hk := nI_pos (h k rfl)
    have z' : nI k = (-1001) := z
    rw [z'] at hk
    exact hk (by decide)
theorem mL_ltin {fl : Bool} {n b : Nat} : ∀ (f : Nat) (v : Nat → Int64), (mL fl n b f v).length ≤ tin fl v n
  | 0, v => Nat.zero_le _
  | f + 1, v => by
    cases c : mq fl n b v with
    | none => rw [mL_n c]; exact Nat.zero_le _
    | some q =>
      have h := mL_ltin (n := n) (b := b) (fl := fl) f (swa v q)
      have h2 := tin_sw (mq_fal c)
      rw [mL_s c, List.length_cons]; omega
theorem mL_len {fl : Bool} {v : Nat → Int64} {n b f : Nat} (hn : n ≤ 32) : (mL fl n b f v).length ≤ 496 := Nat.le_trans (mL_ltin f v) (tin_le hn)
def svP (ru : Bool) (pt : Nat → Int64) (ps : Nat) (ss : Nat → Int64) : Nat → Int64 := if ru then pt else svp pt ps ss
def svN (ru : Bool) (ps : Nat) : Nat := if ru then ps else svn ps
def swo {α : Type} (o : Option Nat) (f : Nat → α) : Nat → α := match o with
  | none => f
  | some q => swa f q
def oln (o : Option Nat) : Nat := match o with
  | none => 0
  | some _ => 1
theorem mq_no {fl : Bool} {n b : Nat} {v : Nat → Int64} (h : mq fl n b v = none) : (wpl (far fl v n) b n).2 = none := by
  cases hw : (wpl (far fl v n) b n).2 with
  | none => rfl
  | some k =>
    obtain ⟨q, hq⟩ := fno_ex hw
    unfold mq at h
    rw [hw] at h
    exact absurd (h.symm.trans hq) (by simp)
theorem mq_so {fl : Bool} {n b q : Nat} {v : Nat → Int64} (h : mq fl n b v = some q) : ∃ k, (wpl (far fl v n) b n).2 = some k ∧ fno fl v n k = some q := by
  cases hw : (wpl (far fl v n) b n).2 with
  | none => unfold mq at h; rw [hw] at h; cases h
  | some k => unfold mq at h; rw [hw] at h; exact ⟨k, rfl, h⟩
def hfd (h : Int64) (f : Nat → Int64) : Nat → Int64
  | 0 => h
  | i + 1 => (lN 31) * (hfd h f i) + (f i)
def efd (h : Int64) (f : Nat → Int64 → Int64) : Nat → Int64
  | 0 => h
  | i + 1 => f i (efd h f i)
theorem wk_in_o (x : Int32) {n : Nat} (hn : n < 2 ^ 31) : (decide (lN 0 ≤ x.toInt64) && decide (x.toInt64 ≤ lN n)) = opn x n := by
  unfold opn
  have e1 : (lN 0 ≤ x.toInt64) ↔ ¬ x < 0 := by
    rw [Int64.le_iff_toInt_le, Int32.lt_iff_toInt_lt, lN_toInt (by decide), Int32.toInt_toInt64]
    have : (0 : Int32).toInt = 0 := rfl
    omega
  have e2 : (x.toInt64 ≤ lN n) ↔ ¬ nI n < x := by
    rw [Int64.le_iff_toInt_le, Int32.lt_iff_toInt_lt, lN_toInt hn, nI_toInt hn, Int32.toInt_toInt64]; omega
  rw [decide_eq_decide.mpr e1, decide_eq_decide.mpr e2]
theorem wk_in_t {a b c : Nat} (h : a ≤ b) (h2 : b ≤ c) (hc : c < 2 ^ 31) : (decide (lN a ≤ lN b) && decide (lN b ≤ lN c)) = true := by
  rw [decide_eq_true ((lN_le (by omega) (by omega)).mpr h), decide_eq_true ((lN_le (by omega) hc).mpr h2)]; rfl
/-- the lowest place of the fewest -/
def bpl (f : Nat → Nat) : Nat → Nat × Option Nat
  | 0 => (99, none)
  | i + 1 => if f i < (bpl f i).1 then (f i, some i) else bpl f i
def rkOf (fl : Bool) (v : Nat → Int64) (n : Nat) (x : Int64) : Nat := cnt (fun o => ahd fl (v o) x || decide (v o = x)) n
def rkd (fl : Bool) (v : Nat → Int64) (n r : Nat) (h : Int64) : Nat → Int64
  | 0 => h
  | i + 1 => if rk0 fl v n i = r then v i else rkd fl v n r h i
theorem bpl_s (f : Nat → Nat) (i : Nat) : bpl f (i + 1) = if f i < (bpl f i).1 then (f i, some i) else bpl f i := rfl
theorem bpl_le (f : Nat → Nat) : ∀ i, (bpl f i).1 ≤ 99
  | 0 => Nat.le_refl _
  | i + 1 => by
    have h := bpl_le f i
    rw [bpl_s]; split
    · show f i ≤ 99; omega
    · exact h
def fdV (fl : Bool) (v : Nat → Int64) (n b : Nat) (x : Int64) (w : Nat) : Int32 := match w with
  | 0 => oI (sr1 fl v n b x)
  | 1 => nI (sr2 fl v n b x)
  | 2 => sr3 fl v n b x
  | _ => sr4 fl v n b x
theorem opt_or (o : Option Nat) : o = none ∨ ∃ q, o = some q := by
  cases o with
  | none => exact Or.inl rfl
  | some q => exact Or.inr ⟨q, rfl⟩
