/-! What an element tells, what the whole tells; the model's stack of saved states; mending at a change's end. -/
def elV (fl : Bool) (v : Nat → Int64) (n b : Nat) (num : Int32) (k w : Nat) : Int32 := match w with
  | 0 => num
  | 1 => nI (rk0 fl v n k)
  | 2 => dst fl v n k
  | 3 => bI (brk fl v n b k)
  | 4 => bI (fal fl v n k)
  | _ => nI (ivo fl v n k)
def whV (fl me : Bool) (v : Nat → Int64) (n b : Nat) (st lk cm : Int32) (ty w : Nat) : Int32 := match w with
  | 0 => nI n
  | 1 => nI b
  | 2 => bI fl
  | 3 => bI me
  | 4 => nI (cnt (brk fl v n b) n)
  | 5 => nI (ivs fl v n)
  | 6 => nI (cnt (fal fl v n) n)
  | 7 => st
  | 8 => lk
  | 9 => cm
  | 10 => nI (mx (far fl v n) n)
  | _ => nI ty
def shP (pt : Nat → Int64) (i : Nat) : Nat → Int64 := fun k => if k < i then pt (k + 71) else pt k
def wrP (pt : Nat → Int64) (j : Nat) (ss : Nat → Int64) (i : Nat) : Nat → Int64 := fun k => if 71 * j ≤ k ∧ k < 71 * j + i then ss (k - 71 * j) else pt k
def svp (pt : Nat → Int64) (ps : Nat) (ss : Nat → Int64) : Nat → Int64 := if ps = 4 then wrP (shP pt 213) 3 ss 71 else wrP pt ps ss 71
def svn (ps : Nat) : Nat := if ps = 4 then 4 else ps + 1
def cpk (f g : Nat → Int64) (i : Nat) : Nat → Int64 := fun k => if k < i then f k else g k
def unp (pt : Nat → Int64) (j : Nat) (ss : Nat → Int64) (i : Nat) : Nat → Int64 := fun k => if k < i then pt (71 * j + k) else ss k
def eL (me fl : Bool) (n b : Nat) (v : Nat → Int64) : List Nat := if me then mL fl n b 1000 v else []
theorem shP_s (pt : Nat → Int64) (i : Nat) : shP pt (i + 1) = vp_updL (shP pt i) i (pt (i + 71)) := by
  funext k; unfold vp_updL shP
  by_cases h : k = i
  · subst h; rw [if_pos rfl, if_pos (by omega)]
  · rw [if_neg h]
    by_cases c : k < i
    · rw [if_pos c, if_pos (by omega)]
    · rw [if_neg c, if_neg (by omega)]
theorem shP_r (pt : Nat → Int64) (i : Nat) : shP pt i (i + 71) = pt (i + 71) := by unfold shP; rw [if_neg (by omega)]
theorem shP_0 (pt : Nat → Int64) : shP pt 0 = pt := by funext k; unfold shP; rw [if_neg (by omega)]
theorem wrP_0 (pt : Nat → Int64) (j : Nat) (ss : Nat → Int64) : wrP pt j ss 0 = pt := by funext k; unfold wrP; rw [if_neg (by omega)]
theorem wrP_s (pt : Nat → Int64) (j : Nat) (ss : Nat → Int64) (i : Nat) : wrP pt j ss (i + 1) = vp_updL (wrP pt j ss i) (71 * j + i) (ss i) := by
  funext k; unfold vp_updL wrP
  by_cases h : k = 71 * j + i
  · subst h; rw [if_pos rfl, if_pos (by omega)]; congr 1; omega
  · rw [if_neg h]
    by_cases c : 71 * j ≤ k ∧ k < 71 * j + i
    · rw [if_pos c, if_pos (by omega)]
    · rw [if_neg c, if_neg (by omega)]
theorem cpk_0 (f g : Nat → Int64) : cpk f g 0 = g := by funext k; unfold cpk; rw [if_neg (by omega)]
theorem cpk_s (f g : Nat → Int64) (i : Nat) : cpk f g (i + 1) = vp_updL (cpk f g i) i (f i) := by
  funext k; unfold vp_updL cpk
  by_cases h : k = i
  · subst h; rw [if_pos rfl, if_pos (by omega)]
  · rw [if_neg h]
    by_cases c : k < i
    · rw [if_pos c, if_pos (by omega)]
    · rw [if_neg c, if_neg (by omega)]
theorem unp_0 (pt : Nat → Int64) (j : Nat) (ss : Nat → Int64) : unp pt j ss 0 = ss := by funext k; unfold unp; rw [if_neg (by omega)]
theorem unp_s (pt : Nat → Int64) (j : Nat) (ss : Nat → Int64) (i : Nat) : unp pt j ss (i + 1) = vp_updL (unp pt j ss i) i (pt (71 * j + i)) := by
  funext k; unfold vp_updL unp
  by_cases h : k = i
  · subst h; rw [if_pos rfl, if_pos (by omega)]
  · rw [if_neg h]
    by_cases c : k < i
    · rw [if_pos c, if_pos (by omega)]
    · rw [if_neg c, if_neg (by omega)]
theorem cpk_back (S0 S1 hd : Nat → Int64) (h : ∀ k, 71 ≤ k → S1 k = S0 k) : cpk (cpk S0 hd 71) S1 71 = S0 := by
  funext k; unfold cpk
  by_cases c : k < 71
  · rw [if_pos c, if_pos c]
  · rw [if_neg c]; exact h k (by omega)
theorem oI_m1 {o : Option Nat} (h : ∀ k, o = some k → k < 2 ^ 31) : ¬ oI o = (-1001) := by
  cases o with
  | none => decide
  | some k =>
    intro z
    have hk := nI_pos (h k rfl)
    have z' : nI k = (-1001) := z
    rw [z'] at hk
    exact hk (by decide)
theorem mL_ltin {fl : Bool} {n b : Nat} : ∀ (f : Nat) (v : Nat → Int64), (mL fl n b f v).length ≤ tin fl v n
  | 0, v => Nat.zero_le _
  | f + 1, v => by
    cases c : mq fl n b v with
    | none => rw [mL_n c]; exact Nat.zero_le _
    | some q =>
      have h := mL_ltin (n := n) (b := b) (fl := fl) f (swa v q)
      have h2 := tin_sw (mq_fal c)
      rw [mL_s c, List.length_cons]; omega
theorem mL_len {fl : Bool} {v : Nat → Int64} {n b f : Nat} (hn : n ≤ 32) : (mL fl n b f v).length ≤ 496 := Nat.le_trans (mL_ltin f v) (tin_le hn)
