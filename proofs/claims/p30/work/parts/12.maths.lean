/-! Searches: the window, the looks, then one by one. -/
def srw (fl : Bool) (v : Nat → Int64) (w : Nat) (x : Int64) : Nat → Nat → Nat → Option Nat × Nat × Nat × Nat
  | 0, lo, hi => (none, 0, lo, hi)
  | f + 1, lo, hi => if hi - lo ≤ 2 * w + 2 then (none, 0, lo, hi) else if v ((lo + hi) / 2) = x then (some ((lo + hi) / 2), 1, lo, hi) else if ahd fl (v ((lo + hi) / 2)) x then ((srw fl v w x f ((lo + hi) / 2 - w) hi).1, (srw fl v w x f ((lo + hi) / 2 - w) hi).2.1 + 1, (srw fl v w x f ((lo + hi) / 2 - w) hi).2.2) else ((srw fl v w x f lo ((lo + hi) / 2 + w + 1)).1, (srw fl v w x f lo ((lo + hi) / 2 + w + 1)).2.1 + 1, (srw fl v w x f lo ((lo + hi) / 2 + w + 1)).2.2)
theorem srw_stop {fl : Bool} {v : Nat → Int64} {w : Nat} {x : Int64} {f lo hi : Nat} (h : hi - lo ≤ 2 * w + 2) : srw fl v w x f lo hi = (none, 0, lo, hi) := by
  cases f with
  | zero => rfl
  | succ f => exact if_pos h
theorem srw_hit {fl : Bool} {v : Nat → Int64} {w : Nat} {x : Int64} {f lo hi : Nat} (h : ¬ hi - lo ≤ 2 * w + 2) (h2 : v ((lo + hi) / 2) = x) : srw fl v w x (f + 1) lo hi = (some ((lo + hi) / 2), 1, lo, hi) := by
  show (if _ then _ else _) = _
  rw [if_neg h, if_pos h2]
theorem srw_up {fl : Bool} {v : Nat → Int64} {w : Nat} {x : Int64} {f lo hi : Nat} (h : ¬ hi - lo ≤ 2 * w + 2) (h2 : v ((lo + hi) / 2) ≠ x) (h3 : ahd fl (v ((lo + hi) / 2)) x = true) : srw fl v w x (f + 1) lo hi = ((srw fl v w x f ((lo + hi) / 2 - w) hi).1, (srw fl v w x f ((lo + hi) / 2 - w) hi).2.1 + 1, (srw fl v w x f ((lo + hi) / 2 - w) hi).2.2) := by
  show (if _ then _ else _) = _
  rw [if_neg h, if_neg h2, if_pos h3]
theorem srw_dn {fl : Bool} {v : Nat → Int64} {w : Nat} {x : Int64} {f lo hi : Nat} (h : ¬ hi - lo ≤ 2 * w + 2) (h2 : v ((lo + hi) / 2) ≠ x) (h3 : ahd fl (v ((lo + hi) / 2)) x = false) : srw fl v w x (f + 1) lo hi = ((srw fl v w x f lo ((lo + hi) / 2 + w + 1)).1, (srw fl v w x f lo ((lo + hi) / 2 + w + 1)).2.1 + 1, (srw fl v w x f lo ((lo + hi) / 2 + w + 1)).2.2) := by
  show (if _ then _ else _) = _
  rw [if_neg h, if_neg h2, if_neg (by rw [h3]; decide)]
theorem srw_bd {fl : Bool} {v : Nat → Int64} {w : Nat} {x : Int64} {n : Nat} : ∀ {f lo hi : Nat}, lo ≤ hi → hi ≤ n → (srw fl v w x f lo hi).2.2.1 ≤ (srw fl v w x f lo hi).2.2.2 ∧ (srw fl v w x f lo hi).2.2.2 ≤ n ∧ (srw fl v w x f lo hi).2.1 ≤ f ∧ (∀ m, (srw fl v w x f lo hi).1 = some m → m < n)
  | 0, lo, hi, h1, h2 => ⟨h1, h2, Nat.le_refl _, fun m h => by cases h⟩
  | f + 1, lo, hi, h1, h2 => by
    by_cases a : hi - lo ≤ 2 * w + 2
    · rw [srw_stop a]; exact ⟨h1, h2, Nat.zero_le _, fun m h => by cases h⟩
    · by_cases b : v ((lo + hi) / 2) = x
      · rw [srw_hit a b]
        exact ⟨h1, h2, Nat.succ_le_succ (Nat.zero_le _), fun m h => by have e := Option.some.inj h; omega⟩
      · cases c : ahd fl (v ((lo + hi) / 2)) x with
        | true =>
          rw [srw_up a b c]
          obtain ⟨g1, g2, g3, g4⟩ := srw_bd (fl := fl) (v := v) (w := w) (x := x) (n := n) (f := f) (lo := (lo + hi) / 2 - w) (hi := hi) (by omega) h2
          exact ⟨g1, g2, Nat.succ_le_succ g3, g4⟩
        | false =>
          rw [srw_dn a b c]
          obtain ⟨g1, g2, g3, g4⟩ := srw_bd (fl := fl) (v := v) (w := w) (x := x) (n := n) (f := f) (lo := lo) (hi := (lo + hi) / 2 + w + 1) (by omega) (by omega)
          exact ⟨g1, g2, Nat.succ_le_succ g3, g4⟩
def srR (fl : Bool) (v : Nat → Int64) (n b : Nat) (x : Int64) : Option Nat × Nat × Nat × Nat := srw fl v (2 * b) x 32 0 n
def eqp (v : Nat → Int64) (x : Int64) : Nat → Bool := fun o => decide (v o = x)
def olk (o : Option Nat) (lo hi : Nat) : Nat := match o with
  | none => hi - lo
  | some p => p + 1 - lo
def srO (fl : Bool) (v : Nat → Int64) (n b : Nat) (x : Int64) : Option Nat := fnr (eqp v x) (srR fl v n b x).2.2.1 ((srR fl v n b x).2.2.2 - (srR fl v n b x).2.2.1)
/-- the place -/
def sr1 (fl : Bool) (v : Nat → Int64) (n b : Nat) (x : Int64) : Option Nat := match (srR fl v n b x).1 with
  | some m => some m
  | none => srO fl v n b x
/-- the looks -/
def sr2 (fl : Bool) (v : Nat → Int64) (n b : Nat) (x : Int64) : Nat := match (srR fl v n b x).1 with
  | some _ => (srR fl v n b x).2.1
  | none => (srR fl v n b x).2.1 + olk (srO fl v n b x) (srR fl v n b x).2.2.1 (srR fl v n b x).2.2.2
/-- low and high when the elements are looked at one by one -/
def sr3 (fl : Bool) (v : Nat → Int64) (n b : Nat) (x : Int64) : Int32 := match (srR fl v n b x).1 with
  | some _ => (-1000)
  | none => nI (srR fl v n b x).2.2.1
def sr4 (fl : Bool) (v : Nat → Int64) (n b : Nat) (x : Int64) : Int32 := match (srR fl v n b x).1 with
  | some _ => (-1000)
  | none => nI (srR fl v n b x).2.2.2
def lst {α : Type} (a : α) (f : Nat → α) : Nat → α
  | 0 => a
  | i + 1 => f i
theorem srR_bd (fl : Bool) (v : Nat → Int64) {n : Nat} (b : Nat) (x : Int64) : (srR fl v n b x).2.2.1 ≤ (srR fl v n b x).2.2.2 ∧ (srR fl v n b x).2.2.2 ≤ n ∧ (srR fl v n b x).2.1 ≤ 32 ∧ (∀ m, (srR fl v n b x).1 = some m → m < n) := srw_bd (Nat.zero_le _) (Nat.le_refl _)
theorem sr2_le (fl : Bool) (v : Nat → Int64) {n : Nat} (b : Nat) (x : Int64) (hn : n ≤ 32) : sr2 fl v n b x ≤ 64 := by
  obtain ⟨h1, h2, h3, -⟩ := srR_bd fl v (n := n) b x
  unfold sr2
  split
  · omega
  · have : olk (srO fl v n b x) (srR fl v n b x).2.2.1 (srR fl v n b x).2.2.2 ≤ 32 := by
      unfold olk
      split
      · omega
      · rename_i p hp
        have := fnr_le hp
        omega
    omega
theorem sr1_lt (fl : Bool) (v : Nat → Int64) {n : Nat} (b : Nat) (x : Int64) {m : Nat} (h : sr1 fl v n b x = some m) : m < n := by
  obtain ⟨h1, h2, h3, h4⟩ := srR_bd fl v (n := n) b x
  unfold sr1 at h
  split at h
  · rename_i p hp
    have e := Option.some.inj h
    rw [← e]; exact h4 _ hp
  · have := fnr_le h
    omega
section SRL
variable {fl : Bool} {v : Nat → Int64} {n b : Nat} {x : Int64}
theorem sr1_n (h : (srR fl v n b x).1 = none) : sr1 fl v n b x = srO fl v n b x := by unfold sr1; rw [h]
theorem sr1_s {m : Nat} (h : (srR fl v n b x).1 = some m) : sr1 fl v n b x = some m := by unfold sr1; rw [h]
theorem sr2_n (h : (srR fl v n b x).1 = none) : sr2 fl v n b x = (srR fl v n b x).2.1 + olk (srO fl v n b x) (srR fl v n b x).2.2.1 (srR fl v n b x).2.2.2 := by unfold sr2; rw [h]
theorem sr2_s {m : Nat} (h : (srR fl v n b x).1 = some m) : sr2 fl v n b x = (srR fl v n b x).2.1 := by unfold sr2; rw [h]
theorem sr3_n (h : (srR fl v n b x).1 = none) : sr3 fl v n b x = nI (srR fl v n b x).2.2.1 := by unfold sr3; rw [h]
theorem sr3_s {m : Nat} (h : (srR fl v n b x).1 = some m) : sr3 fl v n b x = (-1000) := by unfold sr3; rw [h]
theorem sr4_n (h : (srR fl v n b x).1 = none) : sr4 fl v n b x = nI (srR fl v n b x).2.2.2 := by unfold sr4; rw [h]
theorem sr4_s {m : Nat} (h : (srR fl v n b x).1 = some m) : sr4 fl v n b x = (-1000) := by unfold sr4; rw [h]
end SRL
