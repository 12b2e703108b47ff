/-! The words of a row: values v, n of them, the order fl, the bound b. -/
def inR (x : Int32) (n : Nat) : Bool := decide (¬ x < 0) && decide (¬ nI n ≤ x)
def inB (x : Int32) : Bool := decide (¬ x < 0) && decide (¬ nI 31 < x)
def hnx (x : Int32) (n : Nat) : Bool := decide (¬ x < 0) && decide (¬ nI n - nI 1 ≤ x)
def opn (x : Int32) (n : Nat) : Bool := decide (¬ x < 0) && decide (¬ nI n < x)
def ahd (fl : Bool) (a b : Int64) : Bool := if fl then decide (b < a) else decide (a < b)
def cnt (p : Nat → Bool) : Nat → Nat
  | 0 => 0
  | i + 1 => cnt p i + (if p i then 1 else 0)
def sm (f : Nat → Nat) : Nat → Nat
  | 0 => 0
  | i + 1 => sm f i + f i
def mx (f : Nat → Nat) : Nat → Nat
  | 0 => 0
  | i + 1 => max (mx f i) (f i)
def rkp (fl : Bool) (v : Nat → Int64) (k : Nat) : Nat → Bool := fun o => (decide (o < k) && decide (v o = v k)) || ahd fl (v o) (v k)
/-- the rank -/
def rk0 (fl : Bool) (v : Nat → Int64) (n k : Nat) : Nat := cnt (rkp fl v k) n
def ad (a b : Nat) : Nat := (a - b) + (b - a)
def dst (fl : Bool) (v : Nat → Int64) (n k : Nat) : Int32 := nI k - nI (rk0 fl v n k)
/-- how far -/
def far (fl : Bool) (v : Nat → Int64) (n k : Nat) : Nat := ad k (rk0 fl v n k)
def brk (fl : Bool) (v : Nat → Int64) (n b k : Nat) : Bool := decide (b < far fl v n k)
def fal (fl : Bool) (v : Nat → Int64) (n k : Nat) : Bool := decide (k + 1 < n) && ahd fl (v (k + 1)) (v k)
def bst (fl : Bool) (v : Nat → Int64) (n b : Nat) : Nat → Int64
  | 0 => lN 0
  | i + 1 => if brk fl v n b i then bst fl v n b i ||| (lN 1 <<< ((nI i).toInt64 &&& 63)) else bst fl v n b i
def ivp (fl : Bool) (v : Nat → Int64) (k : Nat) : Nat → Bool := fun o => if o < k then ahd fl (v k) (v o) else if k < o then ahd fl (v o) (v k) else false
def ivo (fl : Bool) (v : Nat → Int64) (n k : Nat) : Nat := cnt (ivp fl v k) n
def ivs (fl : Bool) (v : Nat → Int64) (n : Nat) : Nat := sm (ivo fl v n) n / 2
def oI (o : Option Nat) : Int32 := match o with
  | none => (-1000)
  | some k => nI k
def wpl (f : Nat → Nat) (b : Nat) : Nat → Nat × Option Nat
  | 0 => (b, none)
  | i + 1 => if (wpl f b i).1 < f i then (f i, some i) else wpl f b i
def fnl (p : Nat → Bool) : Nat → Option Nat
  | 0 => none
  | i + 1 => if p i then some i else fnl p i
def fnr (p : Nat → Bool) (lo : Nat) : Nat → Option Nat
  | 0 => none
  | c + 1 => if p lo then some lo else fnr p (lo + 1) c
def fst0 (p : Nat → Bool) (n : Nat) : Option Nat := fnr p 0 n
-- small facts
theorem wk_1 : nI 1 = 1 := rfl
theorem ahd_f (a b : Int64) : ahd false a b = decide (a < b) := rfl
theorem ahd_t (a b : Int64) : ahd true a b = decide (b < a) := rfl
theorem cnt_0 (p : Nat → Bool) : cnt p 0 = 0 := rfl
theorem cnt_s (p : Nat → Bool) (i : Nat) : cnt p (i + 1) = cnt p i + (if p i then 1 else 0) := rfl
theorem cnt_t {p : Nat → Bool} {i : Nat} (h : p i = true) : cnt p (i + 1) = cnt p i + 1 := by rw [cnt_s, h]; rfl
theorem cnt_f {p : Nat → Bool} {i : Nat} (h : p i = false) : cnt p (i + 1) = cnt p i := by rw [cnt_s, h]; rfl
theorem cnt_le (p : Nat → Bool) : ∀ n, cnt p n ≤ n
  | 0 => Nat.le_refl _
  | n + 1 => by have := cnt_le p n; rw [cnt_s]; split <;> omega
theorem cnt_mono (p : Nat → Bool) {i n : Nat} (h : i ≤ n) : cnt p i ≤ cnt p n := by
  induction n with
  | zero => rw [Nat.le_zero.mp h]; exact Nat.le_refl _
  | succ n ih =>
    rcases Nat.lt_or_ge i (n + 1) with q | q
    · have := ih (by omega); rw [cnt_s]; omega
    · rw [show i = n + 1 by omega]; exact Nat.le_refl _
theorem cnt_cg {p q : Nat → Bool} : ∀ {n : Nat}, (∀ k, k < n → p k = q k) → cnt p n = cnt q n
  | 0, _ => rfl
  | n + 1, h => by rw [cnt_s, cnt_s, cnt_cg (fun k hk => h k (by omega)), h n (by omega)]
theorem rk0_le (fl : Bool) (v : Nat → Int64) (n k : Nat) : rk0 fl v n k ≤ n := cnt_le _ n
theorem far_le {fl : Bool} {v : Nat → Int64} {n k : Nat} (hk : k < n) : far fl v n k ≤ n := by
  have := rk0_le fl v n k; unfold far ad; omega
theorem ivo_le (fl : Bool) (v : Nat → Int64) (n k : Nat) : ivo fl v n k ≤ n := cnt_le _ n
theorem sm_0 (f : Nat → Nat) : sm f 0 = 0 := rfl
theorem sm_s (f : Nat → Nat) (i : Nat) : sm f (i + 1) = sm f i + f i := rfl
theorem sm_le {f : Nat → Nat} {c : Nat} : ∀ {n : Nat}, (∀ k, k < n → f k ≤ c) → sm f n ≤ n * c
  | 0, _ => by simp [sm]
  | n + 1, h => by
    have h1 := sm_le (f := f) (c := c) (n := n) (fun k hk => h k (by omega))
    have h2 := h n (by omega)
    rw [sm_s, Nat.succ_mul]; omega
theorem sm_cg {f g : Nat → Nat} : ∀ {n : Nat}, (∀ k, k < n → f k = g k) → sm f n = sm g n
  | 0, _ => rfl
  | n + 1, h => by rw [sm_s, sm_s, sm_cg (fun k hk => h k (by omega)), h n (by omega)]
theorem mx_s (f : Nat → Nat) (i : Nat) : mx f (i + 1) = max (mx f i) (f i) := rfl
theorem mx_le {f : Nat → Nat} {c : Nat} : ∀ {n : Nat}, (∀ k, k < n → f k ≤ c) → mx f n ≤ c
  | 0, _ => Nat.zero_le _
  | n + 1, h => by rw [mx_s]; exact Nat.max_le.mpr ⟨mx_le (fun k hk => h k (by omega)), h n (by omega)⟩
theorem wk_max {x y : Nat} (hx : x < 2 ^ 31) (hy : y < 2 ^ 31) : (if nI x < nI y then nI y else nI x) = nI (max x y) := by
  by_cases h : x < y
  · rw [if_pos ((nI_ltI hx hy).mpr h), Nat.max_eq_right (by omega)]
  · rw [if_neg (fun z => h ((nI_ltI hx hy).mp z)), Nat.max_eq_left (by omega)]
theorem wk_min {x y : Nat} (hx : x < 2 ^ 31) (hy : y < 2 ^ 31) : (if nI y < nI x then nI y else nI x) = nI (min x y) := by
  by_cases h : y < x
  · rw [if_pos ((nI_ltI hy hx).mpr h), Nat.min_eq_right (by omega)]
  · rw [if_neg (fun z => h ((nI_ltI hy hx).mp z)), Nat.min_eq_left (by omega)]
theorem wk_abs {x y : Nat} (hx : x < 2 ^ 30) (hy : y < 2 ^ 30) : (if (0 : Int32) ≤ nI x - nI y then nI x - nI y else 0 - (nI x - nI y)) = nI (ad x y) := by
  by_cases h : y ≤ x
  · have e : nI x - nI y = nI (x - y) := pk_sub h
    rw [e, if_pos (nI_pos' (by omega))]
    congr 1; unfold ad; omega
  · have hs : nI x - nI y < 0 := pk_sneg hy (by omega)
    rw [if_neg (by rw [Int32.not_le]; exact hs)]
    have e : (0 : Int32) - (nI x - nI y) = nI y - nI x := by
      apply Int32.toInt_inj.mp
      simp only [Int32.toInt_sub]
      have h0 : (0 : Int32).toInt = 0 := rfl
      rw [h0, nI_toInt (by omega), nI_toInt (by omega)]
      simp only [Int.bmod_def]
      omega
    rw [e, pk_sub (by omega)]
    congr 1; unfold ad; omega
theorem dst_abs {fl : Bool} {v : Nat → Int64} {n k : Nat} (hk : k < n) (hn : n ≤ 32) : (if (0 : Int32) ≤ dst fl v n k then dst fl v n k else 0 - dst fl v n k) = nI (far fl v n k) := by
  have := rk0_le fl v n k
  exact wk_abs (by omega) (by omega)
theorem dst_pos {fl : Bool} {v : Nat → Int64} {n k : Nat} (hk : k < n) (hn : n ≤ 32) : (0 < dst fl v n k) ↔ rk0 fl v n k < k := by
  have h1 := rk0_le fl v n k
  unfold dst
  rw [Int32.lt_iff_toInt_lt, pk_sub_toInt (by omega) (by omega)]
  have h0 : (0 : Int32).toInt = 0 := rfl
  rw [h0]; omega
theorem ivp_lt {fl : Bool} {v : Nat → Int64} {k o : Nat} (h : o < k) : ivp fl v k o = ahd fl (v k) (v o) := if_pos h
theorem ivp_gt {fl : Bool} {v : Nat → Int64} {k o : Nat} (h : k < o) : ivp fl v k o = ahd fl (v o) (v k) := by unfold ivp; rw [if_neg (by omega), if_pos h]
theorem ivp_eq {fl : Bool} {v : Nat → Int64} {k : Nat} : ivp fl v k k = false := by unfold ivp; rw [if_neg (Nat.lt_irrefl _), if_neg (Nat.lt_irrefl _)]
theorem wpl_s (f : Nat → Nat) (b i : Nat) : wpl f b (i + 1) = if (wpl f b i).1 < f i then (f i, some i) else wpl f b i := rfl
theorem wpl_ge (f : Nat → Nat) (b : Nat) : ∀ i, b ≤ (wpl f b i).1
  | 0 => Nat.le_refl _
  | i + 1 => by
    have h := wpl_ge f b i
    rw [wpl_s]; split
    · show b ≤ f i; omega
    · exact h
theorem wpl_le {f : Nat → Nat} {b c : Nat} (hb : b ≤ c) : ∀ {i : Nat}, (∀ k, k < i → f k ≤ c) → (wpl f b i).1 ≤ c
  | 0, _ => hb
  | i + 1, h => by
    have h1 := wpl_le (f := f) (i := i) hb (fun k hk => h k (by omega))
    rw [wpl_s]; split
    · exact h i (by omega)
    · exact h1
theorem wpl_some {f : Nat → Nat} {b : Nat} : ∀ {i k : Nat}, (wpl f b i).2 = some k → k < i ∧ b < f k ∧ (wpl f b i).1 = f k
  | 0, k, h => by cases h
  | i + 1, k, h => by
    rw [wpl_s] at h ⊢
    by_cases c : (wpl f b i).1 < f i
    · rw [if_pos c] at h ⊢
      have e : i = k := Option.some.inj h
      subst e
      have := wpl_ge f b i
      exact ⟨by omega, by omega, rfl⟩
    · rw [if_neg c] at h ⊢
      obtain ⟨h1, h2, h3⟩ := wpl_some h
      exact ⟨by omega, h2, h3⟩
theorem wpl_none {f : Nat → Nat} {b : Nat} : ∀ {i : Nat}, (wpl f b i).2 = none → (wpl f b i).1 = b
  | 0, _ => rfl
  | i + 1, h => by
    rw [wpl_s] at h ⊢
    by_cases c : (wpl f b i).1 < f i
    · rw [if_pos c] at h; cases h
    · rw [if_neg c] at h ⊢; exact wpl_none h
theorem oI_ne {o : Option Nat} (h : ∀ k, o = some k → k < 2 ^ 31) : oI o = (-1000) ↔ o = none := by
  cases o with
  | none => exact ⟨fun _ => rfl, fun _ => rfl⟩
  | some k =>
    have hk := h k rfl
    refine ⟨fun z => ?_, fun z => by cases z⟩
    have z' : nI k = (-1000) := z
    have := nI_pos hk
    rw [z'] at this
    exact absurd (by decide) this
theorem fnl_s (p : Nat → Bool) (i : Nat) : fnl p (i + 1) = if p i then some i else fnl p i := rfl
theorem fnr_s (p : Nat → Bool) (lo c : Nat) : fnr p lo (c + 1) = if p lo then some lo else fnr p (lo + 1) c := rfl
theorem inR_t {k n : Nat} (hk : k < n) (hn : n < 2 ^ 31) : inR (nI k) n = true := by
  unfold inR
  rw [decide_eq_true (nI_pos (by omega)), decide_eq_true (nI_ge hk hn)]; rfl
theorem inR_f {k n : Nat} (hk : n ≤ k) (hn : k < 2 ^ 31) : inR (nI k) n = false := by
  unfold inR
  rw [decide_eq_false (p := ¬ nI n ≤ nI k) (fun h => h (nI_le hk hn)), Bool.and_false]
theorem inR_k {x : Int32} {n : Nat} (h : inR x n = true) (hn : n < 2 ^ 31) : ∃ k, k < n ∧ x = nI k := by
  unfold inR at h
  rw [Bool.and_eq_true] at h
  rcases pk_ix x hn with a | a | a
  · exact absurd a (of_decide_eq_true h.1)
  · exact absurd a (of_decide_eq_true h.2)
  · exact a
theorem hnx_nI {k n : Nat} (hk : k < n) (hn : n < 2 ^ 31) : hnx (nI k) n = decide (k + 1 < n) := by
  have e : nI n - nI 1 = nI (n - 1) := pk_sub (by omega)
  unfold hnx
  rw [e, decide_eq_true (nI_pos (by omega)), Bool.true_and]
  by_cases h : k + 1 < n
  · rw [decide_eq_true h, decide_eq_true (nI_ge (by omega) (by omega))]
  · rw [decide_eq_false h, decide_eq_false (fun z => z (nI_le (by omega) (by omega)))]
theorem hnx_k {x : Int32} {n : Nat} (h : hnx x n = true) (hn : n ≤ 32) : ∃ k, k + 1 < n ∧ x = nI k := by
  unfold hnx at h
  rw [Bool.and_eq_true] at h
  have h1 := of_decide_eq_true h.1
  have h2 := of_decide_eq_true h.2
  obtain ⟨j, hj, rfl⟩ := nI_of h1
  rcases Nat.eq_zero_or_pos n with z | z
  · subst z
    exact absurd (show nI 0 - nI 1 ≤ nI j by
      rw [Int32.le_iff_toInt_le, nI_toInt hj]
      have : (nI 0 - nI 1).toInt = -1 := rfl
      omega) h2
  · rw [pk_sub (by omega)] at h2
    refine ⟨j, ?_, rfl⟩
    rcases Nat.lt_or_ge j (n - 1) with q | q
    · omega
    · exact absurd (nI_le q hj) h2
theorem opn_k {x : Int32} {n : Nat} (h : opn x n = true) (hn : n < 2 ^ 31) : ∃ k, k ≤ n ∧ x = nI k := by
  unfold opn at h
  rw [Bool.and_eq_true] at h
  obtain ⟨j, hj, rfl⟩ := nI_of (of_decide_eq_true h.1)
  refine ⟨j, ?_, rfl⟩
  rcases Nat.lt_or_ge n j with q | q
  · exact absurd (nI_lt q hj) (of_decide_eq_true h.2)
  · exact q
theorem opn_t {k n : Nat} (hk : k ≤ n) (hn : n < 2 ^ 31) : opn (nI k) n = true := by
  unfold opn
  rw [decide_eq_true (nI_pos (by omega)), decide_eq_true (nI_nlt hk hn)]; rfl
theorem inB_k {x : Int32} (h : inB x = true) : ∃ k, k ≤ 31 ∧ x = nI k := by
  unfold inB at h
  rw [Bool.and_eq_true] at h
  obtain ⟨j, hj, rfl⟩ := nI_of (of_decide_eq_true h.1)
  refine ⟨j, ?_, rfl⟩
  rcases Nat.lt_or_ge 31 j with q | q
  · exact absurd (nI_lt q hj) (of_decide_eq_true h.2)
  · exact q
theorem inB_t {k : Nat} (hk : k ≤ 31) : inB (nI k) = true := by
  unfold inB
  rw [decide_eq_true (nI_pos (by omega)), decide_eq_true (nI_nlt hk (by omega))]; rfl
theorem wk_m1 (x : Int32) : x - nI 1 = x + (-1) := by rw [Int32.sub_eq_add_neg]; rfl
theorem wk_j1 {j : Nat} (h : j < 2 ^ 30) : nI j - nI 1 < 0 ↔ j = 0 := by
  rw [Int32.lt_iff_toInt_lt, pk_sub_toInt (by omega) (by decide)]
  have h0 : (0 : Int32).toInt = 0 := rfl
  rw [h0]; omega
/-- the fall that a step of mending takes, from the element at k -/
def fno (fl : Bool) (v : Nat → Int64) (n k : Nat) : Option Nat := if rk0 fl v n k < k then fnl (fal fl v n) k else fnr (fal fl v n) k (n - k)
def ibs (fl : Bool) (v : Nat → Int64) (k : Nat) : Int32 := if v k = v (k + 1) then 0 else if ahd fl (v (k + 1)) (v k) then (-1) else 1
theorem fnl_le {p : Nat → Bool} : ∀ {i k : Nat}, fnl p i = some k → k < i ∧ p k = true
  | 0, k, h => by cases h
  | i + 1, k, h => by
    rw [fnl_s] at h
    by_cases c : p i = true
    · rw [if_pos c] at h
      have e := Option.some.inj h
      subst e; exact ⟨by omega, c⟩
    · rw [if_neg c] at h
      obtain ⟨h1, h2⟩ := fnl_le h
      exact ⟨by omega, h2⟩
theorem fnr_le {p : Nat → Bool} : ∀ {c lo k : Nat}, fnr p lo c = some k → lo ≤ k ∧ k < lo + c ∧ p k = true
  | 0, lo, k, h => by cases h
  | c + 1, lo, k, h => by
    rw [fnr_s] at h
    by_cases d : p lo = true
    · rw [if_pos d] at h
      have e := Option.some.inj h
      subst e; exact ⟨by omega, by omega, d⟩
    · rw [if_neg d] at h
      obtain ⟨h1, h2, h3⟩ := fnr_le h
      exact ⟨by omega, by omega, h3⟩
theorem rkp_t1 {fl : Bool} {v : Nat → Int64} {k o : Nat} (h : ahd fl (v o) (v k) = true) : rkp fl v k o = true := by unfold rkp; rw [h, Bool.or_true]
theorem rkp_t2 {fl : Bool} {v : Nat → Int64} {k o : Nat} (h : o < k) (h2 : v o = v k) : rkp fl v k o = true := by unfold rkp; rw [decide_eq_true h, decide_eq_true h2]; rfl
theorem rkp_f {fl : Bool} {v : Nat → Int64} {k o : Nat} (h : ¬ (o < k ∧ v o = v k)) (h2 : ahd fl (v o) (v k) = false) : rkp fl v k o = false := by
  unfold rkp; rw [h2, Bool.or_false, ← Bool.decide_and]; exact decide_eq_false h
