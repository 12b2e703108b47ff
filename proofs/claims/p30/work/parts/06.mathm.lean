/-! How a row changes: shifts, swaps, ranks anew, steps of mending. -/
def rfr (fl : Bool) (v : Nat → Int64) (n : Nat) (rk : Nat → Int32) (i : Nat) : Nat → Int32 := fun j => if j < i then nI (rk0 fl v n j) else rk j
def opa {α : Type} (f : Nat → α) (n i : Nat) : Nat → α := fun j => if i < j ∧ j ≤ n then f (j - 1) else f j
def insA {α : Type} (f : Nat → α) (n k : Nat) (x : α) : Nat → α := fun j => if j = k then x else if k < j ∧ j ≤ n then f (j - 1) else f j
def cla {α : Type} (f : Nat → α) (k i : Nat) : Nat → α := fun j => if k ≤ j ∧ j < i then f (j + 1) else f j
def swa {α : Type} (f : Nat → α) (k : Nat) : Nat → α := fun j => if j = k then f (k + 1) else if j = k + 1 then f k else f j
def swr (v : Nat → Int64) (rk : Nat → Int32) (k : Nat) : Nat → Int32 := if v k = v (k + 1) then rk else swa rk k
def cp32 {α : Type} (f g : Nat → α) : Nat → α := fun k => if k < 32 then f k else g k
theorem rfr_s (fl : Bool) (v : Nat → Int64) (n : Nat) (rk : Nat → Int32) (i : Nat) : rfr fl v n rk (i + 1) = upd (rfr fl v n rk i) i (nI (rk0 fl v n i)) := by
  funext j
  unfold upd rfr
  by_cases h : j = i
  · subst h; rw [if_pos (by omega), if_pos rfl]
  · rw [if_neg h]
    by_cases h2 : j < i
    · rw [if_pos h2, if_pos (by omega)]
    · rw [if_neg h2, if_neg (by omega)]
theorem rfr_0 (fl : Bool) (v : Nat → Int64) (n : Nat) (rk : Nat → Int32) : rfr fl v n rk 0 = rk := by
  funext j; unfold rfr; rw [if_neg (by omega)]
theorem rfr_hrk (fl : Bool) (v : Nat → Int64) (n : Nat) (rk : Nat → Int32) : ∀ i, i < n → rfr fl v n rk n i = nI (rk0 fl v n i) := fun i hi => by unfold rfr; rw [if_pos hi]
theorem opa_n {α : Type} (f : Nat → α) (n : Nat) : opa f n n = f := by
  funext j; unfold opa; rw [if_neg (by omega)]
theorem opa_sL (f : Nat → Int64) {n i : Nat} (h : 0 < i) (h2 : i ≤ n) : opa f n (i - 1) = vp_updL (opa f n i) i (opa f n i (i - 1)) := by
  funext j
  unfold vp_updL opa
  by_cases e : j = i
  · subst e; rw [if_pos rfl, if_pos (by omega), if_neg (by omega)]
  · rw [if_neg e]
    by_cases c : i < j ∧ j ≤ n
    · rw [if_pos c, if_pos (by omega)]
    · rw [if_neg c, if_neg (by omega)]
theorem opa_sI (f : Nat → Int32) {n i : Nat} (h : 0 < i) (h2 : i ≤ n) : opa f n (i - 1) = upd (opa f n i) i (opa f n i (i - 1)) := by
  funext j
  unfold upd opa
  by_cases e : j = i
  · subst e; rw [if_pos rfl, if_pos (by omega), if_neg (by omega)]
  · rw [if_neg e]
    by_cases c : i < j ∧ j ≤ n
    · rw [if_pos c, if_pos (by omega)]
    · rw [if_neg c, if_neg (by omega)]
theorem insA_L (f : Nat → Int64) (n k : Nat) (x : Int64) : vp_updL (opa f n k) k x = insA f n k x := rfl
theorem insA_I (f : Nat → Int32) (n k : Nat) (x : Int32) : upd (opa f n k) k x = insA f n k x := rfl
theorem cla_0 {α : Type} (f : Nat → α) (k : Nat) : cla f k k = f := by
  funext j; unfold cla; rw [if_neg (by omega)]
theorem cla_sL (f : Nat → Int64) {k i : Nat} (h : k ≤ i) : cla f k (i + 1) = vp_updL (cla f k i) i (cla f k i (i + 1)) := by
  funext j
  unfold vp_updL cla
  by_cases e : j = i
  · subst e; rw [if_pos rfl, if_pos (by omega), if_neg (by omega)]
  · rw [if_neg e]
    by_cases c : k ≤ j ∧ j < i
    · rw [if_pos c, if_pos (by omega)]
    · rw [if_neg c, if_neg (by omega)]
theorem cla_sI (f : Nat → Int32) {k i : Nat} (h : k ≤ i) : cla f k (i + 1) = upd (cla f k i) i (cla f k i (i + 1)) := by
  funext j
  unfold upd cla
  by_cases e : j = i
  · subst e; rw [if_pos rfl, if_pos (by omega), if_neg (by omega)]
  · rw [if_neg e]
    by_cases c : k ≤ j ∧ j < i
    · rw [if_pos c, if_pos (by omega)]
    · rw [if_neg c, if_neg (by omega)]
theorem swa_L (f : Nat → Int64) (k : Nat) : vp_updL (vp_updL f k (f (k + 1))) (k + 1) (f k) = swa f k := by
  funext j
  unfold vp_updL swa
  by_cases e : j = k
  · subst e; rw [if_neg (by omega), if_pos rfl, if_pos rfl]
  · by_cases e2 : j = k + 1
    · rw [if_pos e2, if_neg e, if_pos e2]
    · rw [if_neg e2, if_neg e, if_neg e, if_neg e2]
theorem swa_I (f : Nat → Int32) (k : Nat) : upd (upd f k (f (k + 1))) (k + 1) (f k) = swa f k := by
  funext j
  unfold upd swa
  by_cases e : j = k
  · subst e; rw [if_neg (by omega), if_pos rfl, if_pos rfl]
  · by_cases e2 : j = k + 1
    · rw [if_pos e2, if_neg e, if_pos e2]
    · rw [if_neg e2, if_neg e, if_neg e, if_neg e2]
theorem swa_eq {α : Type} {f : Nat → α} {k : Nat} (h : f k = f (k + 1)) : swa f k = f := by
  funext j
  unfold swa
  by_cases e : j = k
  · rw [if_pos e, e, h]
  · rw [if_neg e]
    by_cases e2 : j = k + 1
    · rw [if_pos e2, e2, h]
    · rw [if_neg e2]
theorem nI_nn {k : Nat} (h : k < 2 ^ 31) : ¬ nI k = (-1000) := fun z => by
  have := nI_pos h
  rw [z] at this
  exact this (by decide)
theorem fal_lt {fl : Bool} {v : Nat → Int64} {n k : Nat} (h : fal fl v n k = true) : k + 1 < n := by
  unfold fal at h; rw [Bool.and_eq_true] at h; exact of_decide_eq_true h.1
theorem fno_fal {fl : Bool} {v : Nat → Int64} {n k q : Nat} (h : fno fl v n k = some q) : fal fl v n q = true := by
  unfold fno at h
  split at h
  · exact (fnl_le h).2
  · exact (fnr_le h).2.2
-- the order is a strict and total one
theorem ahd_irr (fl : Bool) (a : Int64) : ahd fl a a = false := by
  cases fl <;> simp [ahd]
theorem ahd_as {fl : Bool} {a b : Int64} (h : ahd fl a b = true) : ahd fl b a = false := by
  cases fl <;> simp [ahd] at h ⊢ <;> simp only [Int64.lt_iff_toInt_lt, Int64.le_iff_toInt_le] at h ⊢ <;> omega
theorem ahd_tot {fl : Bool} {a b : Int64} (h : ahd fl a b = false) (h2 : ahd fl b a = false) : a = b := by
  cases fl <;> simp [ahd] at h h2 <;> simp only [Int64.le_iff_toInt_le] at h h2 <;> apply Int64.toInt_inj.mp <;> omega
theorem ahd_tr {fl : Bool} {a b c : Int64} (h : ahd fl a b = true) (h2 : ahd fl b c = true) : ahd fl a c = true := by
  cases fl <;> simp [ahd] at h h2 ⊢ <;> simp only [Int64.lt_iff_toInt_lt] at h h2 ⊢ <;> omega
theorem ahd_ntr {fl : Bool} {a b c : Int64} (h : ahd fl a b = false) (h2 : ahd fl b c = false) : ahd fl a c = false := by
  cases fl <;> simp [ahd] at h h2 ⊢ <;> simp only [Int64.le_iff_toInt_le] at h h2 ⊢ <;> omega
-- counts behind a swap of neighbours
theorem cnt_sw {p : Nat → Bool} {k : Nat} : ∀ {n : Nat}, k + 1 < n → cnt (swa p k) n = cnt p n
  | 0, h => absurd h (by omega)
  | n + 1, h => by
    rcases Nat.lt_or_ge (k + 1) n with q | q
    · rw [cnt_s, cnt_s, cnt_sw q]
      have e : swa p k n = p n := by unfold swa; rw [if_neg (by omega), if_neg (by omega)]
      rw [e]
    · have e : n = k + 1 := by omega
      subst e
      have e1 : cnt (swa p k) k = cnt p k := cnt_cg (fun j hj => by unfold swa; rw [if_neg (by omega), if_neg (by omega)])
      have e2 : swa p k k = p (k + 1) := if_pos rfl
      have e3 : swa p k (k + 1) = p k := by unfold swa; rw [if_neg (by omega), if_pos rfl]
      rw [cnt_s, cnt_s, cnt_s, cnt_s, e1, e2, e3]; omega
theorem swa_v {α : Type} (f : Nat → α) (k : Nat) : swa f k k = f (k + 1) := if_pos rfl
theorem swa_v1 {α : Type} (f : Nat → α) (k : Nat) : swa f k (k + 1) = f k := by unfold swa; rw [if_neg (by omega), if_pos rfl]
theorem swa_o {α : Type} (f : Nat → α) {k j : Nat} (h : j ≠ k) (h1 : j ≠ k + 1) : swa f k j = f j := by unfold swa; rw [if_neg h, if_neg h1]
theorem swa_c {α β : Type} (g : α → β) (f : Nat → α) (k j : Nat) : g (swa f k j) = swa (fun i => g (f i)) k j := by
  unfold swa; split
  · rfl
  · split <;> rfl
/-- ranks behind a swap of neighbours that differ -/
theorem rk0_sw {fl : Bool} {v : Nat → Int64} {n q : Nat} (hq : q + 1 < n) (hd : v q ≠ v (q + 1)) (j : Nat) : rk0 fl (swa v q) n j = if j = q then rk0 fl v n (q + 1) else if j = q + 1 then rk0 fl v n q else rk0 fl v n j := by
  have key : ∀ j' : Nat, swa v q j = v j' → (∀ o, o < n → (decide (o < j) && decide (swa v q o = v j')) = swa (fun i => decide (i < j') && decide (v i = v j')) q o) → rk0 fl (swa v q) n j = rk0 fl v n j' := by
    intro j' e h
    unfold rk0
    rw [← cnt_sw (p := rkp fl v j') hq]
    refine cnt_cg (fun o ho => ?_)
    have h1 := h o ho
    have h2 : ahd fl (swa v q o) (v j') = swa (fun i => ahd fl (v i) (v j')) q o := swa_c (fun x => ahd fl x (v j')) v q o
    show ((decide (o < j) && decide (swa v q o = swa v q j)) || ahd fl (swa v q o) (swa v q j)) = _
    rw [e, h1, h2]
    unfold swa rkp
    split
    · rfl
    · split <;> rfl
  by_cases c1 : j = q
  · rw [if_pos c1]
    subst c1
    refine key (j + 1) (swa_v v j) (fun o _ => ?_)
    by_cases e1 : o = j
    · subst e1; rw [swa_v, swa_v]; simp [hd]
    · by_cases e2 : o = j + 1
      · subst e2; rw [swa_v1, swa_v1]; simp [hd]
      · rw [swa_o v e1 e2, swa_o _ e1 e2]
        by_cases z : o < j
        · simp [z, show o < j + 1 by omega]
        · simp [z, show ¬ o < j + 1 by omega]
  · rw [if_neg c1]
    by_cases c2 : j = q + 1
    · rw [if_pos c2]
      subst c2
      refine key q (swa_v1 v q) (fun o _ => ?_)
      by_cases e1 : o = q
      · subst e1; rw [swa_v, swa_v]; simp [Ne.symm hd]
      · by_cases e2 : o = q + 1
        · subst e2; rw [swa_v1, swa_v1]; simp
        · rw [swa_o v e1 e2, swa_o _ e1 e2]
          by_cases z : o < q
          · simp [z, show o < q + 1 by omega]
          · simp [z, show ¬ o < q + 1 by omega]
    · rw [if_neg c2]
      refine key j (swa_o v c1 c2) (fun o _ => ?_)
      by_cases e1 : o = q
      · subst e1; rw [swa_v, swa_v]
        by_cases z : o < j
        · simp [z, show o + 1 < j by omega]
        · simp [z, show ¬ o + 1 < j by omega]
      · by_cases e2 : o = q + 1
        · subst e2; rw [swa_v1, swa_v1]
          by_cases z : q < j
          · simp [z, show q + 1 < j by omega]
          · simp [z, show ¬ q + 1 < j by omega]
        · rw [swa_o v e1 e2, swa_o _ e1 e2]
theorem swr_hrk {fl : Bool} {v : Nat → Int64} {rk : Nat → Int32} {n q : Nat} (hq : q + 1 < n) (h : ∀ i, i < n → rk i = nI (rk0 fl v n i)) : ∀ i, i < n → swr v rk q i = nI (rk0 fl (swa v q) n i) := by
  intro i hi
  unfold swr
  by_cases c : v q = v (q + 1)
  · rw [if_pos c, swa_eq c]; exact h i hi
  · rw [if_neg c, rk0_sw hq c]
    unfold swa
    by_cases e1 : i = q
    · rw [if_pos e1, if_pos e1]; exact h _ hq
    · rw [if_neg e1, if_neg e1]
      by_cases e2 : i = q + 1
      · rw [if_pos e2, if_pos e2]; exact h _ (by omega)
      · rw [if_neg e2, if_neg e2]; exact h i hi
/-- the lower place of the next step of mending -/
def mq (fl : Bool) (n b : Nat) (v : Nat → Int64) : Option Nat := match (wpl (far fl v n) b n).2 with
  | none => none
  | some k => fno fl v n k
/-- the swaps of mending, in their order -/
def mL (fl : Bool) (n b : Nat) : Nat → (Nat → Int64) → List Nat
  | 0, _ => []
  | f + 1, v => match mq fl n b v with
    | none => []
    | some q => q :: mL fl n b f (swa v q)
def sws {α : Type} : (Nat → α) → List Nat → Nat → α
  | f, [] => f
  | f, q :: L => sws (swa f q) L
def rks : (Nat → Int64) → (Nat → Int32) → List Nat → Nat → Int32
  | _, rk, [] => rk
  | v, rk, q :: L => rks (swa v q) (swr v rk q) L
theorem mL_n {fl : Bool} {n b f : Nat} {v : Nat → Int64} (h : mq fl n b v = none) : mL fl n b f v = [] := by
  cases f with
  | zero => rfl
  | succ f => show (match mq fl n b v with | none => [] | some q => q :: mL fl n b f (swa v q)) = []; rw [h]
theorem mL_s {fl : Bool} {n b f q : Nat} {v : Nat → Int64} (h : mq fl n b v = some q) : mL fl n b (f + 1) v = q :: mL fl n b f (swa v q) := by
  show (match mq fl n b v with | none => [] | some q => q :: mL fl n b f (swa v q)) = _; rw [h]
theorem mq_fal {fl : Bool} {n b q : Nat} {v : Nat → Int64} (h : mq fl n b v = some q) : fal fl v n q = true := by
  unfold mq at h
  split at h
  · cases h
  · exact fno_fal h
theorem mL_hrk {fl : Bool} {n b : Nat} : ∀ {f : Nat} {v : Nat → Int64} {rk : Nat → Int32}, (∀ i, i < n → rk i = nI (rk0 fl v n i)) → ∀ i, i < n → rks v rk (mL fl n b f v) i = nI (rk0 fl (sws v (mL fl n b f v)) n i)
  | 0, v, rk, h => h
  | f + 1, v, rk, h => by
    cases c : mq fl n b v with
    | none => rw [mL_n c]; exact h
    | some q =>
      rw [mL_s c]
      exact mL_hrk (f := f) (swr_hrk (fal_lt (mq_fal c)) h)
theorem wk_cp {α : Type} (f g : Nat → α) : va_cpy f g (nI 0).toNatClampNeg (nI 0).toNatClampNeg (nI 32).toNatClampNeg = cp32 f g := by
  funext k
  rw [nI_clamp (by decide), nI_clamp (by decide)]
  unfold va_cpy cp32
  by_cases h : k < 32
  · rw [if_pos ⟨Nat.zero_le _, by omega⟩, if_pos h]; congr 1; omega
  · rw [if_neg (by omega), if_neg h]
-- there is such a fall
theorem fnl_no {p : Nat → Bool} : ∀ {i : Nat}, fnl p i = none → ∀ j, j < i → p j = false
  | 0, _, j, hj => absurd hj (by omega)
  | i + 1, h, j, hj => by
    rw [fnl_s] at h
    by_cases c : p i = true
    · rw [if_pos c] at h; cases h
    · rw [if_neg c] at h
      rcases Nat.lt_or_ge j i with q | q
      · exact fnl_no h j q
      · rw [show j = i by omega]; exact Bool.eq_false_iff.mpr c
theorem fnr_no {p : Nat → Bool} : ∀ {c lo : Nat}, fnr p lo c = none → ∀ j, lo ≤ j → j < lo + c → p j = false
  | 0, lo, _, j, h1, h2 => absurd h2 (by omega)
  | c + 1, lo, h, j, h1, h2 => by
    rw [fnr_s] at h
    by_cases d : p lo = true
    · rw [if_pos d] at h; cases h
    · rw [if_neg d] at h
      rcases Nat.lt_or_ge lo j with q | q
      · exact fnr_no h j (by omega) (by omega)
      · rw [show j = lo by omega]; exact Bool.eq_false_iff.mpr d
theorem fal_f {fl : Bool} {v : Nat → Int64} {n k : Nat} (h : fal fl v n k = false) (hk : k + 1 < n) : ahd fl (v (k + 1)) (v k) = false := by
  unfold fal at h; rw [decide_eq_true hk, Bool.true_and] at h; exact h
theorem asc {fl : Bool} {v : Nat → Int64} {n lo hi : Nat} (hn : hi ≤ n) (h : ∀ j, lo ≤ j → j + 1 < hi → fal fl v n j = false) : ∀ (d i : Nat), lo ≤ i → i + d < hi → ahd fl (v (i + d)) (v i) = false
  | 0, i, _, _ => ahd_irr fl _
  | d + 1, i, h1, h2 => by
    have a := asc hn h d i h1 (by omega)
    have b := fal_f (h (i + d) (by omega) (by omega)) (by omega)
    exact ahd_ntr b a
theorem cnt_all {p : Nat → Bool} : ∀ {n k : Nat}, k ≤ n → (∀ j, j < k → p j = true) → k ≤ cnt p n
  | n, 0, _, _ => Nat.zero_le _
  | n, k + 1, h, hp => by
    have h1 := cnt_all (p := p) (n := k) (k := k) (Nat.le_refl _) (fun j hj => hp j (by omega))
    have h2 : cnt p (k + 1) = cnt p k + 1 := cnt_t (hp k (by omega))
    have h3 := cnt_mono p h
    omega
theorem cnt_none {p : Nat → Bool} {k : Nat} : ∀ {n : Nat}, (∀ j, k ≤ j → j < n → p j = false) → cnt p n ≤ k
  | 0, _ => Nat.zero_le _
  | n + 1, h => by
    rcases Nat.lt_or_ge n k with q | q
    · have := cnt_le p (n + 1); omega
    · rw [cnt_f (h n q (by omega))]; exact cnt_none (fun j h1 h2 => h j h1 (by omega))
theorem fno_some {fl : Bool} {v : Nat → Int64} {n k : Nat} (hk : k < n) (h : rk0 fl v n k ≠ k) : ∃ q, fno fl v n k = some q := by
  cases hq : fno fl v n k with
  | some q => exact ⟨q, rfl⟩
  | none =>
    exfalso
    unfold fno at hq
    by_cases c : rk0 fl v n k < k
    · rw [if_pos c] at hq
      have ha := asc (fl := fl) (v := v) (n := n) (lo := 0) (hi := k + 1) (by omega) (fun j _ hj => fnl_no hq j (by omega))
      have : k ≤ rk0 fl v n k := by
        refine cnt_all (by omega) (fun j hj => ?_)
        have h1 := ha (k - j) j (by omega) (by omega)
        rw [show j + (k - j) = k by omega] at h1
        unfold rkp
        cases h2 : ahd fl (v j) (v k) with
        | true => rw [Bool.or_true]
        | false => rw [decide_eq_true hj, decide_eq_true (ahd_tot h2 h1)]; rfl
      omega
    · rw [if_neg c] at hq
      have ha := asc (fl := fl) (v := v) (n := n) (lo := k) (hi := n) (by omega) (fun j h1 h2 => fnr_no hq j h1 (by omega))
      have : rk0 fl v n k ≤ k := by
        refine cnt_none (fun j h1 h2 => ?_)
        have h3 := ha (j - k) k (by omega) (by omega)
        rw [show k + (j - k) = j by omega] at h3
        unfold rkp
        rw [h3, decide_eq_false (by omega)]; rfl
      omega
theorem fno_ex {fl : Bool} {v : Nat → Int64} {n b k : Nat} (hw : (wpl (far fl v n) b n).2 = some k) : ∃ q, fno fl v n k = some q := by
  obtain ⟨h1, h2, -⟩ := wpl_some hw
  refine fno_some h1 (fun z => ?_)
  unfold far ad at h2
  rw [z] at h2
  omega

def rci (fl : Bool) (v : Nat → Int64) (n k : Nat) : Nat := cnt (fun j => decide (k < j) && ahd fl (v j) (v k)) n
/-- inversions: the measure of mending -/
def tin (fl : Bool) (v : Nat → Int64) (n : Nat) : Nat := sm (rci fl v n) n
theorem rci_le (fl : Bool) (v : Nat → Int64) (k : Nat) : ∀ n, rci fl v n k ≤ n - 1 - k
  | 0 => by show 0 ≤ _; omega
  | n + 1 => by
    have h := rci_le fl v k n
    unfold rci at h ⊢
    by_cases c : k < n
    · have : cnt (fun j => decide (k < j) && ahd fl (v j) (v k)) (n + 1) ≤ cnt (fun j => decide (k < j) && ahd fl (v j) (v k)) n + 1 := by rw [cnt_s]; split <;> omega
      omega
    · rw [cnt_f (by rw [decide_eq_false c, Bool.false_and])]; omega
theorem sm_mono {f g : Nat → Nat} : ∀ {n : Nat}, (∀ k, k < n → f k ≤ g k) → sm f n ≤ sm g n
  | 0, _ => Nat.le_refl _
  | n + 1, h => by
    have h1 := sm_mono (n := n) (fun k hk => h k (by omega))
    have h2 := h n (by omega)
    rw [sm_s, sm_s]; omega
theorem tin_dec : ∀ n, n < 33 → sm (fun k => n - 1 - k) n ≤ 496 := by decide +kernel
theorem tin_le {fl : Bool} {v : Nat → Int64} {n : Nat} (hn : n ≤ 32) : tin fl v n ≤ 496 :=
  Nat.le_trans (sm_mono (fun k _ => rci_le fl v k n)) (tin_dec n (by omega))
theorem sm_sw {f g : Nat → Nat} {q : Nat} : ∀ {n : Nat}, q + 1 < n → (∀ k, k < n → k ≠ q → k ≠ q + 1 → g k = f k) → g q = f (q + 1) → g (q + 1) + 1 = f q → sm g n + 1 = sm f n
  | 0, h, _, _, _ => absurd h (by omega)
  | n + 1, h, ho, h1, h2 => by
    rcases Nat.lt_or_ge (q + 1) n with z | z
    · have := sm_sw z (fun k hk => ho k (by omega)) h1 h2
      rw [sm_s, sm_s, ho n (by omega) (by omega) (by omega)]; omega
    · have e : n = q + 1 := by omega
      subst e
      have e1 : sm g q = sm f q := sm_cg (fun k hk => ho k (by omega) (by omega) (by omega))
      rw [sm_s, sm_s, sm_s, sm_s, e1]; omega
theorem tin_sw {fl : Bool} {v : Nat → Int64} {n q : Nat} (h : fal fl v n q = true) : tin fl (swa v q) n + 1 = tin fl v n := by
  have hq := fal_lt h
  have hf : ahd fl (v (q + 1)) (v q) = true := by unfold fal at h; rw [Bool.and_eq_true] at h; exact h.2
  have key : ∀ (k : Nat) (x : Int64), cnt (fun j => decide (k < j) && ahd fl (swa v q j) x) n = cnt (swa (fun j => decide (k < (if j = q then q + 1 else if j = q + 1 then q else j)) && ahd fl (v j) x) q) n := by
    intro k x
    refine cnt_cg (fun o _ => ?_)
    by_cases e1 : o = q
    · subst e1; rw [swa_v, swa_v]; rw [if_neg (by omega), if_pos rfl]
    · by_cases e2 : o = q + 1
      · subst e2; rw [swa_v1, swa_v1, if_pos rfl]
      · rw [swa_o v e1 e2, swa_o _ e1 e2, if_neg e1, if_neg e2]
  refine sm_sw hq (fun k hk h1 h2 => ?_) ?_ ?_
  · unfold rci
    rw [swa_o v h1 h2, key, cnt_sw hq]
    refine cnt_cg (fun o _ => ?_)
    by_cases e1 : o = q
    · subst e1
      rw [if_pos rfl]
      by_cases z : k < o
      · rw [decide_eq_true z, decide_eq_true (show k < o + 1 by omega)]
      · rw [decide_eq_false z, decide_eq_false (show ¬ k < o + 1 by omega)]
    · rw [if_neg e1]
      by_cases e2 : o = q + 1
      · subst e2
        rw [if_pos rfl]
        by_cases z : k < q
        · rw [decide_eq_true z, decide_eq_true (show k < q + 1 by omega)]
        · rw [decide_eq_false z, decide_eq_false (show ¬ k < q + 1 by omega)]
      · rw [if_neg e2]
  · unfold rci
    rw [swa_v, key, cnt_sw hq]
    refine cnt_cg (fun o _ => ?_)
    by_cases e1 : o = q
    · subst e1
      rw [if_pos rfl, decide_eq_true (show o < o + 1 by omega), decide_eq_false (show ¬ o + 1 < o by omega), Bool.true_and, Bool.false_and]
      exact ahd_as hf
    · rw [if_neg e1]
      by_cases e2 : o = q + 1
      · subst e2
        rw [if_pos rfl, decide_eq_false (Nat.lt_irrefl q), decide_eq_false (Nat.lt_irrefl (q + 1))]
      · rw [if_neg e2]
        by_cases z : q < o
        · rw [decide_eq_true z, decide_eq_true (show q + 1 < o by omega)]
        · rw [decide_eq_false z, decide_eq_false (show ¬ q + 1 < o by omega)]
  · unfold rci
    rw [swa_v1, key, cnt_sw hq]
    have split1 : ∀ (p : Nat → Bool) (N : Nat), q + 1 < N → p (q + 1) = true → cnt (fun j => decide (j ≠ q + 1) && p j) N + 1 = cnt p N := by
      intro p N
      induction N with
      | zero => intro h; omega
      | succ N ih =>
        intro h1 h2
        rcases Nat.lt_or_ge (q + 1) N with z | z
        · have := ih z h2
          rw [cnt_s, cnt_s, decide_eq_true (show N ≠ q + 1 by omega), Bool.true_and]; omega
        · have e : N = q + 1 := by omega
          subst e
          rw [cnt_t h2, cnt_f (by rw [decide_eq_false (by omega), Bool.false_and])]
          congr 1
          exact cnt_cg (fun k hk => by rw [decide_eq_true (show k ≠ q + 1 by omega), Bool.true_and])
    rw [← split1 (fun j => decide (q < j) && ahd fl (v j) (v q)) n hq (by rw [decide_eq_true (by omega), Bool.true_and]; exact hf)]
    congr 1
    refine cnt_cg (fun o _ => ?_)
    by_cases e1 : o = q
    · subst e1
      rw [if_pos rfl, ahd_irr, Bool.and_false, Bool.and_false, Bool.and_false]
    · rw [if_neg e1]
      by_cases e2 : o = q + 1
      · subst e2
        rw [if_pos rfl, decide_eq_false (show ¬ q + 1 < q by omega), decide_eq_false (show ¬ (q + 1 ≠ q + 1) by omega)]; rfl
      · rw [if_neg e2, decide_eq_true (show o ≠ q + 1 from e2), Bool.true_and]
        by_cases z : q < o
        · rw [decide_eq_true z, decide_eq_true (show q + 1 < o by omega)]
        · rw [decide_eq_false z, decide_eq_false (show ¬ q + 1 < o by omega)]
theorem mL_fuel {fl : Bool} {n b : Nat} : ∀ (f g : Nat) (v : Nat → Int64), tin fl v n ≤ f → tin fl v n ≤ g → mL fl n b f v = mL fl n b g v
  | 0, g, v, hf, _ => by
    cases c : mq fl n b v with
    | none => rw [mL_n c, mL_n c]
    | some q => have := tin_sw (mq_fal c); omega
  | f + 1, 0, v, _, hg => by
    cases c : mq fl n b v with
    | none => rw [mL_n c, mL_n c]
    | some q => have := tin_sw (mq_fal c); omega
  | f + 1, g + 1, v, hf, hg => by
    cases c : mq fl n b v with
    | none => rw [mL_n c, mL_n c]
    | some q =>
      have := tin_sw (mq_fal c)
      rw [mL_s c, mL_s c, mL_fuel f g (swa v q) (by omega) (by omega)]
theorem mL_1 {fl : Bool} {n b q : Nat} {v : Nat → Int64} (hn : n ≤ 32) (c : mq fl n b v = some q) : mL fl n b 1000 v = q :: mL fl n b 1000 (swa v q) := by
  have h1 := tin_le (fl := fl) (v := swa v q) hn
  rw [show (1000 : Nat) = 999 + 1 from rfl, mL_s c, mL_fuel 999 (999 + 1) (swa v q) (by omega) (by omega)]
theorem mq_done {fl : Bool} {n b : Nat} : ∀ (f : Nat) (v : Nat → Int64), tin fl v n ≤ f → mq fl n b (sws v (mL fl n b f v)) = none
  | 0, v, h => by
    cases c : mq fl n b v with
    | none => exact c
    | some q => have := tin_sw (mq_fal c); omega
  | f + 1, v, h => by
    cases c : mq fl n b v with
    | none => rw [mL_n c]; exact c
    | some q =>
      have := tin_sw (mq_fal c)
      rw [mL_s c]
      exact mq_done f (swa v q) (by omega)
