/-! Ranks: each place has its own, and each rank has its place. -/
theorem cnt_lt {p : Nat → Bool} {k : Nat} : ∀ {n : Nat}, k < n → p k = false → cnt p n < n
  | 0, h, _ => absurd h (Nat.not_lt_zero _)
  | n + 1, h, h2 => by
    by_cases e : k = n
    · rw [cnt_f (by rw [← e]; exact h2)]
      have := cnt_le p n; omega
    · have := cnt_lt (n := n) (by omega) h2
      rw [cnt_s]; split <;> omega
theorem cnt_sub {p q : Nat → Bool} : ∀ {n : Nat}, (∀ o, o < n → p o = true → q o = true) → cnt p n ≤ cnt q n
  | 0, _ => Nat.le_refl _
  | n + 1, h => by
    have h1 := cnt_sub (n := n) (fun o ho => h o (by omega))
    rcases Bool.eq_false_or_eq_true (p n) with e | e
    · rw [cnt_t e, cnt_t (h n (by omega) e)]; omega
    · rw [cnt_f e, cnt_s]; omega
theorem cnt_sublt {p q : Nat → Bool} {i : Nat} : ∀ {n : Nat}, (∀ o, o < n → p o = true → q o = true) → i < n → p i = false → q i = true → cnt p n < cnt q n
  | 0, _, h, _, _ => absurd h (Nat.not_lt_zero _)
  | n + 1, h, hi, h1, h2 => by
    by_cases e : i = n
    · subst e
      have := cnt_sub (n := i) (p := p) (q := q) (fun o ho => h o (by omega))
      rw [cnt_f h1, cnt_t h2]; omega
    · have h3 := cnt_sublt (n := n) (fun o ho => h o (by omega)) (by omega) h1 h2
      rcases Bool.eq_false_or_eq_true (p n) with e2 | e2
      · rw [cnt_t e2, cnt_t (h n (by omega) e2)]; omega
      · rw [cnt_f e2, cnt_s]; omega
theorem rkp_self (fl : Bool) (v : Nat → Int64) (k : Nat) : rkp fl v k k = false := rkp_f (fun h => Nat.lt_irrefl _ h.1) (ahd_irr fl _)
theorem rkp_i {fl : Bool} {v : Nat → Int64} {k o : Nat} (h : rkp fl v k o = true) : (o < k ∧ v o = v k) ∨ ahd fl (v o) (v k) = true := by
  unfold rkp at h
  rcases Bool.or_eq_true_iff.mp h with h1 | h1
  · have := Bool.and_eq_true_iff.mp h1
    exact Or.inl ⟨of_decide_eq_true this.1, of_decide_eq_true this.2⟩
  · exact Or.inr h1
theorem rk0_ltn {fl : Bool} {v : Nat → Int64} {n k : Nat} (hk : k < n) : rk0 fl v n k < n := cnt_lt hk (rkp_self fl v k)
theorem rk0_lt {fl : Bool} {v : Nat → Int64} {n i j : Nat} (hi : i < n) (h : ahd fl (v i) (v j) = true ∨ (i < j ∧ v i = v j)) : rk0 fl v n i < rk0 fl v n j := by
  refine cnt_sublt (i := i) (fun o _ ho => ?_) hi (rkp_self fl v i) ?_
  · rcases rkp_i ho with ⟨a, b⟩ | a
    · rcases h with h | ⟨h, h2⟩
      · exact rkp_t1 (by rw [b]; exact h)
      · exact rkp_t2 (by omega) (b.trans h2)
    · rcases h with h | ⟨h, h2⟩
      · exact rkp_t1 (ahd_tr a h)
      · exact rkp_t1 (by rw [← h2]; exact a)
  · rcases h with h | ⟨h, h2⟩
    · exact rkp_t1 h
    · exact rkp_t2 h h2
theorem rk0_inj {fl : Bool} {v : Nat → Int64} {n i j : Nat} (hi : i < n) (hj : j < n) (h : rk0 fl v n i = rk0 fl v n j) : i = j := by
  rcases Bool.eq_false_or_eq_true (ahd fl (v i) (v j)) with a | a
  · have := rk0_lt hi (Or.inl a); omega
  · rcases Bool.eq_false_or_eq_true (ahd fl (v j) (v i)) with b | b
    · have := rk0_lt hj (Or.inl b); omega
    · have e := ahd_tot a b
      rcases Nat.lt_trichotomy i j with c | c | c
      · have := rk0_lt (fl := fl) hi (Or.inr ⟨c, e⟩); omega
      · exact c
      · have := rk0_lt (fl := fl) hj (Or.inr ⟨c, e.symm⟩); omega
theorem php : ∀ (n : Nat) (f : Nat → Nat), (∀ i, i < n → f i < n) → (∀ i j, i < n → j < n → f i = f j → i = j) → ∀ k, k < n → ∃ i, i < n ∧ f i = k
  | 0, _, _, _, k, hk => absurd hk (Nat.not_lt_zero _)
  | n + 1, f, h1, h2, k, hk => by
    by_cases e : f n = k
    · exact ⟨n, Nat.lt_succ_self n, e⟩
    · have g1 : ∀ i, i < n → (if f i = n then f n else f i) < n := fun i hi => by
        split
        · rename_i h3
          have h4 := h1 n (by omega)
          by_cases h5 : f n = n
          · have := h2 i n (by omega) (by omega) (by omega); omega
          · omega
        · have := h1 i (by omega); omega
      have g2 : ∀ i j, i < n → j < n → (if f i = n then f n else f i) = (if f j = n then f n else f j) → i = j := fun i j hi hj q => by
        split at q
        · split at q
          · exact h2 i j (by omega) (by omega) (by omega)
          · have := h2 n j (by omega) (by omega) q; omega
        · split at q
          · have := h2 i n (by omega) (by omega) q; omega
          · exact h2 i j (by omega) (by omega) q
      by_cases hkn : k = n
      · have h4 := h1 n (by omega)
        obtain ⟨i, hi, q⟩ := php n (fun i => if f i = n then f n else f i) g1 g2 (f n) (by omega)
        have q : (if f i = n then f n else f i) = f n := q
        split at q
        · rename_i h5
          exact ⟨i, by omega, by omega⟩
        · have := h2 i n (by omega) (by omega) q; omega
      · obtain ⟨i, hi, q⟩ := php n (fun i => if f i = n then f n else f i) g1 g2 k (by omega)
        have q : (if f i = n then f n else f i) = k := q
        split at q
        · exact absurd q e
        · exact ⟨i, by omega, q⟩
theorem rk0_ex {fl : Bool} {v : Nat → Int64} {n k : Nat} (hk : k < n) : ∃ o, o < n ∧ rk0 fl v n o = k :=
  php n (rk0 fl v n) (fun _ hi => rk0_ltn hi) (fun _ _ hi hj h => rk0_inj hi hj h) k hk
theorem rkd_at {fl : Bool} {v : Nat → Int64} {n k o : Nat} {h : Int64} (ho : rk0 fl v n o = k) : ∀ {i : Nat}, i ≤ n → o < i → rkd fl v n k h i = v o
  | 0, _, h2 => absurd h2 (Nat.not_lt_zero _)
  | i + 1, h1, h2 => by
    rw [rkd]
    by_cases e : rk0 fl v n i = k
    · rw [if_pos e, rk0_inj (i := i) (j := o) (by omega) (by omega) (e.trans ho.symm)]
    · rw [if_neg e]
      have hne : o ≠ i := fun z => e (by rw [← z]; exact ho)
      exact rkd_at ho (by omega) (by omega)
theorem rkd_ok {fl : Bool} {v : Nat → Int64} {rk : Nat → Int32} {n k : Nat} (hn : n ≤ 32) (hrk : ∀ i, i < n → rk i = nI (rk0 fl v n i)) (hk : k < n) : ∃ p1, fst0 (fun o => decide (rk o = nI k)) n = some p1 ∧ p1 < n ∧ v p1 = rkd fl v n k (lN 0) n := by
  obtain ⟨o, ho, e⟩ := rk0_ex (fl := fl) (v := v) hk
  cases h : fst0 (fun o => decide (rk o = nI k)) n with
  | none =>
    have := fnr_no h o (Nat.zero_le _) (by omega)
    rw [hrk o ho, e] at this
    exact absurd rfl (of_decide_eq_false this)
  | some p1 =>
    have g := fnr_le h
    have hp : p1 < n := by omega
    have g3 : rk p1 = nI k := of_decide_eq_true g.2.2
    rw [hrk p1 hp] at g3
    have h4 := rk0_ltn (fl := fl) (v := v) hp
    have g4 := (nI_eq (by omega) (by omega)).mp g3
    exact ⟨p1, rfl, hp, (rkd_at g4 (Nat.le_refl _) hp).symm⟩
theorem rkd_no {fl : Bool} {v : Nat → Int64} {rk : Nat → Int32} {n : Nat} {z : Int32} (hn : n ≤ 32) (hrk : ∀ i, i < n → rk i = nI (rk0 fl v n i)) (hz : inR z n = false) : fst0 (fun o => decide (rk o = z)) n = none := by
  cases h : fst0 (fun o => decide (rk o = z)) n with
  | none => rfl
  | some p1 =>
    have g := fnr_le h
    have hp : p1 < n := by omega
    have g3 : rk p1 = z := of_decide_eq_true g.2.2
    rw [hrk p1 hp] at g3
    rw [← g3, inR_t (rk0_ltn hp) (by omega)] at hz
    cases hz
theorem rk_eq (fl : Bool) (v : Nat → Int64) (n : Nat) (x : Int64) : cnt (fun o => !ahd fl x (v o)) n = rkOf fl v n x := by
  refine cnt_cg (fun o _ => ?_)
  show (!ahd fl x (v o)) = (ahd fl (v o) x || decide (v o = x))
  by_cases e : v o = x
  · rw [e, ahd_irr, decide_eq_true rfl]; rfl
  · rw [decide_eq_false e, Bool.or_false]
    rcases Bool.eq_false_or_eq_true (ahd fl x (v o)) with a | a
    · rw [a, ahd_as a]; rfl
    · rcases Bool.eq_false_or_eq_true (ahd fl (v o) x) with b | b
      · rw [a, b]; rfl
      · exact absurd (ahd_tot b a) e
