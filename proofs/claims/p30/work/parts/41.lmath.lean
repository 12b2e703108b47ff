/-! The law's mathematics: inversions counted by pairs, what a swap makes of them, searches of a row that is in bound. -/
theorem nI_nle1000 {q : Nat} (hq : q < 2 ^ 31) : ¬ nI q ≤ (-1000) := by
  rw [Int32.le_iff_toInt_le, nI_toInt hq]
  have : (-1000 : Int32).toInt = -1000 := rfl
  omega
def lo31 (x : Int32) : Nat := (x &&& nI 2147483647).toUInt32.toNat
theorem lo31_lt (x : Int32) : lo31 x < 2 ^ 31 := by
  have h : (x &&& nI 2147483647).toUInt32.toNat = x.toUInt32.toNat &&& 2147483647 := rfl
  unfold lo31
  rw [h]
  exact Nat.lt_of_le_of_lt Nat.and_le_right (by decide)
theorem lo31_e (x : Int32) : x &&& nI 2147483647 = nI (lo31 x) := by
  have h : ∀ y : Int32, y = nI y.toUInt32.toNat := fun y => by
    unfold nI
    exact (Int32.toBitVec.inj (by simp [Int32.ofNat])).symm
  exact h _
def valL (z : Nat) : Int64 := if z % 9 = 0 then (lN 4000000000000) * (nI (z / 9 % 7) - nI 3).toInt64 else (nI (z / 9 % 24) - nI 8).toInt64
/-- the place of the worst, -1 if there is none -/
def oW (o : Option Nat) : Int32 := match o with
  | none => (-1)
  | some k => nI k
theorem sm_cnt {f g : Nat → Nat} {q : Nat → Bool} : ∀ {n : Nat}, (∀ k, k < n → g k = f k + (if q k then 1 else 0)) → sm g n = sm f n + cnt q n
  | 0, _ => rfl
  | n + 1, h => by
    have h1 := sm_cnt (n := n) (fun k hk => h k (by omega))
    have h2 := h n (by omega)
    rw [sm_s, sm_s, cnt_s, h1, h2]; omega
theorem cnt_z {p : Nat → Bool} : ∀ {n : Nat}, (∀ k, k < n → p k = false) → cnt p n = 0
  | 0, _ => rfl
  | n + 1, h => by rw [cnt_f (h n (by omega))]; exact cnt_z (fun k hk => h k (by omega))
theorem cnt_0z {p : Nat → Bool} : ∀ {n : Nat}, cnt p n = 0 → ∀ k, k < n → p k = false
  | 0, _, k, hk => absurd hk (Nat.not_lt_zero _)
  | n + 1, h, k, hk => by
    rcases Bool.eq_false_or_eq_true (p n) with e | e
    · rw [cnt_t e] at h; omega
    · rw [cnt_f e] at h
      rcases Nat.lt_or_ge k n with z | z
      · exact cnt_0z h k z
      · rw [show k = n by omega]; exact e
theorem tin_s (fl : Bool) (v : Nat → Int64) (n : Nat) : tin fl v (n + 1) = tin fl v n + cnt (fun j => ahd fl (v n) (v j)) n := by
  unfold tin
  rw [sm_s]
  have h0 : rci fl v (n + 1) n = 0 := cnt_z (fun k hk => by
    show (decide (n < k) && _) = false
    rw [decide_eq_false (by omega), Bool.false_and])
  rw [h0, Nat.add_zero]
  refine sm_cnt (fun k hk => ?_)
  show cnt (fun j => decide (k < j) && ahd fl (v j) (v k)) (n + 1) = cnt (fun j => decide (k < j) && ahd fl (v j) (v k)) n + _
  rw [cnt_s, decide_eq_true hk, Bool.true_and]
theorem ivo_tin (fl : Bool) (v : Nat → Int64) : ∀ n, sm (ivo fl v n) n = 2 * tin fl v n
  | 0 => rfl
  | n + 1 => by
    have ih := ivo_tin fl v n
    have h1 : sm (ivo fl v (n + 1)) n = sm (ivo fl v n) n + cnt (fun j => ahd fl (v n) (v j)) n := sm_cnt (fun k hk => by
      show cnt (ivp fl v k) (n + 1) = cnt (ivp fl v k) n + _
      rw [cnt_s, ivp_gt hk])
    have h2 : ivo fl v (n + 1) n = cnt (fun j => ahd fl (v n) (v j)) n := by
      show cnt (ivp fl v n) (n + 1) = _
      rw [cnt_f ivp_eq]
      exact cnt_cg (fun o ho => ivp_lt ho)
    rw [sm_s, h1, h2, tin_s, ih]; omega
theorem ivs_tin (fl : Bool) (v : Nat → Int64) (n : Nat) : ivs fl v n = tin fl v n := by
  unfold ivs
  rw [ivo_tin]; omega
theorem swa_swa {α : Type} (f : Nat → α) (k : Nat) : swa (swa f k) k = f := by
  funext j
  by_cases e1 : j = k
  · subst e1; rw [swa_v, swa_v1]
  · by_cases e2 : j = k + 1
    · subst e2; rw [swa_v1, swa_v]
    · rw [swa_o _ e1 e2, swa_o _ e1 e2]
theorem tin_ibs {fl : Bool} {v : Nat → Int64} {n k : Nat} (hn : n ≤ 32) (hk : k + 1 < n) : nI (tin fl (swa v k) n) - nI (tin fl v n) = ibs fl v k := by
  have h1 := tin_le (fl := fl) (v := v) hn
  have h2 := tin_le (fl := fl) (v := swa v k) hn
  unfold ibs
  by_cases e : v k = v (k + 1)
  · rw [if_pos e, swa_eq e]
    refine Int32.toInt_inj.mp ?_
    rw [pk_sub_toInt (by omega) (by omega)]
    show _ = (0 : Int)
    omega
  · rw [if_neg e]
    rcases Bool.eq_false_or_eq_true (ahd fl (v (k + 1)) (v k)) with a | a
    · rw [if_pos a]
      have hf : fal fl v n k = true := by unfold fal; rw [decide_eq_true hk, a]; rfl
      have h3 := tin_sw hf
      refine Int32.toInt_inj.mp ?_
      rw [pk_sub_toInt (by omega) (by omega)]
      show _ = (-1 : Int)
      omega
    · rw [if_neg (by rw [a]; decide)]
      have a2 : ahd fl (v k) (v (k + 1)) = true := by
        rcases Bool.eq_false_or_eq_true (ahd fl (v k) (v (k + 1))) with b | b
        · exact b
        · exact absurd (ahd_tot b a) e
      have hf : fal fl (swa v k) n k = true := by unfold fal; rw [decide_eq_true hk, swa_v, swa_v1, a2]; rfl
      have h3 := tin_sw hf
      rw [swa_swa] at h3
      refine Int32.toInt_inj.mp ?_
      rw [pk_sub_toInt (by omega) (by omega)]
      show _ = (1 : Int)
      omega
/-- where the window of a search stands, each place of the value lies in it -/
theorem srw_inv {fl : Bool} {v : Nat → Int64} {n b : Nat} {x : Int64} (hb : ∀ k, k < n → far fl v n k ≤ b) : ∀ (f lo hi : Nat), lo ≤ hi → hi ≤ n → (∀ p, p < n → v p = x → lo ≤ p ∧ p < hi) → ∀ p, p < n → v p = x → (srw fl v (2 * b) x f lo hi).2.2.1 ≤ p ∧ p < (srw fl v (2 * b) x f lo hi).2.2.2
  | 0, lo, hi, _, _, hI => hI
  | f + 1, lo, hi, h1, h2, hI => by
    by_cases a : hi - lo ≤ 2 * (2 * b) + 2
    · rw [srw_stop a]; exact hI
    · have hm : (lo + hi) / 2 < n := by omega
      have hfm := hb _ hm
      by_cases e : v ((lo + hi) / 2) = x
      · rw [srw_hit a e]; exact hI
      · rcases Bool.eq_false_or_eq_true (ahd fl (v ((lo + hi) / 2)) x) with c | c
        · rw [srw_up a e c]
          refine srw_inv hb f _ hi (by omega) h2 (fun p hp hx => ⟨?_, (hI p hp hx).2⟩)
          have h3 : rk0 fl v n ((lo + hi) / 2) < rk0 fl v n p := rk0_lt hm (Or.inl (by rw [hx]; exact c))
          have h4 := hb p hp
          unfold far ad at hfm h4
          omega
        · rw [srw_dn a e c]
          refine srw_inv hb f lo _ (by omega) (by omega) (fun p hp hx => ⟨(hI p hp hx).1, ?_⟩)
          have c2 : ahd fl x (v ((lo + hi) / 2)) = true := by
            rcases Bool.eq_false_or_eq_true (ahd fl x (v ((lo + hi) / 2))) with d | d
            · exact d
            · exact absurd (ahd_tot c d) e
          have h3 : rk0 fl v n p < rk0 fl v n ((lo + hi) / 2) := rk0_lt hp (Or.inl (by rw [hx]; exact c2))
          have h4 := hb p hp
          unfold far ad at hfm h4
          omega
/-- in a row that is in bound, each value that is there is found -/
theorem sr_found {fl : Bool} {v : Nat → Int64} {n b j : Nat} (hb : ∀ k, k < n → brk fl v n b k = false) (hj : j < n) : sr1 fl v n b (v j) ≠ none := by
  have hb2 : ∀ k, k < n → far fl v n k ≤ b := fun k hk => by
    have := of_decide_eq_false (hb k hk)
    omega
  intro z
  rcases opt_or (srR fl v n b (v j)).1 with h | ⟨m, h⟩
  · rw [sr1_n h] at z
    obtain ⟨g1, g2⟩ := srw_inv (fl := fl) (v := v) (n := n) (b := b) (x := v j) hb2 32 0 n (Nat.zero_le _) (Nat.le_refl _) (fun p hp _ => ⟨Nat.zero_le _, hp⟩) j hj rfl
    have g3 := fnr_no z j g1 (by unfold srR at *; omega)
    exact absurd rfl (of_decide_eq_false g3)
  · rw [sr1_s h] at z; cases z
theorem lost_0 {fl : Bool} {v : Nat → Int64} {n b : Nat} (h : cnt (brk fl v n b) n = 0) : cnt (fun j => decide (sr1 fl v n b (v j) = none)) n = 0 :=
  cnt_z (fun _ hk => decide_eq_false (sr_found (cnt_0z h) hk))
theorem rk_first {fl : Bool} {v : Nat → Int64} {rk : Nat → Int32} {n p : Nat} (hn : n ≤ 32) (hrk : ∀ i, i < n → rk i = nI (rk0 fl v n i)) (hp : p < n) : ∃ p1, fst0 (fun o => decide (rk o = nI (rk0 fl v n p))) n = some p1 ∧ p1 < n ∧ v p1 = v p := by
  obtain ⟨p1, h1, h2, h3⟩ := rkd_ok (v := v) hn hrk (rk0_ltn hp)
  exact ⟨p1, h1, h2, h3.trans (rkd_at rfl (Nat.le_refl _) hp)⟩
theorem dst_rk {fl : Bool} {v : Nat → Int64} {n k : Nat} (hk : k < n) (hn : n ≤ 32) : nI k - dst fl v n k = nI (rk0 fl v n k) := by
  have h1 := rk0_le fl v n k
  have h2 : (nI k - dst fl v n k).toInt = (nI (rk0 fl v n k)).toInt := by
    unfold dst
    rw [Int32.toInt_sub, pk_sub_toInt (by omega) (by omega), nI_toInt (by omega), nI_toInt (by omega)]
    simp only [Int.bmod_def]
    omega
  exact Int32.toInt_inj.mp h2
