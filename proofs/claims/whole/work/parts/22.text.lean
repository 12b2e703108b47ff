/-! The command text of the class, and the rows of String that it calls. -/
theorem nI_sr0 : ∀ k, k < 128 → nI k >>> (nI 0 &&& 31) = nI k := by decide +kernel
theorem nI_c2 : ∀ k, k < 128 → ((nI k).toUInt32 % 65536).toInt32 = nI k := by decide +kernel
theorem nI_c4 : ∀ k, k < 128 → vp_nar .char (nI k) = nI k := by decide +kernel
theorem nI_c3 (k : Nat) (h : k < 128) : narrow .char (.int (nI k)) = .int (nI k) := congrArg Value.int (nI_c4 k h)
theorem m1_ne {k : Nat} (h : k < 2 ^ 31) (z : (-1 : Int32) = nI k) : False := by
  have := congrArg Int32.toInt z
  rw [nI_toInt h] at this
  have e : (-1 : Int32).toInt = -1 := by decide
  omega
theorem zq_ex {C n d : String} {A : Nat → Prop} {U : State} {H : Heap} (h : va_Zq C n d A U H) : ∃ v, va_Z C n d v A U H := by
  rcases h with h | ⟨t, h⟩
  · exact ⟨_, h⟩
  · exact ⟨_, h⟩
theorem skS_t {c : Nat → Nat} {n p : Nat} (h : p < n) (ht : isA c n 32 32 p = true) : skS c n p = skS c n (p + 1) := by
  unfold skS; rw [show n - p = (n - (p + 1)) + 1 by omega, rn_t ht]
theorem skS_f {c : Nat → Nat} {n p : Nat} (ht : isA c n 32 32 p = false) : skS c n p = p := rn_f ht
theorem skS_e {c : Nat → Nat} {n p : Nat} (h : n ≤ p) : skS c n p = p := by unfold skS; rw [show n - p = 0 by omega]; rfl
theorem skS_le {c : Nat → Nat} {n p : Nat} (h : p ≤ n) : p ≤ skS c n p ∧ skS c n p ≤ n := by
  have := rn_le (P := isA c n 32 32) (f := n - p) (p := p)
  unfold skS; omega
theorem skL_t {c : Nat → Nat} {n p : Nat} (h : p < n) (ht : isA c n 97 122 p = true) : skL c n p = skL c n (p + 1) := by
  unfold skL; rw [show n - p = (n - (p + 1)) + 1 by omega, rn_t ht]
theorem skL_f {c : Nat → Nat} {n p : Nat} (ht : isA c n 97 122 p = false) : skL c n p = p := rn_f ht
theorem skL_e {c : Nat → Nat} {n p : Nat} (h : n ≤ p) : skL c n p = p := by unfold skL; rw [show n - p = 0 by omega]; rfl
theorem skL_le {c : Nat → Nat} {n p : Nat} (h : p ≤ n) : p ≤ skL c n p ∧ skL c n p ≤ n := by
  have := rn_le (P := isA c n 97 122) (f := n - p) (p := p)
  unfold skL; omega
theorem nuQ_le {c : Nat → Nat} {n p : Nat} (sg : Bool) (h : p ≤ n) : p ≤ nuQ c n p sg ∧ nuQ c n p sg ≤ n := by
  have h1 := skS_le (c := c) h
  unfold nuQ
  split
  · rename_i h2
    unfold nuN at h2
    have h3 := isA_i (Bool.and_eq_true_iff.mp h2).2
    omega
  · omega
theorem nuE_le {c : Nat → Nat} {n p : Nat} (sg : Bool) (h : p ≤ n) : nuQ c n p sg ≤ nuE c n p sg ∧ nuE c n p sg ≤ n := by
  have h1 := nuQ_le (c := c) sg h
  have h2 := rn_le (P := isA c n 48 57) (f := 9) (p := nuQ c n p sg)
  refine ⟨h2.2, ?_⟩
  by_cases e : nuE c n p sg ≤ n
  · exact e
  · exfalso
    have h3 := isA_i (rn_in (P := isA c n 48 57) (f := 9) (p := nuQ c n p sg) n h1.2 (by unfold nuE at e; omega))
    omega
theorem ncP_le {c : Nat → Nat} {n p : Nat} (sg : Bool) (h : p ≤ n) : ncP c n p sg ≤ n := by
  unfold ncP
  split
  · exact (nuE_le sg h).2
  · exact h
theorem crE_le {c : Nat → Nat} {n k q : Nat} {am nb : Int32} {vl : Int64} (h : q ≤ n) : (crE c n k q am nb vl).2.1 ≤ n := by
  unfold crE
  split
  · rename_i h2
    have h3 := isA_i h2
    show skS c n q + 1 ≤ n
    omega
  · exact (skS_le h).2
theorem crV_le {c : Nat → Nat} {n k q : Nat} {am : Int32} {vl : Int64} (h : q ≤ n) : (crV c n k q am vl).2.1 ≤ n := by
  unfold crV
  split
  · split
    · exact crE_le (ncP_le true h)
    · exact ncP_le true h
  · exact crE_le h
theorem crS_le {c : Nat → Nat} {n : Nat} {s : PS} (h : s.1 ≤ n) : (crS c n s).2.1 ≤ n := by
  unfold crS
  split
  · exact h
  · split
    · split
      · exact crV_le (ncP_le false (skL_le h).2)
      · exact ncP_le false (skL_le h).2
    · exact crV_le (skL_le h).2
theorem mt_t {c : Nat → Nat} {i st k : Nat} (h : mt c i st k = true) (h2 : c (st + k) = wcc i k) : mt c i st (k + 1) = true := by
  rw [mt, h, decide_eq_true h2]; rfl
theorem mt_n {c : Nat → Nat} {i st k : Nat} : ∀ {n : Nat}, k < n → ¬ c (st + k) = wcc i k → mt c i st n = false
  | 0, h, _ => absurd h (Nat.not_lt_zero k)
  | n + 1, h, h2 => by
    rw [mt]
    by_cases e : k = n
    · subst e; rw [decide_eq_false h2, Bool.and_false]
    · rw [mt_n (by omega) h2]; rfl
theorem fnr_none {p : Nat → Bool} : ∀ {c lo : Nat}, (∀ j, lo ≤ j → j < lo + c → p j = false) → fnr p lo c = none
  | 0, _, _ => rfl
  | c + 1, lo, h => by
    rw [fnr, if_neg (by rw [h lo (Nat.le_refl _) (by omega)]; decide)]
    exact fnr_none (fun j h1 h2 => h j (by omega) (by omega))
theorem fnr_some {p : Nat → Bool} {i : Nat} : ∀ {c lo : Nat}, lo ≤ i → i < lo + c → p i = true → (∀ j, lo ≤ j → j < i → p j = false) → fnr p lo c = some i
  | 0, _, h1, h2, _, _ => absurd h2 (by omega)
  | c + 1, lo, h1, h2, h3, h4 => by
    rw [fnr]
    by_cases e : lo = i
    · rw [e, if_pos h3]
    · rw [if_neg (by rw [h4 lo (Nat.le_refl _) (by omega)]; decide)]
      exact fnr_some (by omega) (by omega) h3 (fun j h5 h6 => h4 j (by omega) h6)
theorem fnr_at {p : Nat → Bool} {i : Nat} : ∀ {c lo : Nat}, fnr p lo c = some i → lo ≤ i ∧ i < lo + c ∧ p i = true
  | 0, _, h => by cases h
  | c + 1, lo, h => by
    rw [fnr] at h
    split at h
    · rename_i h2
      cases h
      exact ⟨Nat.le_refl _, by omega, h2⟩
    · have := fnr_at h
      exact ⟨by omega, by omega, this.2.2⟩
theorem wid_n {c : Nat → Nat} {st en : Nat} (h : ∀ j, j < 7 → btw c j st en = false) : wid c st en = none := fnr_none (fun j _ h2 => h j (by omega))
theorem wid_s {c : Nat → Nat} {st en i : Nat} (hi : i < 7) (h : btw c i st en = true) (h2 : ∀ j, j < i → btw c j st en = false) : wid c st en = some i := fnr_some (Nat.zero_le _) (by omega) h (fun j _ h3 => h2 j h3)
theorem wid_lt {c : Nat → Nat} {st en k : Nat} (h : wid c st en = some k) : k < 7 := by have := (fnr_at h).2.1; omega
/-- the class: all commands, up to a fault -/
def ffS (c : Nat → Nat) (n : Nat) : Nat → PS → Option Nat × PS
  | 0, s => (none, s)
  | f + 1, s => if skS c n s.1 < n then (if (crS c n (skS c n s.1, s.2)).1 then ffS c n f (crS c n (skS c n s.1, s.2)).2 else (some (crS c n (skS c n s.1, s.2)).2.1, (crS c n (skS c n s.1, s.2)).2)) else (none, (skS c n s.1, s.2))
theorem ffS_t {c : Nat → Nat} {n f : Nat} {s : PS} (h : skS c n s.1 < n) (h2 : (crS c n (skS c n s.1, s.2)).1 = true) : ffS c n (f + 1) s = ffS c n f (crS c n (skS c n s.1, s.2)).2 := by rw [ffS, if_pos h, if_pos h2]
theorem ffS_n {c : Nat → Nat} {n f : Nat} {s : PS} (h : skS c n s.1 < n) (h2 : (crS c n (skS c n s.1, s.2)).1 = false) : ffS c n (f + 1) s = (some (crS c n (skS c n s.1, s.2)).2.1, (crS c n (skS c n s.1, s.2)).2) := by rw [ffS, if_pos h, if_neg (by rw [h2]; decide)]
theorem ffS_e {c : Nat → Nat} {n f : Nat} {s : PS} (h : ¬ skS c n s.1 < n) : ffS c n (f + 1) s = (none, (skS c n s.1, s.2)) := by rw [ffS, if_neg h]
set_option maxHeartbeats 4000000 in
set_option maxRecDepth 100000 in
theorem kJ0_coder_7d493 (l : Launch) (D : va_G) (ea : EA) (i : Nat) (hi : i < 7) : PEi l yJ0_coder_7d493 wsJ0_coder_7d493 ({ frames := 0, cells := 0, slots := 0, locals := 0 } : Room) [.ref (eK ea i)] D ([]) [] ea (nI 0) := by
  refine PEi_of (cc := cJ0_coder_7d493) (maxL := 1) (ret := some .byte) (by decide +kernel) rfl (Nat.le_of_ble_eq_true rfl) ?_
  intro p e s m args below meth c hx hb hr hts hown hlocks hml hP hK hN hE ls hl
  have hown : s.vm.findClass RJ0 = some m.cls := hown
  have hl : lv_has ls 1 [(0, .ref (eK ea i))] := hl
  have hS : va_S (va_A [] s.heap.size) s.heap s.heap [] := va_S.rf
  have hA := wk_hA [] s.heap.size
  have hD9 : True := trivial
  refine va_gets hx hb hE.st.2.1 hS hown (hts (.fieldLink RJ0 38 "java/lang/String" "COMPACT_STRINGS" "Z") (by decide +kernel)) (fun _ h9 => h9) dJ0_coder_7d493_0 ?_
  refine wv_ti (y := bI true) rfl ?_
  refine wv_ifeqB (tgt := 13) hx hb dJ0_coder_7d493_3 (by decide) (fun h => by cases h) (fun _ => ?_)
  refine lv_aload_n hx hb dJ0_coder_7d493_6 rfl (lv_at hl 0 rfl) ?_
  refine vk_getf hx hb (hE.st.1.1 i (by omega)).2.1 hS hown (hts (.fieldLink RJ0 15 "java/lang/String" "coder" "B") (by decide +kernel)) (fun _ h9 => h9) dJ0_coder_7d493_7 ?_
  refine wv_ti (y := nI 0) rfl ?_
  refine lv_goto (tgt := 14) hx hb dJ0_coder_7d493_10 (by decide) ?_
  exact wv_nretP hx hb hr rfl hlocks hS rfl dJ0_coder_7d493_14

set_option maxHeartbeats 4000000 in
set_option maxRecDepth 100000 in
theorem kJ0_length_8abf5 (l : Launch) (D : va_G) (ea : EA) (i : Nat) (hi : i < 7) : PEi l yJ0_length_8abf5 wsJ0_length_8abf5 ({ frames := 1, cells := 0, slots := 0, locals := 20 } : Room) [.ref (eK ea i)] D ([]) [] ea (nI (wln i)) := by
  refine PEi_of (cc := cJ0_length_8abf5) (maxL := 1) (ret := some .int) (by decide +kernel) rfl (Nat.le_of_ble_eq_true rfl) ?_
  intro p e s m args below meth c hx hb hr hts hown hlocks hml hP hK hN hE ls hl
  have hown : s.vm.findClass RJ0 = some m.cls := hown
  have hl : lv_has ls 1 [(0, .ref (eK ea i))] := hl
  have hS : va_S (va_A [] s.heap.size) s.heap s.heap [] := va_S.rf
  have hA := wk_hA [] s.heap.size
  have hD9 : True := trivial
  have hl9 := wln_ok i hi
  refine lv_aload_n hx hb dJ0_length_8abf5_0 rfl (lv_at hl 0 rfl) ?_
  refine vk_getf hx hb (hE.st.1.1 i (by omega)).2.2.1 hS hown (hts (.fieldLink RJ0 9 "java/lang/String" "value" "[B") (by decide +kernel)) (fun _ h9 => h9) dJ0_length_8abf5_1 ?_
  refine va_tlen hx hb (hE.st.1.1 i (by omega)).2.2.2 hS (v := nI (wln i)) rfl dJ0_length_8abf5_4 ?_
  refine lv_aload_n hx hb dJ0_length_8abf5_5 rfl (lv_at hl 0 rfl) ?_
  refine wv_callPEi (As := []) (rest := [.int (nI (wln i))]) ⟨hx, hb, hml, hown, hts⟩ (kJ0_coder_7d493 l D ea i (by first | assumption | omega)) (cwV 0 hts gJ0_length_8abf5_J0_coder_7d493 rfl rfl rfl (by decide +kernel) ⟨Nat.le_of_ble_eq_true rfl, Nat.le_of_ble_eq_true rfl⟩) hK hN hE hP hS hA [] [] rfl rfl (vk_recv hE.st.1 (i := i) (by omega) hS) rfl hl.1 rfl (Nat.le_of_ble_eq_true rfl) dJ0_length_8abf5_6 ⟨Nat.zero_le _, Nat.zero_le _⟩ (fun H locs hz9 hP hS => ?_)
  refine lv_ishr hx hb dJ0_length_8abf5_9 ?_
  refine wv_ti (y := nI (wln i)) (nI_sr0 _ (by omega)) ?_
  exact wv_iretP hx hb hr hlocks hS rfl dJ0_length_8abf5_10

set_option maxHeartbeats 4000000 in
set_option maxRecDepth 100000 in
theorem kJ0_isLatin1_aae02 (l : Launch) (D : va_G) (ea : EA) (i : Nat) (hi : i < 7) : PEi l yJ0_isLatin1_aae02 wsJ0_isLatin1_aae02 ({ frames := 0, cells := 0, slots := 0, locals := 0 } : Room) [.ref (eK ea i)] D ([]) [] ea (bI true) := by
  refine PEi_of (cc := cJ0_isLatin1_aae02) (maxL := 1) (ret := some .boolean) (by decide +kernel) rfl (Nat.le_of_ble_eq_true rfl) ?_
  intro p e s m args below meth c hx hb hr hts hown hlocks hml hP hK hN hE ls hl
  have hown : s.vm.findClass RJ0 = some m.cls := hown
  have hl : lv_has ls 1 [(0, .ref (eK ea i))] := hl
  have hS : va_S (va_A [] s.heap.size) s.heap s.heap [] := va_S.rf
  have hA := wk_hA [] s.heap.size
  have hD9 : True := trivial
  refine va_gets hx hb hE.st.2.1 hS hown (hts (.fieldLink RJ0 38 "java/lang/String" "COMPACT_STRINGS" "Z") (by decide +kernel)) (fun _ h9 => h9) dJ0_isLatin1_aae02_0 ?_
  refine wv_ti (y := bI true) rfl ?_
  refine wv_ifeqB (tgt := 17) hx hb dJ0_isLatin1_aae02_3 (by decide) (fun h => by cases h) (fun _ => ?_)
  refine lv_aload_n hx hb dJ0_isLatin1_aae02_6 rfl (lv_at hl 0 rfl) ?_
  refine vk_getf hx hb (hE.st.1.1 i (by omega)).2.1 hS hown (hts (.fieldLink RJ0 15 "java/lang/String" "coder" "B") (by decide +kernel)) (fun _ h9 => h9) dJ0_isLatin1_aae02_7 ?_
  refine wv_ti (y := nI 0) rfl ?_
  refine lv_if_ne (tgt := 17) hx hb dJ0_isLatin1_aae02_10 (by decide) (fun h => absurd h (by decide)) (fun _ => ?_)
  refine lv_iconst (v := nI 1) hx hb dJ0_isLatin1_aae02_13 (by decide) ?_
  refine lv_goto (tgt := 18) hx hb dJ0_isLatin1_aae02_14 (by decide) ?_
  exact wv_zretP (b := true) hx hb hr hlocks hS (rfl : nI 1 = bI true) (by first | rfl | (simp [bI, *]; done) | (simp_all [bI]; done)) dJ0_isLatin1_aae02_18

set_option maxHeartbeats 4000000 in
set_option maxRecDepth 100000 in
theorem kJ3_checkIndex_8e157_null (l : Launch) (D : va_G) (k : Nat) (n : Nat) (hk : k < n) (hn : n < 2 ^ 31) : PMi l yJ3_checkIndex_8e157 wsJ3_checkIndex_8e157 ({ frames := 0, cells := 0, slots := 0, locals := 0 } : Room) [.int (nI k), .int (nI n), .null] D ([]) [] (nI k) := by
  refine PMi_of (cc := cJ3_checkIndex_8e157) (maxL := 3) (ret := some .int) (by decide +kernel) rfl (Nat.le_of_ble_eq_true rfl) ?_
  intro p e s m args below meth c hx hb hr hts hown hlocks hml hP hK hN ls hl
  have hown : s.vm.findClass RJ3 = some m.cls := hown
  have hl : lv_has ls 3 [(0, .int (nI k)), (1, .int (nI n)), (2, .null)] := hl
  have hS : va_S (va_A [] s.heap.size) s.heap s.heap [] := va_S.rf
  have hA := wk_hA [] s.heap.size
  have hD9 : True := trivial
  refine lv_iload_n hx hb dJ3_checkIndex_8e157_0 rfl (lv_at hl 0 rfl) ?_
  refine wv_if_lt hx hb (by omega) dJ3_checkIndex_8e157_1 (tgt := 9) (by decide) ?_
  refine lv_iload_n hx hb dJ3_checkIndex_8e157_4 rfl (lv_at hl 0 rfl) ?_
  refine lv_iload_n hx hb dJ3_checkIndex_8e157_5 rfl (lv_at hl 1 rfl) ?_
  refine wv_icmp_lt (tgt := 16) hx hb (by omega) (by omega) dJ3_checkIndex_8e157_6 (by decide) (fun c6 => ?_) (fun c6 => by exfalso; omega)
  refine lv_iload_n hx hb dJ3_checkIndex_8e157_16 rfl (lv_at hl 0 rfl) ?_
  exact wv_iretP hx hb hr hlocks hS rfl dJ3_checkIndex_8e157_17

set_option maxHeartbeats 4000000 in
set_option maxRecDepth 100000 in
theorem kJ3_checkIndex_8e157 (l : Launch) (D : va_G) (k : Nat) (n : Nat) (z : Nat) (hk : k < n) (hn : n < 2 ^ 31) : PMi l yJ3_checkIndex_8e157 wsJ3_checkIndex_8e157 ({ frames := 0, cells := 0, slots := 0, locals := 0 } : Room) [.int (nI k), .int (nI n), .ref z] D ([]) [] (nI k) := by
  refine PMi_of (cc := cJ3_checkIndex_8e157) (maxL := 3) (ret := some .int) (by decide +kernel) rfl (Nat.le_of_ble_eq_true rfl) ?_
  intro p e s m args below meth c hx hb hr hts hown hlocks hml hP hK hN ls hl
  have hown : s.vm.findClass RJ3 = some m.cls := hown
  have hl : lv_has ls 3 [(0, .int (nI k)), (1, .int (nI n)), (2, .ref z)] := hl
  have hS : va_S (va_A [] s.heap.size) s.heap s.heap [] := va_S.rf
  have hA := wk_hA [] s.heap.size
  have hD9 : True := trivial
  refine lv_iload_n hx hb dJ3_checkIndex_8e157_0 rfl (lv_at hl 0 rfl) ?_
  refine wv_if_lt hx hb (by omega) dJ3_checkIndex_8e157_1 (tgt := 9) (by decide) ?_
  refine lv_iload_n hx hb dJ3_checkIndex_8e157_4 rfl (lv_at hl 0 rfl) ?_
  refine lv_iload_n hx hb dJ3_checkIndex_8e157_5 rfl (lv_at hl 1 rfl) ?_
  refine wv_icmp_lt (tgt := 16) hx hb (by omega) (by omega) dJ3_checkIndex_8e157_6 (by decide) (fun c6 => ?_) (fun c6 => by exfalso; omega)
  refine lv_iload_n hx hb dJ3_checkIndex_8e157_16 rfl (lv_at hl 0 rfl) ?_
  exact wv_iretP hx hb hr hlocks hS rfl dJ3_checkIndex_8e157_17

set_option maxHeartbeats 4000000 in
set_option maxRecDepth 100000 in
theorem kJ0_checkIndex_df160 (l : Launch) (D : va_G) (ea : EA) (k : Nat) (n : Nat) (hk : k < n) (hn : n < 2 ^ 31) : PEv l yJ0_checkIndex_df160 wsJ0_checkIndex_df160 ({ frames := 1, cells := 0, slots := 0, locals := 22 } : Room) [.int (nI k), .int (nI n)] D ([]) [] ea := by
  refine PEv_of (cc := cJ0_checkIndex_df160) (maxL := 2) (ret := none) (by decide +kernel) rfl (Nat.le_of_ble_eq_true rfl) ?_
  intro p e s m args below meth c hx hb hr hts hown hlocks hml hP hK hN hE ls hl
  have hown : s.vm.findClass RJ0 = some m.cls := hown
  have hl : lv_has ls 2 [(0, .int (nI k)), (1, .int (nI n))] := hl
  have hS : va_S (va_A [] s.heap.size) s.heap s.heap [] := va_S.rf
  have hA := wk_hA [] s.heap.size
  have hD9 : True := trivial
  refine lv_iload_n hx hb dJ0_checkIndex_df160_0 rfl (lv_at hl 0 rfl) ?_
  refine lv_iload_n hx hb dJ0_checkIndex_df160_1 rfl (lv_at hl 1 rfl) ?_
  rcases hE.st.2.2 with hq9 | ⟨tq, hq9⟩
  · skip
    refine va_gets hx hb hq9 hS hown (hts (.fieldLink RJ0 1053 "jdk/internal/util/Preconditions" "SIOOBE_FORMATTER" "Ljava/util/function/BiFunction;") (by decide +kernel)) (fun _ h9 => h9) dJ0_checkIndex_df160_2 ?_
    refine wv_callSi (As := [.int (nI k), .int (nI n), .null]) (rest := []) ⟨hx, hb, hml, hown, hts⟩ (kJ3_checkIndex_8e157_null l D k n (by first | assumption | omega) (by first | assumption | omega)) (va_cwS 3 hts gJ0_checkIndex_df160_J3_checkIndex_8e157 rfl rfl rfl (by decide +kernel) ⟨Nat.le_of_ble_eq_true rfl, Nat.le_of_ble_eq_true rfl⟩) hK hN hP hS hA [] [] rfl rfl rfl hl.1 rfl (Nat.le_of_ble_eq_true rfl) dJ0_checkIndex_df160_5 ⟨Nat.zero_le _, Nat.zero_le _⟩ (fun H locs hz9 hP hS => ?_)
    refine lv_pop hx hb dJ0_checkIndex_df160_8 rfl ?_
    exact wv_vretP hx hb hr hlocks hS dJ0_checkIndex_df160_9
  · skip
    refine va_gets hx hb hq9 hS hown (hts (.fieldLink RJ0 1053 "jdk/internal/util/Preconditions" "SIOOBE_FORMATTER" "Ljava/util/function/BiFunction;") (by decide +kernel)) (fun _ h9 => h9) dJ0_checkIndex_df160_2 ?_
    refine wv_callSi (As := [.int (nI k), .int (nI n), .ref tq]) (rest := []) ⟨hx, hb, hml, hown, hts⟩ (kJ3_checkIndex_8e157 l D k n tq (by first | assumption | omega) (by first | assumption | omega)) (va_cwS 3 hts gJ0_checkIndex_df160_J3_checkIndex_8e157 rfl rfl rfl (by decide +kernel) ⟨Nat.le_of_ble_eq_true rfl, Nat.le_of_ble_eq_true rfl⟩) hK hN hP hS hA [] [] rfl rfl rfl hl.1 rfl (Nat.le_of_ble_eq_true rfl) dJ0_checkIndex_df160_5 ⟨Nat.zero_le _, Nat.zero_le _⟩ (fun H locs hz9 hP hS => ?_)
    refine lv_pop hx hb dJ0_checkIndex_df160_8 rfl ?_
    exact wv_vretP hx hb hr hlocks hS dJ0_checkIndex_df160_9

set_option maxHeartbeats 4000000 in
set_option maxRecDepth 100000 in
theorem kJ1_charAt_3b067 (l : Launch) (D : va_G) (ea : EA) (i : Nat) (k : Nat) (hi : i < 7) (hk : k < wln i) : PEi l yJ1_charAt_3b067 wsJ1_charAt_3b067 ({ frames := 2, cells := 0, slots := 0, locals := 43 } : Room) [.ref (eV ea i), .int (nI k)] D ([]) [] ea (nI (wcc i k)) := by
  refine PEi_of (cc := cJ1_charAt_3b067) (maxL := 2) (ret := some .char) (by decide +kernel) rfl (Nat.le_of_ble_eq_true rfl) ?_
  intro p e s m args below meth c hx hb hr hts hown hlocks hml hP hK hN hE ls hl
  have hown : s.vm.findClass RJ1 = some m.cls := hown
  have hl : lv_has ls 2 [(0, .ref (eV ea i)), (1, .int (nI k))] := hl
  have hS : va_S (va_A [] s.heap.size) s.heap s.heap [] := va_S.rf
  have hA := wk_hA [] s.heap.size
  have hD9 : True := trivial
  have hw9 := (wcc_ok i hi k hk).2.1
  have hl9 := wln_ok i hi
  refine lv_iload_n hx hb dJ1_charAt_3b067_0 rfl (lv_at hl 1 rfl) ?_
  refine lv_aload_n hx hb dJ1_charAt_3b067_1 rfl (lv_at hl 0 rfl) ?_
  refine va_tlen hx hb (hE.st.1.1 i (by omega)).2.2.2 hS (v := nI (wln i)) rfl dJ1_charAt_3b067_2 ?_
  refine wv_callSEv (As := [.int (nI k), .int (nI (wln i))]) (rest := []) ⟨hx, hb, hml, hown, hts⟩ (kJ0_checkIndex_df160 l D ea k (wln i) (by first | assumption | omega) (by first | assumption | omega)) (va_cwS 2 hts gJ1_charAt_3b067_J0_checkIndex_df160 rfl rfl rfl (by decide +kernel) ⟨Nat.le_of_ble_eq_true rfl, Nat.le_of_ble_eq_true rfl⟩) hK hN hE hP hS hA [] [] rfl rfl rfl hl.1 rfl (Nat.le_of_ble_eq_true rfl) dJ1_charAt_3b067_3 ⟨Nat.zero_le _, Nat.zero_le _⟩ (fun H locs hz9 hP hS => ?_)
  refine lv_aload_n hx hb dJ1_charAt_3b067_6 rfl (lv_at hl 0 rfl) ?_
  refine lv_iload_n hx hb dJ1_charAt_3b067_7 rfl (lv_at hl 1 rfl) ?_
  refine va_tb hx hb (hE.st.1.1 i hi).2.2.2 hS (vp_in_nI (n := k) hk (by have := (wln_ok _ hi).2.1; show wln _ < _; omega)) (v := .int (nI (wcc i k))) (by show Value.int ((wbyt.getD _ []).getD (nI _).toNatClampNeg 0) = _; rw [nI_clamp (by omega), (wcc_ok _ hi _ hk).1]) dJ1_charAt_3b067_8 ?_
  refine lv_sipush (v := nI 255) hx hb dJ1_charAt_3b067_9 (by decide) ?_
  refine lv_iand hx hb dJ1_charAt_3b067_12 ?_
  refine wv_ti (y := nI ((wcc i k) % 256)) (by exact fa_mask _ 8) ?_
  refine wv_ti (y := nI (wcc i k)) (by rw [Nat.mod_eq_of_lt (by omega)]) ?_
  refine lv_i2c (v := nI (wcc i k)) hx hb dJ1_charAt_3b067_13 (nI_c2 _ (by omega)) ?_
  exact wv_nretP hx hb hr (nI_c3 _ (by omega)) hlocks hS rfl dJ1_charAt_3b067_14

set_option maxHeartbeats 4000000 in
set_option maxRecDepth 100000 in
theorem kJ0_charAt_5068e (l : Launch) (D : va_G) (ea : EA) (i : Nat) (k : Nat) (hi : i < 7) (hk : k < wln i) : PEi l yJ0_charAt_5068e wsJ0_charAt_5068e ({ frames := 3, cells := 0, slots := 0, locals := 64 } : Room) [.ref (eK ea i), .int (nI k)] D ([]) [] ea (nI (wcc i k)) := by
  refine PEi_of (cc := cJ0_charAt_5068e) (maxL := 2) (ret := some .char) (by decide +kernel) rfl (Nat.le_of_ble_eq_true rfl) ?_
  intro p e s m args below meth c hx hb hr hts hown hlocks hml hP hK hN hE ls hl
  have hown : s.vm.findClass RJ0 = some m.cls := hown
  have hl : lv_has ls 2 [(0, .ref (eK ea i)), (1, .int (nI k))] := hl
  have hS : va_S (va_A [] s.heap.size) s.heap s.heap [] := va_S.rf
  have hA := wk_hA [] s.heap.size
  have hD9 : True := trivial
  have hw9 := (wcc_ok i hi k hk).2.1
  have hl9 := wln_ok i hi
  refine lv_aload_n hx hb dJ0_charAt_5068e_0 rfl (lv_at hl 0 rfl) ?_
  refine wv_callPEi (As := []) (rest := []) ⟨hx, hb, hml, hown, hts⟩ (kJ0_isLatin1_aae02 l D ea i (by first | assumption | omega)) (cwV 0 hts gJ0_charAt_5068e_J0_isLatin1_aae02 rfl rfl rfl (by decide +kernel) ⟨Nat.le_of_ble_eq_true rfl, Nat.le_of_ble_eq_true rfl⟩) hK hN hE hP hS hA [] [] rfl rfl (vk_recv hE.st.1 (i := i) (by omega) hS) rfl hl.1 rfl (Nat.le_of_ble_eq_true rfl) dJ0_charAt_5068e_1 ⟨Nat.zero_le _, Nat.zero_le _⟩ (fun H locs hz9 hP hS => ?_)
  refine wv_ifeqB (tgt := 16) hx hb dJ0_charAt_5068e_4 (by decide) (fun h => by cases h) (fun _ => ?_)
  refine lv_aload_n hx hb dJ0_charAt_5068e_7 rfl (lv_at hl 0 rfl) ?_
  refine vk_getf hx hb (hE.st.1.1 i (by omega)).2.2.1 hS hown (hts (.fieldLink RJ0 9 "java/lang/String" "value" "[B") (by decide +kernel)) (fun _ h9 => h9) dJ0_charAt_5068e_8 ?_
  refine lv_iload_n hx hb dJ0_charAt_5068e_11 rfl (lv_at hl 1 rfl) ?_
  refine wv_callSEi (As := [.ref (eV ea i), .int (nI k)]) (rest := []) ⟨hx, hb, hml, hown, hts⟩ (kJ1_charAt_3b067 l D ea i k (by first | assumption | omega) (by first | assumption | omega)) (va_cwS 2 hts gJ0_charAt_5068e_J1_charAt_3b067 rfl rfl rfl (by decide +kernel) ⟨Nat.le_of_ble_eq_true rfl, Nat.le_of_ble_eq_true rfl⟩) hK hN hE hP hS hA [] [] rfl rfl rfl hl.1 rfl (Nat.le_of_ble_eq_true rfl) dJ0_charAt_5068e_12 ⟨Nat.zero_le _, Nat.zero_le _⟩ (fun H locs hz9 hP hS => ?_)
  exact wv_nretP hx hb hr (nI_c3 _ (by omega)) hlocks hS rfl dJ0_charAt_5068e_15

set_option maxHeartbeats 4000000 in
set_option maxRecDepth 100000 in
theorem kX1_byteAt (l : Launch) (D : va_G) (co : Nat) (ba : Nat) (cB : ClassId) (tx : Nat → Nat) (ln : Nat) (nx : Nat) (am : Int32) (wd : Value) (nb : Int32) (vl : Int64) (k : Nat) (hln : ln ≤ 150) (hk : k < ln) : PMi l yX1_byteAt wsX1_byteAt ({ frames := 0, cells := 0, slots := 0, locals := 0 } : Room) [.ref co, .int (nI k)] D (CmdC co ba cB (tN tx) ln nx am wd nb vl) [(cB, .byte)] (nI (tx k)) := by
  refine PMi_of (cc := cX1_byteAt) (maxL := 2) (ret := some .int) (by decide +kernel) rfl (Nat.le_of_ble_eq_true rfl) ?_
  intro p e s m args below meth c hx hb hr hts hown hlocks hml hP hK hN ls hl
  have hown : s.vm.findClass RX1 = some m.cls := hown
  have hl : lv_has ls 2 [(0, .ref co), (1, .int (nI k))] := hl
  have hS : va_S (va_A [] s.heap.size) s.heap s.heap [] := va_S.rf
  have hA := wk_hA [] s.heap.size
  have hD9 : True := trivial
  have hinX1 : ∀ w ∈ wsX10, w ∈ wsX1_byteAt := by decide +kernel
  refine lv_iload_n hx hb dX1_byteAt_0 rfl (lv_at hl 1 rfl) ?_
  refine wv_if_lt hx hb (by omega) dX1_byteAt_1 (tgt := 28) (by decide) ?_
  refine lv_iload_n hx hb dX1_byteAt_4 rfl (lv_at hl 1 rfl) ?_
  refine lv_aload_n hx hb dX1_byteAt_5 rfl (lv_at hl 0 rfl) ?_
  refine va_get (D := D) (ci := 0) (C := RX1) (T := TX1) (N := 7) hx hb hts hinX1 hown hK hP 0 rfl rfl 1 (by decide) (hts (.fieldLink RX1 15 "NearRanks$CommandText" "length" "I") (by decide +kernel)) (fun _ h9 => h9) rfl dX1_byteAt_6 ?_
  refine wv_icmp_ge (tgt := 28) hx hb (by omega) (by omega) dX1_byteAt_9 (by decide) (fun c9 => by exfalso; omega) (fun c9 => ?_)
  refine lv_iload_n hx hb dX1_byteAt_12 rfl (lv_at hl 1 rfl) ?_
  refine lv_sipush (v := nI 150) hx hb dX1_byteAt_13 (by decide) ?_
  refine wv_icmp_ge (tgt := 28) hx hb (by omega) (by omega) dX1_byteAt_16 (by decide) (fun c16 => by exfalso; omega) (fun c16 => ?_)
  refine lv_aload_n hx hb dX1_byteAt_19 rfl (lv_at hl 0 rfl) ?_
  refine va_get (D := D) (ci := 0) (C := RX1) (T := TX1) (N := 7) hx hb hts hinX1 hown hK hP 0 rfl rfl 0 (by decide) (hts (.fieldLink RX1 9 "NearRanks$CommandText" "bytes" "[B") (by decide +kernel)) (fun _ h9 => h9) rfl dX1_byteAt_20 ?_
  refine lv_iload_n hx hb dX1_byteAt_23 rfl (lv_at hl 1 rfl) ?_
  refine wv_bald hx hb hK hP 1 0 rfl rfl (k := k) (by omega) (by decide) dX1_byteAt_24 ?_
  refine wv_ti (y := nI (tx k)) rfl ?_
  refine lv_goto (tgt := 29) hx hb dX1_byteAt_25 (by decide) ?_
  exact wv_iretP hx hb hr hlocks hS rfl dX1_byteAt_29

set_option maxHeartbeats 4000000 in
set_option maxRecDepth 100000 in
theorem kX1_byteAt_out (l : Launch) (D : va_G) (co : Nat) (ba : Nat) (cB : ClassId) (tx : Nat → Nat) (ln : Nat) (nx : Nat) (am : Int32) (wd : Value) (nb : Int32) (vl : Int64) (k : Nat) (hln : ln ≤ 150) (hk : ln ≤ k) (hk2 : k < 2 ^ 31) : PMi l yX1_byteAt wsX1_byteAt ({ frames := 0, cells := 0, slots := 0, locals := 0 } : Room) [.ref co, .int (nI k)] D (CmdC co ba cB (tN tx) ln nx am wd nb vl) [(cB, .byte)] ((-1)) := by
  refine PMi_of (cc := cX1_byteAt) (maxL := 2) (ret := some .int) (by decide +kernel) rfl (Nat.le_of_ble_eq_true rfl) ?_
  intro p e s m args below meth c hx hb hr hts hown hlocks hml hP hK hN ls hl
  have hown : s.vm.findClass RX1 = some m.cls := hown
  have hl : lv_has ls 2 [(0, .ref co), (1, .int (nI k))] := hl
  have hS : va_S (va_A [] s.heap.size) s.heap s.heap [] := va_S.rf
  have hA := wk_hA [] s.heap.size
  have hD9 : True := trivial
  have hinX1 : ∀ w ∈ wsX10, w ∈ wsX1_byteAt := by decide +kernel
  refine lv_iload_n hx hb dX1_byteAt_0 rfl (lv_at hl 1 rfl) ?_
  refine wv_if_lt hx hb (by omega) dX1_byteAt_1 (tgt := 28) (by decide) ?_
  refine lv_iload_n hx hb dX1_byteAt_4 rfl (lv_at hl 1 rfl) ?_
  refine lv_aload_n hx hb dX1_byteAt_5 rfl (lv_at hl 0 rfl) ?_
  refine va_get (D := D) (ci := 0) (C := RX1) (T := TX1) (N := 7) hx hb hts hinX1 hown hK hP 0 rfl rfl 1 (by decide) (hts (.fieldLink RX1 15 "NearRanks$CommandText" "length" "I") (by decide +kernel)) (fun _ h9 => h9) rfl dX1_byteAt_6 ?_
  refine wv_icmp_ge (tgt := 28) hx hb (by omega) (by omega) dX1_byteAt_9 (by decide) (fun c9 => ?_) (fun c9 => by exfalso; omega)
  refine lv_iconst (v := (-1)) hx hb dX1_byteAt_28 (by decide) ?_
  exact wv_iretP hx hb hr hlocks hS rfl dX1_byteAt_29

set_option maxHeartbeats 4000000 in
set_option maxRecDepth 100000 in
theorem kX1_isLetter (l : Launch) (D : va_G) (k : Nat) (hk : k < 128) : PMi l yX1_isLetter wsX1_isLetter ({ frames := 0, cells := 0, slots := 0, locals := 0 } : Room) [.int (nI k)] D ([]) [] (bI (decide (97 ≤ k) && decide (k ≤ 122))) := by
  refine PMi_of (cc := cX1_isLetter) (maxL := 1) (ret := some .boolean) (by decide +kernel) rfl (Nat.le_of_ble_eq_true rfl) ?_
  intro p e s m args below meth c hx hb hr hts hown hlocks hml hP hK hN ls hl
  have hown : s.vm.findClass RX1 = some m.cls := hown
  have hl : lv_has ls 1 [(0, .int (nI k))] := hl
  have hS : va_S (va_A [] s.heap.size) s.heap s.heap [] := va_S.rf
  have hA := wk_hA [] s.heap.size
  have hD9 : True := trivial
  refine lv_iload_n hx hb dX1_isLetter_0 rfl (lv_at hl 0 rfl) ?_
  refine lv_bipush (v := nI 97) hx hb dX1_isLetter_1 (by decide) ?_
  refine wv_icmp_lt (tgt := 16) hx hb (by omega) (by omega) dX1_isLetter_3 (by decide) (fun c3 => ?_) (fun c3 => ?_)
  · skip
    refine lv_iconst (v := nI 0) hx hb dX1_isLetter_16 (by decide) ?_
    exact wv_zretP (b := false) hx hb hr hlocks hS (rfl : nI 0 = bI false) (by first | (rw [decide_eq_true (by omega), decide_eq_true (by omega)]; rfl) | (rw [decide_eq_false (show ¬ 97 ≤ k by omega)]; rfl) | (rw [decide_eq_false (show ¬ k ≤ 122 by omega), Bool.and_false]; rfl)) dX1_isLetter_17
  · skip
    refine lv_iload_n hx hb dX1_isLetter_6 rfl (lv_at hl 0 rfl) ?_
    refine lv_bipush (v := nI 122) hx hb dX1_isLetter_7 (by decide) ?_
    refine wv_icmp_gt (tgt := 16) hx hb (by omega) (by omega) dX1_isLetter_9 (by decide) (fun c9 => ?_) (fun c9 => ?_)
    · skip
      refine lv_iconst (v := nI 0) hx hb dX1_isLetter_16 (by decide) ?_
      exact wv_zretP (b := false) hx hb hr hlocks hS (rfl : nI 0 = bI false) (by first | (rw [decide_eq_true (by omega), decide_eq_true (by omega)]; rfl) | (rw [decide_eq_false (show ¬ 97 ≤ k by omega)]; rfl) | (rw [decide_eq_false (show ¬ k ≤ 122 by omega), Bool.and_false]; rfl)) dX1_isLetter_17
    · skip
      refine lv_iconst (v := nI 1) hx hb dX1_isLetter_12 (by decide) ?_
      refine lv_goto (tgt := 17) hx hb dX1_isLetter_13 (by decide) ?_
      exact wv_zretP (b := true) hx hb hr hlocks hS (rfl : nI 1 = bI true) (by first | (rw [decide_eq_true (by omega), decide_eq_true (by omega)]; rfl) | (rw [decide_eq_false (show ¬ 97 ≤ k by omega)]; rfl) | (rw [decide_eq_false (show ¬ k ≤ 122 by omega), Bool.and_false]; rfl)) dX1_isLetter_17

set_option maxHeartbeats 4000000 in
set_option maxRecDepth 100000 in
theorem kX1_isDigit (l : Launch) (D : va_G) (k : Nat) (hk : k < 128) : PMi l yX1_isDigit wsX1_isDigit ({ frames := 0, cells := 0, slots := 0, locals := 0 } : Room) [.int (nI k)] D ([]) [] (bI (decide (48 ≤ k) && decide (k ≤ 57))) := by
  refine PMi_of (cc := cX1_isDigit) (maxL := 1) (ret := some .boolean) (by decide +kernel) rfl (Nat.le_of_ble_eq_true rfl) ?_
  intro p e s m args below meth c hx hb hr hts hown hlocks hml hP hK hN ls hl
  have hown : s.vm.findClass RX1 = some m.cls := hown
  have hl : lv_has ls 1 [(0, .int (nI k))] := hl
  have hS : va_S (va_A [] s.heap.size) s.heap s.heap [] := va_S.rf
  have hA := wk_hA [] s.heap.size
  have hD9 : True := trivial
  refine lv_iload_n hx hb dX1_isDigit_0 rfl (lv_at hl 0 rfl) ?_
  refine lv_bipush (v := nI 48) hx hb dX1_isDigit_1 (by decide) ?_
  refine wv_icmp_lt (tgt := 16) hx hb (by omega) (by omega) dX1_isDigit_3 (by decide) (fun c3 => ?_) (fun c3 => ?_)
  · skip
    refine lv_iconst (v := nI 0) hx hb dX1_isDigit_16 (by decide) ?_
    exact wv_zretP (b := false) hx hb hr hlocks hS (rfl : nI 0 = bI false) (by first | (rw [decide_eq_true (by omega), decide_eq_true (by omega)]; rfl) | (rw [decide_eq_false (show ¬ 48 ≤ k by omega)]; rfl) | (rw [decide_eq_false (show ¬ k ≤ 57 by omega), Bool.and_false]; rfl)) dX1_isDigit_17
  · skip
    refine lv_iload_n hx hb dX1_isDigit_6 rfl (lv_at hl 0 rfl) ?_
    refine lv_bipush (v := nI 57) hx hb dX1_isDigit_7 (by decide) ?_
    refine wv_icmp_gt (tgt := 16) hx hb (by omega) (by omega) dX1_isDigit_9 (by decide) (fun c9 => ?_) (fun c9 => ?_)
    · skip
      refine lv_iconst (v := nI 0) hx hb dX1_isDigit_16 (by decide) ?_
      exact wv_zretP (b := false) hx hb hr hlocks hS (rfl : nI 0 = bI false) (by first | (rw [decide_eq_true (by omega), decide_eq_true (by omega)]; rfl) | (rw [decide_eq_false (show ¬ 48 ≤ k by omega)]; rfl) | (rw [decide_eq_false (show ¬ k ≤ 57 by omega), Bool.and_false]; rfl)) dX1_isDigit_17
    · skip
      refine lv_iconst (v := nI 1) hx hb dX1_isDigit_12 (by decide) ?_
      refine lv_goto (tgt := 17) hx hb dX1_isDigit_13 (by decide) ?_
      exact wv_zretP (b := true) hx hb hr hlocks hS (rfl : nI 1 = bI true) (by first | (rw [decide_eq_true (by omega), decide_eq_true (by omega)]; rfl) | (rw [decide_eq_false (show ¬ 48 ≤ k by omega)]; rfl) | (rw [decide_eq_false (show ¬ k ≤ 57 by omega), Bool.and_false]; rfl)) dX1_isDigit_17

set_option maxHeartbeats 4000000 in
set_option maxRecDepth 100000 in
theorem kX1_isDigit_out (l : Launch) (D : va_G)   : PMi l yX1_isDigit wsX1_isDigit ({ frames := 0, cells := 0, slots := 0, locals := 0 } : Room) [.int (-1)] D ([]) [] (bI false) := by
  refine PMi_of (cc := cX1_isDigit) (maxL := 1) (ret := some .boolean) (by decide +kernel) rfl (Nat.le_of_ble_eq_true rfl) ?_
  intro p e s m args below meth c hx hb hr hts hown hlocks hml hP hK hN ls hl
  have hown : s.vm.findClass RX1 = some m.cls := hown
  have hl : lv_has ls 1 [(0, .int (-1))] := hl
  have hS : va_S (va_A [] s.heap.size) s.heap s.heap [] := va_S.rf
  have hA := wk_hA [] s.heap.size
  have hD9 : True := trivial
  refine lv_iload_n hx hb dX1_isDigit_0 rfl (lv_at hl 0 rfl) ?_
  refine lv_bipush (v := nI 48) hx hb dX1_isDigit_1 (by decide) ?_
  refine lv_icmp_lt (tgt := 16) hx hb dX1_isDigit_3 (by decide) (fun c3 => ?_) (fun c3 => by exfalso; revert c3; decide)
  refine lv_iconst (v := nI 0) hx hb dX1_isDigit_16 (by decide) ?_
  exact wv_zretP (b := false) hx hb hr hlocks hS (rfl : nI 0 = bI false) (by first | rfl | (simp [bI, *]; done) | (simp_all [bI]; done)) dX1_isDigit_17

set_option maxHeartbeats 4000000 in
set_option maxRecDepth 100000 in
theorem kX1_skipSpaces (l : Launch) (D : va_G) (co : Nat) (ba : Nat) (cB : ClassId) (tx : Nat → Nat) (ln : Nat) (nx : Nat) (am : Int32) (wd : Value) (nb : Int32) (vl : Int64) (hln : ln ≤ 150) (hnx : nx ≤ ln) (htx : ∀ k, tx k < 128) : MMv l yX1_skipSpaces wsX1_skipSpaces ({ frames := 1, cells := 0, slots := 0, locals := 21 } : Room) [.ref co] D (CmdC co ba cB (tN tx) ln nx am wd nb vl) [(cB, .byte)] (CmdC co ba cB (tN tx) ln (skS tx ln nx) am wd nb vl) := by
  refine MMv_of (cc := cX1_skipSpaces) (maxL := 1) (ret := none) (by decide +kernel) rfl (Nat.le_of_ble_eq_true rfl) ?_
  intro p e s m args below meth c hx hb hr hts hown hlocks hml hP hK hN hD ls hl
  have hown : s.vm.findClass RX1 = some m.cls := hown
  have hl : lv_has ls 1 [(0, .ref co)] := hl
  have hS : va_S (va_A (CmdC co ba cB (tN tx) ln nx am wd nb vl) s.heap.size) s.heap s.heap [] := va_S.rf
  have hA := wk_hA (CmdC co ba cB (tN tx) ln nx am wd nb vl) s.heap.size
  have hD9 : True := trivial
  have hinX1 : ∀ w ∈ wsX10, w ∈ wsX1_skipSpaces := by decide +kernel
  have loop0 : ∀ (K : Nat) (p1 : Nat), ln - p1 < K → p1 ≤ ln → skS tx ln nx = skS tx ln p1 → ∀ (H : Heap) (locs : List Loc), va_P D vwCl (CmdC co ba cB (tN tx) ln p1 am wd nb vl) H → va_D (va_A (CmdC co ba cB (tN tx) ln nx am wd nb vl) s.heap.size) (CmdC co ba cB (tN tx) ln p1 am wd nb vl) → va_S (va_A (CmdC co ba cB (tN tx) ln nx am wd nb vl) s.heap.size) s.heap H locs → ∀ ls : Array Slot, lv_has ls 1 [(0, .ref co)] → W p l e ({ frames := 1, cells := 0, slots := 0, locals := 21 } : Room) s m args below meth c H locs 0 0 (ZMv below args s D (CmdC co ba cB (tN tx) ln nx am wd nb vl) (CmdC co ba cB (tN tx) ln (skS tx ln nx) am wd nb vl)) (F0 m 0 ls []) := by
    intro K
    induction K with
    | zero => intro p1 hK0; exact absurd hK0 (Nat.not_lt_zero _)
    | succ K ih0 =>
      intro p1 hKm hp1 hsk H locs hP hD hS ls hl
      have ht9 := htx p1
      refine lv_aload_n hx hb dX1_skipSpaces_0 rfl (lv_at hl 0 rfl) ?_
      refine va_get (D := D) (ci := 0) (C := RX1) (T := TX1) (N := 7) hx hb hts hinX1 hown hK hP 0 rfl rfl 2 (by decide) (hts (.fieldLink RX1 32 "NearRanks$CommandText" "next" "I") (by decide +kernel)) (fun _ h9 => h9) rfl dX1_skipSpaces_1 ?_
      refine lv_aload_n hx hb dX1_skipSpaces_4 rfl (lv_at hl 0 rfl) ?_
      refine va_get (D := D) (ci := 0) (C := RX1) (T := TX1) (N := 7) hx hb hts hinX1 hown hK hP 0 rfl rfl 1 (by decide) (hts (.fieldLink RX1 15 "NearRanks$CommandText" "length" "I") (by decide +kernel)) (fun _ h9 => h9) rfl dX1_skipSpaces_5 ?_
      refine wv_icmp_ge (tgt := 37) hx hb (by omega) (by omega) dX1_skipSpaces_8 (by decide) (fun c8 => ?_) (fun c8 => ?_)
      · skip
        have he : p1 = ln := by omega
        have ew0_nx : skS tx ln nx = p1 := by first | (rw [hsk, skS_f hf]; done) | (rw [hsk, skS_e (show ln ≤ p1 by omega)]; done)
        exact wv_vretM hx hb hr hlocks hP hD hS (by rw [ew0_nx]) dX1_skipSpaces_37
      · skip
        refine lv_aload_n hx hb dX1_skipSpaces_11 rfl (lv_at hl 0 rfl) ?_
        refine lv_aload_n hx hb dX1_skipSpaces_12 rfl (lv_at hl 0 rfl) ?_
        refine va_get (D := D) (ci := 0) (C := RX1) (T := TX1) (N := 7) hx hb hts hinX1 hown hK hP 0 rfl rfl 2 (by decide) (hts (.fieldLink RX1 32 "NearRanks$CommandText" "next" "I") (by decide +kernel)) (fun _ h9 => h9) rfl dX1_skipSpaces_13 ?_
        refine wv_callPi (As := [.int (nI p1)]) (rest := []) ⟨hx, hb, hml, hown, hts⟩ (kX1_byteAt l D co ba cB tx ln p1 am wd nb vl p1 (by first | assumption | omega) (by first | assumption | omega)) (cwV 1 hts gX1_skipSpaces_X1_byteAt rfl rfl rfl (by decide +kernel) ⟨Nat.le_of_ble_eq_true rfl, Nat.le_of_ble_eq_true rfl⟩) hK hN hP hS hA [0, 1] [0] rfl rfl 0 0 rfl rfl rfl rfl hl.1 rfl (Nat.le_of_ble_eq_true rfl) dX1_skipSpaces_16 ⟨Nat.zero_le _, Nat.zero_le _⟩ (fun H locs hz9 hP hS => ?_)
        refine lv_bipush (v := nI 32) hx hb dX1_skipSpaces_19 (by decide) ?_
        refine wv_icmp_ne (tgt := 37) hx hb (by omega) (by omega) dX1_skipSpaces_21 (by decide) (fun c21 => ?_) (fun c21 => ?_)
        · skip
          have hf : isA tx ln 32 32 p1 = false := isA_f (by omega)
          have ew0_nx : skS tx ln nx = p1 := by first | (rw [hsk, skS_f hf]; done) | (rw [hsk, skS_e (show ln ≤ p1 by omega)]; done)
          exact wv_vretM hx hb hr hlocks hP hD hS (by rw [ew0_nx]) dX1_skipSpaces_37
        · skip
          have ht : isA tx ln 32 32 p1 = true := isA_t (by omega) (by omega) (by omega)
          refine lv_aload_n hx hb dX1_skipSpaces_24 rfl (lv_at hl 0 rfl) ?_
          refine lv_dup hx hb dX1_skipSpaces_25 rfl ?_
          refine va_get (D := D) (ci := 0) (C := RX1) (T := TX1) (N := 7) hx hb hts hinX1 hown hK hP 0 rfl rfl 2 (by decide) (hts (.fieldLink RX1 32 "NearRanks$CommandText" "next" "I") (by decide +kernel)) (fun _ h9 => h9) rfl dX1_skipSpaces_26 ?_
          refine lv_iconst (v := nI 1) hx hb dX1_skipSpaces_29 (by decide) ?_
          refine lv_iadd hx hb dX1_skipSpaces_30 ?_
          refine wv_ti (nI_add _ _) ?_
          refine va_put (D := D) (ci := 0) (v := .int (nI (p1 + 1))) (ty := .int) (C := RX1) (T := TX1) (N := 7) hx hb hts hinX1 tyX1 tyX1_ok nmX1 hown hK hP hD hS 0 rfl rfl 2 (by decide) (hts (.fieldLink RX1 32 "NearRanks$CommandText" "next" "I") (by decide +kernel)) (fun _ h9 => h9) rfl (by decide +kernel) rfl rfl (Nat.le_of_ble_eq_true rfl) dX1_skipSpaces_31 (fun H locs hP hD hS => ?_)
          have hP : va_P D vwCl (CmdC co ba cB (tN tx) ln (p1 + 1) am wd nb vl) H := hP
          have hD : va_D _ (CmdC co ba cB (tN tx) ln (p1 + 1) am wd nb vl) := hD
          refine lv_goto (tgt := 0) hx hb dX1_skipSpaces_34 (by decide) ?_
          exact ih0 (p1 + 1) (by omega) (by first | assumption | omega) (by rw [hsk]; exact skS_t (by omega) ht) _ _ hP hD hS ls (lv_sub hl [0] rfl)
  exact loop0 (ln - nx + 1) nx (by omega) (by first | assumption | omega) (by rfl) _ _ hP hD hS ls (lv_sub hl [0] rfl)

set_option maxHeartbeats 4000000 in
set_option maxRecDepth 100000 in
theorem kX1_skipLetters (l : Launch) (D : va_G) (co : Nat) (ba : Nat) (cB : ClassId) (tx : Nat → Nat) (ln : Nat) (nx : Nat) (am : Int32) (wd : Value) (nb : Int32) (vl : Int64) (hln : ln ≤ 150) (hnx : nx ≤ ln) (htx : ∀ k, tx k < 128) : MMv l yX1_skipLetters wsX1_skipLetters ({ frames := 1, cells := 0, slots := 0, locals := 21 } : Room) [.ref co] D (CmdC co ba cB (tN tx) ln nx am wd nb vl) [(cB, .byte)] (CmdC co ba cB (tN tx) ln (skL tx ln nx) am wd nb vl) := by
  refine MMv_of (cc := cX1_skipLetters) (maxL := 1) (ret := none) (by decide +kernel) rfl (Nat.le_of_ble_eq_true rfl) ?_
  intro p e s m args below meth c hx hb hr hts hown hlocks hml hP hK hN hD ls hl
  have hown : s.vm.findClass RX1 = some m.cls := hown
  have hl : lv_has ls 1 [(0, .ref co)] := hl
  have hS : va_S (va_A (CmdC co ba cB (tN tx) ln nx am wd nb vl) s.heap.size) s.heap s.heap [] := va_S.rf
  have hA := wk_hA (CmdC co ba cB (tN tx) ln nx am wd nb vl) s.heap.size
  have hD9 : True := trivial
  have hinX1 : ∀ w ∈ wsX10, w ∈ wsX1_skipLetters := by decide +kernel
  have loop0 : ∀ (K : Nat) (p1 : Nat), ln - p1 < K → p1 ≤ ln → skL tx ln nx = skL tx ln p1 → ∀ (H : Heap) (locs : List Loc), va_P D vwCl (CmdC co ba cB (tN tx) ln p1 am wd nb vl) H → va_D (va_A (CmdC co ba cB (tN tx) ln nx am wd nb vl) s.heap.size) (CmdC co ba cB (tN tx) ln p1 am wd nb vl) → va_S (va_A (CmdC co ba cB (tN tx) ln nx am wd nb vl) s.heap.size) s.heap H locs → ∀ ls : Array Slot, lv_has ls 1 [(0, .ref co)] → W p l e ({ frames := 1, cells := 0, slots := 0, locals := 21 } : Room) s m args below meth c H locs 0 0 (ZMv below args s D (CmdC co ba cB (tN tx) ln nx am wd nb vl) (CmdC co ba cB (tN tx) ln (skL tx ln nx) am wd nb vl)) (F0 m 0 ls []) := by
    intro K
    induction K with
    | zero => intro p1 hK0; exact absurd hK0 (Nat.not_lt_zero _)
    | succ K ih0 =>
      intro p1 hKm hp1 hsk H locs hP hD hS ls hl
      have ht9 := htx p1
      refine lv_aload_n hx hb dX1_skipLetters_0 rfl (lv_at hl 0 rfl) ?_
      refine va_get (D := D) (ci := 0) (C := RX1) (T := TX1) (N := 7) hx hb hts hinX1 hown hK hP 0 rfl rfl 2 (by decide) (hts (.fieldLink RX1 32 "NearRanks$CommandText" "next" "I") (by decide +kernel)) (fun _ h9 => h9) rfl dX1_skipLetters_1 ?_
      refine lv_aload_n hx hb dX1_skipLetters_4 rfl (lv_at hl 0 rfl) ?_
      refine va_get (D := D) (ci := 0) (C := RX1) (T := TX1) (N := 7) hx hb hts hinX1 hown hK hP 0 rfl rfl 1 (by decide) (hts (.fieldLink RX1 15 "NearRanks$CommandText" "length" "I") (by decide +kernel)) (fun _ h9 => h9) rfl dX1_skipLetters_5 ?_
      refine wv_icmp_ge (tgt := 38) hx hb (by omega) (by omega) dX1_skipLetters_8 (by decide) (fun c8 => ?_) (fun c8 => ?_)
      · skip
        have he : p1 = ln := by omega
        have ew0_nx : skL tx ln nx = p1 := by first | (rw [hsk, skL_f hf]; done) | (rw [hsk, skL_e (show ln ≤ p1 by omega)]; done)
        exact wv_vretM hx hb hr hlocks hP hD hS (by rw [ew0_nx]) dX1_skipLetters_38
      · skip
        refine lv_aload_n hx hb dX1_skipLetters_11 rfl (lv_at hl 0 rfl) ?_
        refine lv_aload_n hx hb dX1_skipLetters_12 rfl (lv_at hl 0 rfl) ?_
        refine va_get (D := D) (ci := 0) (C := RX1) (T := TX1) (N := 7) hx hb hts hinX1 hown hK hP 0 rfl rfl 2 (by decide) (hts (.fieldLink RX1 32 "NearRanks$CommandText" "next" "I") (by decide +kernel)) (fun _ h9 => h9) rfl dX1_skipLetters_13 ?_
        refine wv_callPi (As := [.int (nI p1)]) (rest := []) ⟨hx, hb, hml, hown, hts⟩ (kX1_byteAt l D co ba cB tx ln p1 am wd nb vl p1 (by first | assumption | omega) (by first | assumption | omega)) (cwV 1 hts gX1_skipLetters_X1_byteAt rfl rfl rfl (by decide +kernel) ⟨Nat.le_of_ble_eq_true rfl, Nat.le_of_ble_eq_true rfl⟩) hK hN hP hS hA [0, 1] [0] rfl rfl 0 0 rfl rfl rfl rfl hl.1 rfl (Nat.le_of_ble_eq_true rfl) dX1_skipLetters_16 ⟨Nat.zero_le _, Nat.zero_le _⟩ (fun H locs hz9 hP hS => ?_)
        refine wv_callSi (As := [.int (nI (tx p1))]) (rest := []) ⟨hx, hb, hml, hown, hts⟩ (kX1_isLetter l D (tx p1) (by first | assumption | omega)) (va_cwS 1 hts gX1_skipLetters_X1_isLetter rfl rfl rfl (by decide +kernel) ⟨Nat.le_of_ble_eq_true rfl, Nat.le_of_ble_eq_true rfl⟩) hK hN hP hS hA [] [] rfl rfl rfl hl.1 rfl (Nat.le_of_ble_eq_true rfl) dX1_skipLetters_19 ⟨Nat.zero_le _, Nat.zero_le _⟩ (fun H locs hz9 hP hS => ?_)
        refine wv_ifeqB (tgt := 38) hx hb dX1_skipLetters_22 (by decide) (fun c22 => ?_) (fun c22 => ?_)
        · skip
          have hf : isA tx ln 97 122 p1 = false := isA_f (by have h9 : ¬ (97 ≤ tx p1 ∧ tx p1 ≤ 122) := (by simpa using c22); omega)
          have ew0_nx : skL tx ln nx = p1 := by first | (rw [hsk, skL_f hf]; done) | (rw [hsk, skL_e (show ln ≤ p1 by omega)]; done)
          exact wv_vretM hx hb hr hlocks hP hD hS (by rw [ew0_nx]) dX1_skipLetters_38
        · skip
          have h9 : 97 ≤ tx p1 ∧ tx p1 ≤ 122 := by simpa using c22
          have ht : isA tx ln 97 122 p1 = true := isA_t (by omega) h9.1 h9.2
          refine lv_aload_n hx hb dX1_skipLetters_25 rfl (lv_at hl 0 rfl) ?_
          refine lv_dup hx hb dX1_skipLetters_26 rfl ?_
          refine va_get (D := D) (ci := 0) (C := RX1) (T := TX1) (N := 7) hx hb hts hinX1 hown hK hP 0 rfl rfl 2 (by decide) (hts (.fieldLink RX1 32 "NearRanks$CommandText" "next" "I") (by decide +kernel)) (fun _ h9 => h9) rfl dX1_skipLetters_27 ?_
          refine lv_iconst (v := nI 1) hx hb dX1_skipLetters_30 (by decide) ?_
          refine lv_iadd hx hb dX1_skipLetters_31 ?_
          refine wv_ti (nI_add _ _) ?_
          refine va_put (D := D) (ci := 0) (v := .int (nI (p1 + 1))) (ty := .int) (C := RX1) (T := TX1) (N := 7) hx hb hts hinX1 tyX1 tyX1_ok nmX1 hown hK hP hD hS 0 rfl rfl 2 (by decide) (hts (.fieldLink RX1 32 "NearRanks$CommandText" "next" "I") (by decide +kernel)) (fun _ h9 => h9) rfl (by decide +kernel) rfl rfl (Nat.le_of_ble_eq_true rfl) dX1_skipLetters_32 (fun H locs hP hD hS => ?_)
          have hP : va_P D vwCl (CmdC co ba cB (tN tx) ln (p1 + 1) am wd nb vl) H := hP
          have hD : va_D _ (CmdC co ba cB (tN tx) ln (p1 + 1) am wd nb vl) := hD
          refine lv_goto (tgt := 0) hx hb dX1_skipLetters_35 (by decide) ?_
          exact ih0 (p1 + 1) (by omega) (by first | assumption | omega) (by rw [hsk]; exact skL_t (by omega) ht) _ _ hP hD hS ls (lv_sub hl [0] rfl)
  exact loop0 (ln - nx + 1) nx (by omega) (by first | assumption | omega) (by rfl) _ _ hP hD hS ls (lv_sub hl [0] rfl)

set_option maxHeartbeats 4000000 in
set_option maxRecDepth 100000 in
theorem kX1_rewind (l : Launch) (D : va_G) (co : Nat) (ba : Nat) (cB : ClassId) (tx : Nat → Nat) (ln : Nat) (nx : Nat) (am : Int32) (wd : Value) (nb : Int32) (vl : Int64)  : MMv l yX1_rewind wsX1_rewind ({ frames := 0, cells := 0, slots := 0, locals := 0 } : Room) [.ref co] D (CmdC co ba cB (tN tx) ln nx am wd nb vl) [(cB, .byte)] (CmdC co ba cB (tN tx) ln 0 am wd nb vl) := by
  refine MMv_of (cc := cX1_rewind) (maxL := 1) (ret := none) (by decide +kernel) rfl (Nat.le_of_ble_eq_true rfl) ?_
  intro p e s m args below meth c hx hb hr hts hown hlocks hml hP hK hN hD ls hl
  have hown : s.vm.findClass RX1 = some m.cls := hown
  have hl : lv_has ls 1 [(0, .ref co)] := hl
  have hS : va_S (va_A (CmdC co ba cB (tN tx) ln nx am wd nb vl) s.heap.size) s.heap s.heap [] := va_S.rf
  have hA := wk_hA (CmdC co ba cB (tN tx) ln nx am wd nb vl) s.heap.size
  have hD9 : True := trivial
  have hinX1 : ∀ w ∈ wsX10, w ∈ wsX1_rewind := by decide +kernel
  refine lv_aload_n hx hb dX1_rewind_0 rfl (lv_at hl 0 rfl) ?_
  refine lv_iconst (v := nI 0) hx hb dX1_rewind_1 (by decide) ?_
  refine va_put (D := D) (ci := 0) (v := .int (nI 0)) (ty := .int) (C := RX1) (T := TX1) (N := 7) hx hb hts hinX1 tyX1 tyX1_ok nmX1 hown hK hP hD hS 0 rfl rfl 2 (by decide) (hts (.fieldLink RX1 32 "NearRanks$CommandText" "next" "I") (by decide +kernel)) (fun _ h9 => h9) rfl (by decide +kernel) rfl rfl (Nat.le_of_ble_eq_true rfl) dX1_rewind_2 (fun H locs hP hD hS => ?_)
  have hP : va_P D vwCl (CmdC co ba cB (tN tx) ln 0 am wd nb vl) H := hP
  have hD : va_D _ (CmdC co ba cB (tN tx) ln 0 am wd nb vl) := hD
  exact wv_vretM hx hb hr hlocks hP hD hS rfl dX1_rewind_5

set_option maxHeartbeats 4000000 in
set_option maxRecDepth 100000 in
theorem kX1_hasMore (l : Launch) (D : va_G) (co : Nat) (ba : Nat) (cB : ClassId) (tx : Nat → Nat) (ln : Nat) (nx : Nat) (am : Int32) (wd : Value) (nb : Int32) (vl : Int64) (hln : ln ≤ 150) (hnx : nx ≤ ln) (htx : ∀ k, tx k < 128) : MMi l yX1_hasMore wsX1_hasMore ({ frames := 2, cells := 0, slots := 0, locals := 41 } : Room) [.ref co] D (CmdC co ba cB (tN tx) ln nx am wd nb vl) [(cB, .byte)] (bI (decide (skS tx ln nx < ln))) (CmdC co ba cB (tN tx) ln (skS tx ln nx) am wd nb vl) := by
  refine MMi_of (cc := cX1_hasMore) (maxL := 1) (ret := some .boolean) (by decide +kernel) rfl (Nat.le_of_ble_eq_true rfl) ?_
  intro p e s m args below meth c hx hb hr hts hown hlocks hml hP hK hN hD ls hl
  have hown : s.vm.findClass RX1 = some m.cls := hown
  have hl : lv_has ls 1 [(0, .ref co)] := hl
  have hS : va_S (va_A (CmdC co ba cB (tN tx) ln nx am wd nb vl) s.heap.size) s.heap s.heap [] := va_S.rf
  have hA := wk_hA (CmdC co ba cB (tN tx) ln nx am wd nb vl) s.heap.size
  have hD9 : True := trivial
  have hinX1 : ∀ w ∈ wsX10, w ∈ wsX1_hasMore := by decide +kernel
  have hs9 := skS_le (c := tx) hnx
  refine lv_aload_n hx hb dX1_hasMore_0 rfl (lv_at hl 0 rfl) ?_
  refine wv_callMv (As := []) (rest := []) (wr := []) (ws1 := CmdC co ba cB (tN tx) ln (skS tx ln nx) am wd nb vl) ⟨hx, hb, hml, hown, hts⟩ (kX1_skipSpaces l D co ba cB tx ln nx am wd nb vl (by first | assumption | omega) (by first | assumption | omega) (by first | assumption | omega)) (cwV 0 hts gX1_hasMore_X1_skipSpaces rfl rfl rfl (by decide +kernel) ⟨Nat.le_of_ble_eq_true rfl, Nat.le_of_ble_eq_true rfl⟩) hK hN hP hD hS hA [0, 1] [] [0] [0, 1] rfl rfl (by decide) rfl (by decide) (by decide) rfl (by decide) rfl 0 0 rfl rfl rfl rfl hl.1 rfl (Nat.le_of_ble_eq_true rfl) dX1_hasMore_1 ⟨Nat.zero_le _, Nat.zero_le _⟩ (fun H locs hz9 hP hD hS => ?_)
  refine lv_aload_n hx hb dX1_hasMore_4 rfl (lv_at hl 0 rfl) ?_
  refine va_get (D := D) (ci := 0) (C := RX1) (T := TX1) (N := 7) hx hb hts hinX1 hown hK hP 0 rfl rfl 2 (by decide) (hts (.fieldLink RX1 32 "NearRanks$CommandText" "next" "I") (by decide +kernel)) (fun _ h9 => h9) rfl dX1_hasMore_5 ?_
  refine lv_aload_n hx hb dX1_hasMore_8 rfl (lv_at hl 0 rfl) ?_
  refine va_get (D := D) (ci := 0) (C := RX1) (T := TX1) (N := 7) hx hb hts hinX1 hown hK hP 0 rfl rfl 1 (by decide) (hts (.fieldLink RX1 15 "NearRanks$CommandText" "length" "I") (by decide +kernel)) (fun _ h9 => h9) rfl dX1_hasMore_9 ?_
  refine wv_icmp_ge (tgt := 19) hx hb (by omega) (by omega) dX1_hasMore_12 (by decide) (fun c12 => ?_) (fun c12 => ?_)
  · skip
    refine lv_iconst (v := nI 0) hx hb dX1_hasMore_19 (by decide) ?_
    exact wv_zretM (b := false) hx hb hr hlocks hP hD hS rfl (by first | (rw [decide_eq_true (by omega)]; rfl) | (rw [decide_eq_false (by omega)]; rfl)) rfl dX1_hasMore_20
  · skip
    refine lv_iconst (v := nI 1) hx hb dX1_hasMore_15 (by decide) ?_
    refine lv_goto (tgt := 20) hx hb dX1_hasMore_16 (by decide) ?_
    exact wv_zretM (b := true) hx hb hr hlocks hP hD hS rfl (by first | (rw [decide_eq_true (by omega)]; rfl) | (rw [decide_eq_false (by omega)]; rfl)) rfl dX1_hasMore_20

set_option maxHeartbeats 4000000 in
set_option maxRecDepth 100000 in
theorem kX1_readByte (l : Launch) (D : va_G) (co : Nat) (ba : Nat) (cB : ClassId) (tx : Nat → Nat) (ln : Nat) (nx : Nat) (am : Int32) (wd : Value) (nb : Int32) (vl : Int64) (w : Nat) (hln : ln ≤ 150) (hnx : nx ≤ ln) (htx : ∀ k, tx k < 128) (hw : w < 128) : MMi l yX1_readByte wsX1_readByte ({ frames := 1, cells := 0, slots := 0, locals := 21 } : Room) [.ref co, .int (nI w)] D (CmdC co ba cB (tN tx) ln nx am wd nb vl) [(cB, .byte)] (bI (isA tx ln w w nx)) (CmdC co ba cB (tN tx) ln (if isA tx ln w w nx then nx + 1 else nx) am wd nb vl) := by
  refine MMi_of (cc := cX1_readByte) (maxL := 2) (ret := some .boolean) (by decide +kernel) rfl (Nat.le_of_ble_eq_true rfl) ?_
  intro p e s m args below meth c hx hb hr hts hown hlocks hml hP hK hN hD ls hl
  have hown : s.vm.findClass RX1 = some m.cls := hown
  have hl : lv_has ls 2 [(0, .ref co), (1, .int (nI w))] := hl
  have hS : va_S (va_A (CmdC co ba cB (tN tx) ln nx am wd nb vl) s.heap.size) s.heap s.heap [] := va_S.rf
  have hA := wk_hA (CmdC co ba cB (tN tx) ln nx am wd nb vl) s.heap.size
  have hD9 : True := trivial
  have hinX1 : ∀ w ∈ wsX10, w ∈ wsX1_readByte := by decide +kernel
  have ht9 := htx nx
  refine lv_aload_n hx hb dX1_readByte_0 rfl (lv_at hl 0 rfl) ?_
  refine lv_aload_n hx hb dX1_readByte_1 rfl (lv_at hl 0 rfl) ?_
  refine va_get (D := D) (ci := 0) (C := RX1) (T := TX1) (N := 7) hx hb hts hinX1 hown hK hP 0 rfl rfl 2 (by decide) (hts (.fieldLink RX1 32 "NearRanks$CommandText" "next" "I") (by decide +kernel)) (fun _ h9 => h9) rfl dX1_readByte_2 ?_
  rcases Nat.lt_or_ge (nx) ln with hq | hq
  · skip
    refine wv_callPi (As := [.int (nI nx)]) (rest := []) ⟨hx, hb, hml, hown, hts⟩ (kX1_byteAt l D co ba cB tx ln nx am wd nb vl nx (by first | assumption | omega) (by first | assumption | omega)) (cwV 1 hts gX1_readByte_X1_byteAt rfl rfl rfl (by decide +kernel) ⟨Nat.le_of_ble_eq_true rfl, Nat.le_of_ble_eq_true rfl⟩) hK hN hP hS hA [0, 1] [0] rfl rfl 0 0 rfl rfl rfl rfl hl.1 rfl (Nat.le_of_ble_eq_true rfl) dX1_readByte_5 ⟨Nat.zero_le _, Nat.zero_le _⟩ (fun H locs hz9 hP hS => ?_)
    refine lv_iload_n hx hb dX1_readByte_8 rfl (lv_at hl 1 rfl) ?_
    refine wv_icmp_eq (tgt := 14) hx hb (by omega) (by omega) dX1_readByte_9 (by decide) (fun c9 => ?_) (fun c9 => ?_)
    · skip
      have hb9 : isA tx ln w w nx = true := isA_t hq (by omega) (by omega)
      refine lv_aload_n hx hb dX1_readByte_14 rfl (lv_at hl 0 rfl) ?_
      refine lv_dup hx hb dX1_readByte_15 rfl ?_
      refine va_get (D := D) (ci := 0) (C := RX1) (T := TX1) (N := 7) hx hb hts hinX1 hown hK hP 0 rfl rfl 2 (by decide) (hts (.fieldLink RX1 32 "NearRanks$CommandText" "next" "I") (by decide +kernel)) (fun _ h9 => h9) rfl dX1_readByte_16 ?_
      refine lv_iconst (v := nI 1) hx hb dX1_readByte_19 (by decide) ?_
      refine lv_iadd hx hb dX1_readByte_20 ?_
      refine wv_ti (nI_add _ _) ?_
      refine va_put (D := D) (ci := 0) (v := .int (nI (nx + 1))) (ty := .int) (C := RX1) (T := TX1) (N := 7) hx hb hts hinX1 tyX1 tyX1_ok nmX1 hown hK hP hD hS 0 rfl rfl 2 (by decide) (hts (.fieldLink RX1 32 "NearRanks$CommandText" "next" "I") (by decide +kernel)) (fun _ h9 => h9) rfl (by decide +kernel) rfl rfl (Nat.le_of_ble_eq_true rfl) dX1_readByte_21 (fun H locs hP hD hS => ?_)
      have hP : va_P D vwCl (CmdC co ba cB (tN tx) ln (nx + 1) am wd nb vl) H := hP
      have hD : va_D _ (CmdC co ba cB (tN tx) ln (nx + 1) am wd nb vl) := hD
      refine lv_iconst (v := nI 1) hx hb dX1_readByte_24 (by decide) ?_
      have ew0_nx : (if isA tx ln w w nx then nx + 1 else nx) = nx + 1 := by rw [hb9]; rfl
      exact wv_zretM (b := true) hx hb hr hlocks hP hD hS rfl (by rw [hb9]; rfl) (by rw [ew0_nx]) dX1_readByte_25
    · skip
      have hb9 : isA tx ln w w nx = false := isA_f (by omega)
      refine lv_iconst (v := nI 0) hx hb dX1_readByte_12 (by decide) ?_
      have ew0_nx : (if isA tx ln w w nx then nx + 1 else nx) = nx := by rw [hb9]; rfl
      exact wv_zretM (b := false) hx hb hr hlocks hP hD hS rfl (by rw [hb9]; rfl) (by rw [ew0_nx]) dX1_readByte_13
  · skip
    refine wv_callPi (As := [.int (nI nx)]) (rest := []) ⟨hx, hb, hml, hown, hts⟩ (kX1_byteAt_out l D co ba cB tx ln nx am wd nb vl nx (by first | assumption | omega) (by first | assumption | omega) (by omega)) (cwV 1 hts gX1_readByte_X1_byteAt rfl rfl rfl (by decide +kernel) ⟨Nat.le_of_ble_eq_true rfl, Nat.le_of_ble_eq_true rfl⟩) hK hN hP hS hA [0, 1] [0] rfl rfl 0 0 rfl rfl rfl rfl hl.1 rfl (Nat.le_of_ble_eq_true rfl) dX1_readByte_5 ⟨Nat.zero_le _, Nat.zero_le _⟩ (fun H locs hz9 hP hS => ?_)
    refine lv_iload_n hx hb dX1_readByte_8 rfl (lv_at hl 1 rfl) ?_
    refine lv_icmp_eq (tgt := 14) hx hb dX1_readByte_9 (by decide) (fun c9 => by exfalso; exact m1_ne (by omega) c9) (fun c9 => ?_)
    have hb9 : isA tx ln w w nx = false := isA_f (by omega)
    refine lv_iconst (v := nI 0) hx hb dX1_readByte_12 (by decide) ?_
    have ew0_nx : (if isA tx ln w w nx then nx + 1 else nx) = nx := by rw [hb9]; rfl
    exact wv_zretM (b := false) hx hb hr hlocks hP hD hS rfl (by rw [hb9]; rfl) (by rw [ew0_nx]) dX1_readByte_13

set_option maxHeartbeats 4000000 in
set_option maxRecDepth 100000 in
theorem kX1_readAmount (l : Launch) (D : va_G) (co : Nat) (ba : Nat) (cB : ClassId) (tx : Nat → Nat) (ln : Nat) (nx : Nat) (am : Int32) (wd : Value) (nb : Int32) (vl : Int64) (sg : Bool) (hln : ln ≤ 150) (hnx : nx ≤ ln) (htx : ∀ k, tx k < 128) : MMi l yX1_readAmount wsX1_readAmount ({ frames := 2, cells := 0, slots := 0, locals := 42 } : Room) [.ref co, .int (bI sg)] D (CmdC co ba cB (tN tx) ln nx am wd nb vl) [(cB, .byte)] (bI (ncC tx ln nx sg)) (CmdC co ba cB (tN tx) ln (ncP tx ln nx sg) (ncA tx ln nx sg am) wd nb vl) := by
  refine MMi_of (cc := cX1_readAmount) (maxL := 4) (ret := some .boolean) (by decide +kernel) rfl (Nat.le_of_ble_eq_true rfl) ?_
  intro p e s m args below meth c hx hb hr hts hown hlocks hml hP hK hN hD ls hl
  have hown : s.vm.findClass RX1 = some m.cls := hown
  have hl : lv_has ls 4 [(0, .ref co), (1, .int (bI sg))] := hl
  have hS : va_S (va_A (CmdC co ba cB (tN tx) ln nx am wd nb vl) s.heap.size) s.heap s.heap [] := va_S.rf
  have hA := wk_hA (CmdC co ba cB (tN tx) ln nx am wd nb vl) s.heap.size
  have hD9 : True := trivial
  have hinX1 : ∀ w ∈ wsX10, w ∈ wsX1_readAmount := by decide +kernel
  have ht9 := htx nx
  have hs9 := skS_le (c := tx) hnx
  have hq9 := nuQ_le (c := tx) sg hnx
  refine lv_aload_n hx hb dX1_readAmount_0 rfl (lv_at hl 0 rfl) ?_
  refine lv_aload_n hx hb dX1_readAmount_1 rfl (lv_at hl 0 rfl) ?_
  refine va_get (D := D) (ci := 0) (C := RX1) (T := TX1) (N := 7) hx hb hts hinX1 hown hK hP 0 rfl rfl 2 (by decide) (hts (.fieldLink RX1 32 "NearRanks$CommandText" "next" "I") (by decide +kernel)) (fun _ h9 => h9) rfl dX1_readAmount_2 ?_
  rcases Nat.lt_or_ge (nx) ln with hq | hq
  · skip
    refine wv_callPi (As := [.int (nI nx)]) (rest := []) ⟨hx, hb, hml, hown, hts⟩ (kX1_byteAt l D co ba cB tx ln nx am wd nb vl nx (by first | assumption | omega) (by first | assumption | omega)) (cwV 1 hts gX1_readAmount_X1_byteAt rfl rfl rfl (by decide +kernel) ⟨Nat.le_of_ble_eq_true rfl, Nat.le_of_ble_eq_true rfl⟩) hK hN hP hS hA [0, 1] [0] rfl rfl 0 0 rfl rfl rfl rfl hl.1 rfl (Nat.le_of_ble_eq_true rfl) dX1_readAmount_5 ⟨Nat.zero_le _, Nat.zero_le _⟩ (fun H locs hz9 hP hS => ?_)
    refine lv_bipush (v := nI 32) hx hb dX1_readAmount_8 (by decide) ?_
    refine wv_icmp_eq (tgt := 15) hx hb (by omega) (by omega) dX1_readAmount_10 (by decide) (fun c10 => ?_) (fun c10 => ?_)
    · skip
      have hsp : isA tx ln 32 32 nx = true := isA_t hq (by omega) (by omega)
      refine lv_aload_n hx hb dX1_readAmount_15 rfl (lv_at hl 0 rfl) ?_
      refine wv_callMv (As := []) (rest := []) (wr := []) (ws1 := CmdC co ba cB (tN tx) ln (skS tx ln nx) am wd nb vl) ⟨hx, hb, hml, hown, hts⟩ (kX1_skipSpaces l D co ba cB tx ln nx am wd nb vl (by first | assumption | omega) (by first | assumption | omega) (by first | assumption | omega)) (cwV 0 hts gX1_readAmount_X1_skipSpaces rfl rfl rfl (by decide +kernel) ⟨Nat.le_of_ble_eq_true rfl, Nat.le_of_ble_eq_true rfl⟩) hK hN hP hD hS hA [0, 1] [] [0] [0, 1] rfl rfl (by decide) rfl (by decide) (by decide) rfl (by decide) rfl 0 0 rfl rfl rfl rfl hl.1 rfl (Nat.le_of_ble_eq_true rfl) dX1_readAmount_16 ⟨Nat.zero_le _, Nat.zero_le _⟩ (fun H locs hz9 hP hD hS => ?_)
      refine lv_iload_n hx hb dX1_readAmount_19 rfl (lv_at hl 1 rfl) ?_
      refine wv_ifeqB (tgt := 36) hx hb dX1_readAmount_20 (by decide) (fun c20 => ?_) (fun c20 => ?_)
      · skip
        have hng : nuN tx ln nx sg = false := by unfold nuN; rw [c20]; rfl
        refine lv_iconst (v := nI 0) hx hb dX1_readAmount_36 (by decide) ?_
        refine lv_istore_n (lv' := [(2, .int (nI 0)), (0, .ref co), (1, .int (bI sg))]) hx hb dX1_readAmount_37 rfl hl (by decide) rfl (fun ls hl => ?_)
        refine lv_aload_n hx hb dX1_readAmount_38 rfl (lv_at hl 1 rfl) ?_
        refine lv_iconst (v := nI 0) hx hb dX1_readAmount_39 (by decide) ?_
        refine va_put (D := D) (ci := 0) (v := .int (nI 0)) (ty := .int) (C := RX1) (T := TX1) (N := 7) hx hb hts hinX1 tyX1 tyX1_ok nmX1 hown hK hP hD hS 0 rfl rfl 3 (by decide) (hts (.fieldLink RX1 59 "NearRanks$CommandText" "amount" "I") (by decide +kernel)) (fun _ h9 => h9) rfl (by decide +kernel) rfl rfl (Nat.le_of_ble_eq_true rfl) dX1_readAmount_40 (fun H locs hP hD hS => ?_)
        have hP : va_P D vwCl (CmdC co ba cB (tN tx) ln (skS tx ln nx) (nI 0) wd nb vl) H := hP
        have hD : va_D _ (CmdC co ba cB (tN tx) ln (skS tx ln nx) (nI 0) wd nb vl) := hD
        refine lv_iconst (v := nI 0) hx hb dX1_readAmount_43 (by decide) ?_
        refine lv_istore_n (lv' := [(3, .int (nI 0)), (2, .int (nI 0)), (0, .ref co), (1, .int (bI sg))]) hx hb dX1_readAmount_44 rfl hl (by decide) rfl (fun ls hl => ?_)
        have el_l2 : bI (nuN tx ln nx sg) = nI 0 := by rw [hng]; rfl
        have el_w0_nx : nuQ tx ln nx sg + 0 = skS tx ln nx := by first | (simp [nuQ, hng]; done) | (simp [nuQ, hng, c29]; done)
        have el_w0_am : nI (dgv tx (nuQ tx ln nx sg) 0) = nI 0 := by rfl
        have loop45 : ∀ (K : Nat) (d : Nat), 9 - d < K → d ≤ 9 → nuQ tx ln nx sg + d ≤ ln → nuE tx ln nx sg = rn (isA tx ln 48 57) (9 - d) (nuQ tx ln nx sg + d) → ∀ (H : Heap) (locs : List Loc), va_P D vwCl (CmdC co ba cB (tN tx) ln (nuQ tx ln nx sg + d) (nI (dgv tx (nuQ tx ln nx sg) d)) wd nb vl) H → va_D (va_A (CmdC co ba cB (tN tx) ln nx am wd nb vl) s.heap.size) (CmdC co ba cB (tN tx) ln (nuQ tx ln nx sg + d) (nI (dgv tx (nuQ tx ln nx sg) d)) wd nb vl) → va_S (va_A (CmdC co ba cB (tN tx) ln nx am wd nb vl) s.heap.size) s.heap H locs → ∀ ls : Array Slot, lv_has ls 4 [(0, .ref co), (1, .int (bI sg)), (2, .int (bI (nuN tx ln nx sg))), (3, .int (nI d))] → W p l e ({ frames := 2, cells := 0, slots := 0, locals := 42 } : Room) s m args below meth c H locs 0 0 (ZMi below args s D (CmdC co ba cB (tN tx) ln nx am wd nb vl) (bI (ncC tx ln nx sg)) (CmdC co ba cB (tN tx) ln (ncP tx ln nx sg) (ncA tx ln nx sg am) wd nb vl)) (F0 m 45 ls []) := by
          intro K
          induction K with
          | zero => intro d hK0; exact absurd hK0 (Nat.not_lt_zero _)
          | succ K ih45 =>
            intro d hKm hd hpd hrn H locs hP hD hS ls hl
            refine lv_iload_n hx hb dX1_readAmount_45 rfl (lv_at hl 3 rfl) ?_
            refine lv_bipush (v := nI 9) hx hb dX1_readAmount_46 (by decide) ?_
            refine wv_icmp_ge (tgt := 104) hx hb (by omega) (by omega) dX1_readAmount_48 (by decide) (fun c48 => ?_) (fun c48 => ?_)
            · skip
              have hE9 : nuE tx ln nx sg = nuQ tx ln nx sg + d := by rw [hrn, show 9 - d = 0 by omega]; rfl
              refine lv_iload_n hx hb dX1_readAmount_104 rfl (lv_at hl 2 rfl) ?_
              refine wv_ifeqB (tgt := 117) hx hb dX1_readAmount_105 (by decide) (fun c105 => ?_) (fun c105 => ?_)
              · skip
                refine lv_iload_n hx hb dX1_readAmount_117 rfl (lv_at hl 3 rfl) ?_
                refine wv_if_le (tgt := 125) hx hb (by omega) dX1_readAmount_118 (by decide) (fun c118 => ?_) (fun c118 => ?_)
                · skip
                  refine lv_iconst (v := nI 0) hx hb dX1_readAmount_125 (by decide) ?_
                  have ew0_nx : ncP tx ln nx sg = nuQ tx ln nx sg + d := by unfold ncP; rw [if_pos hsp, hE9]
                  have ew0_am : ncA tx ln nx sg am = nI (dgv tx (nuQ tx ln nx sg) d) := by unfold ncA nuV; rw [if_pos hsp, hE9, Nat.add_sub_cancel_left]; first | rw [if_pos c105] | rw [if_neg (by rw [c105]; decide)]
                  exact wv_zretM (b := false) hx hb hr hlocks hP hD hS rfl (by unfold ncC; rw [hsp, hE9]; first | (rw [decide_eq_true (by omega)]; rfl) | (rw [decide_eq_false (by omega)]; rfl)) (by rw [ew0_am, ew0_nx]) dX1_readAmount_126
                · skip
                  refine lv_iconst (v := nI 1) hx hb dX1_readAmount_121 (by decide) ?_
                  refine lv_goto (tgt := 126) hx hb dX1_readAmount_122 (by decide) ?_
                  have ew0_nx : ncP tx ln nx sg = nuQ tx ln nx sg + d := by unfold ncP; rw [if_pos hsp, hE9]
                  have ew0_am : ncA tx ln nx sg am = nI (dgv tx (nuQ tx ln nx sg) d) := by unfold ncA nuV; rw [if_pos hsp, hE9, Nat.add_sub_cancel_left]; first | rw [if_pos c105] | rw [if_neg (by rw [c105]; decide)]
                  exact wv_zretM (b := true) hx hb hr hlocks hP hD hS rfl (by unfold ncC; rw [hsp, hE9]; first | (rw [decide_eq_true (by omega)]; rfl) | (rw [decide_eq_false (by omega)]; rfl)) (by rw [ew0_am, ew0_nx]) dX1_readAmount_126
              · skip
                refine lv_aload_n hx hb dX1_readAmount_108 rfl (lv_at hl 0 rfl) ?_
                refine lv_aload_n hx hb dX1_readAmount_109 rfl (lv_at hl 0 rfl) ?_
                refine va_get (D := D) (ci := 0) (C := RX1) (T := TX1) (N := 7) hx hb hts hinX1 hown hK hP 0 rfl rfl 3 (by decide) (hts (.fieldLink RX1 59 "NearRanks$CommandText" "amount" "I") (by decide +kernel)) (fun _ h9 => h9) rfl dX1_readAmount_110 ?_
                refine lv_ineg hx hb dX1_readAmount_113 ?_
                refine va_put (D := D) (ci := 0) (v := .int (-(nI (dgv tx (nuQ tx ln nx sg) d)))) (ty := .int) (C := RX1) (T := TX1) (N := 7) hx hb hts hinX1 tyX1 tyX1_ok nmX1 hown hK hP hD hS 0 rfl rfl 3 (by decide) (hts (.fieldLink RX1 59 "NearRanks$CommandText" "amount" "I") (by decide +kernel)) (fun _ h9 => h9) rfl (by decide +kernel) rfl rfl (Nat.le_of_ble_eq_true rfl) dX1_readAmount_114 (fun H locs hP hD hS => ?_)
                have hP : va_P D vwCl (CmdC co ba cB (tN tx) ln (nuQ tx ln nx sg + d) (-(nI (dgv tx (nuQ tx ln nx sg) d))) wd nb vl) H := hP
                have hD : va_D _ (CmdC co ba cB (tN tx) ln (nuQ tx ln nx sg + d) (-(nI (dgv tx (nuQ tx ln nx sg) d))) wd nb vl) := hD
                refine lv_iload_n hx hb dX1_readAmount_117 rfl (lv_at hl 3 rfl) ?_
                refine wv_if_le (tgt := 125) hx hb (by omega) dX1_readAmount_118 (by decide) (fun c118 => ?_) (fun c118 => ?_)
                · skip
                  refine lv_iconst (v := nI 0) hx hb dX1_readAmount_125 (by decide) ?_
                  have ew0_nx : ncP tx ln nx sg = nuQ tx ln nx sg + d := by unfold ncP; rw [if_pos hsp, hE9]
                  have ew0_am : ncA tx ln nx sg am = -(nI (dgv tx (nuQ tx ln nx sg) d)) := by unfold ncA nuV; rw [if_pos hsp, hE9, Nat.add_sub_cancel_left]; first | rw [if_pos c105] | rw [if_neg (by rw [c105]; decide)]
                  exact wv_zretM (b := false) hx hb hr hlocks hP hD hS rfl (by unfold ncC; rw [hsp, hE9]; first | (rw [decide_eq_true (by omega)]; rfl) | (rw [decide_eq_false (by omega)]; rfl)) (by rw [ew0_am, ew0_nx]) dX1_readAmount_126
                · skip
                  refine lv_iconst (v := nI 1) hx hb dX1_readAmount_121 (by decide) ?_
                  refine lv_goto (tgt := 126) hx hb dX1_readAmount_122 (by decide) ?_
                  have ew0_nx : ncP tx ln nx sg = nuQ tx ln nx sg + d := by unfold ncP; rw [if_pos hsp, hE9]
                  have ew0_am : ncA tx ln nx sg am = -(nI (dgv tx (nuQ tx ln nx sg) d)) := by unfold ncA nuV; rw [if_pos hsp, hE9, Nat.add_sub_cancel_left]; first | rw [if_pos c105] | rw [if_neg (by rw [c105]; decide)]
                  exact wv_zretM (b := true) hx hb hr hlocks hP hD hS rfl (by unfold ncC; rw [hsp, hE9]; first | (rw [decide_eq_true (by omega)]; rfl) | (rw [decide_eq_false (by omega)]; rfl)) (by rw [ew0_am, ew0_nx]) dX1_readAmount_126
            · skip
              refine lv_aload_n hx hb dX1_readAmount_51 rfl (lv_at hl 0 rfl) ?_
              refine lv_aload_n hx hb dX1_readAmount_52 rfl (lv_at hl 0 rfl) ?_
              refine va_get (D := D) (ci := 0) (C := RX1) (T := TX1) (N := 7) hx hb hts hinX1 hown hK hP 0 rfl rfl 2 (by decide) (hts (.fieldLink RX1 32 "NearRanks$CommandText" "next" "I") (by decide +kernel)) (fun _ h9 => h9) rfl dX1_readAmount_53 ?_
              rcases Nat.lt_or_ge (nuQ tx ln nx sg + d) ln with hq | hq
              · skip
                refine wv_callPi (As := [.int (nI (nuQ tx ln nx sg + d))]) (rest := []) ⟨hx, hb, hml, hown, hts⟩ (kX1_byteAt l D co ba cB tx ln (nuQ tx ln nx sg + d) (nI (dgv tx (nuQ tx ln nx sg) d)) wd nb vl (nuQ tx ln nx sg + d) (by first | assumption | omega) (by first | assumption | omega)) (cwV 1 hts gX1_readAmount_X1_byteAt rfl rfl rfl (by decide +kernel) ⟨Nat.le_of_ble_eq_true rfl, Nat.le_of_ble_eq_true rfl⟩) hK hN hP hS hA [0, 1] [0] rfl rfl 0 0 rfl rfl rfl rfl hl.1 rfl (Nat.le_of_ble_eq_true rfl) dX1_readAmount_56 ⟨Nat.zero_le _, Nat.zero_le _⟩ (fun H locs hz9 hP hS => ?_)
                refine wv_callSi (As := [.int (nI (tx (nuQ tx ln nx sg + d)))]) (rest := []) ⟨hx, hb, hml, hown, hts⟩ (kX1_isDigit l D (tx (nuQ tx ln nx sg + d)) (htx _)) (va_cwS 1 hts gX1_readAmount_X1_isDigit rfl rfl rfl (by decide +kernel) ⟨Nat.le_of_ble_eq_true rfl, Nat.le_of_ble_eq_true rfl⟩) hK hN hP hS hA [] [] rfl rfl rfl hl.1 rfl (Nat.le_of_ble_eq_true rfl) dX1_readAmount_59 ⟨Nat.zero_le _, Nat.zero_le _⟩ (fun H locs hz9 hP hS => ?_)
                refine wv_ifeqB (tgt := 104) hx hb dX1_readAmount_62 (by decide) (fun c62 => ?_) (fun c62 => ?_)
                · skip
                  have hdt : isA tx ln 48 57 (nuQ tx ln nx sg + d) = false := isA_f (by have h9 : ¬ (48 ≤ tx (nuQ tx ln nx sg + d) ∧ tx (nuQ tx ln nx sg + d) ≤ 57) := (by simpa using c62); omega)
                  have hE9 : nuE tx ln nx sg = nuQ tx ln nx sg + d := by rw [hrn, rn_f hdt]
                  refine lv_iload_n hx hb dX1_readAmount_104 rfl (lv_at hl 2 rfl) ?_
                  refine wv_ifeqB (tgt := 117) hx hb dX1_readAmount_105 (by decide) (fun c105 => ?_) (fun c105 => ?_)
                  · skip
                    refine lv_iload_n hx hb dX1_readAmount_117 rfl (lv_at hl 3 rfl) ?_
                    refine wv_if_le (tgt := 125) hx hb (by omega) dX1_readAmount_118 (by decide) (fun c118 => ?_) (fun c118 => ?_)
                    · skip
                      refine lv_iconst (v := nI 0) hx hb dX1_readAmount_125 (by decide) ?_
                      have ew0_nx : ncP tx ln nx sg = nuQ tx ln nx sg + d := by unfold ncP; rw [if_pos hsp, hE9]
                      have ew0_am : ncA tx ln nx sg am = nI (dgv tx (nuQ tx ln nx sg) d) := by unfold ncA nuV; rw [if_pos hsp, hE9, Nat.add_sub_cancel_left]; first | rw [if_pos c105] | rw [if_neg (by rw [c105]; decide)]
                      exact wv_zretM (b := false) hx hb hr hlocks hP hD hS rfl (by unfold ncC; rw [hsp, hE9]; first | (rw [decide_eq_true (by omega)]; rfl) | (rw [decide_eq_false (by omega)]; rfl)) (by rw [ew0_am, ew0_nx]) dX1_readAmount_126
                    · skip
                      refine lv_iconst (v := nI 1) hx hb dX1_readAmount_121 (by decide) ?_
                      refine lv_goto (tgt := 126) hx hb dX1_readAmount_122 (by decide) ?_
                      have ew0_nx : ncP tx ln nx sg = nuQ tx ln nx sg + d := by unfold ncP; rw [if_pos hsp, hE9]
                      have ew0_am : ncA tx ln nx sg am = nI (dgv tx (nuQ tx ln nx sg) d) := by unfold ncA nuV; rw [if_pos hsp, hE9, Nat.add_sub_cancel_left]; first | rw [if_pos c105] | rw [if_neg (by rw [c105]; decide)]
                      exact wv_zretM (b := true) hx hb hr hlocks hP hD hS rfl (by unfold ncC; rw [hsp, hE9]; first | (rw [decide_eq_true (by omega)]; rfl) | (rw [decide_eq_false (by omega)]; rfl)) (by rw [ew0_am, ew0_nx]) dX1_readAmount_126
                  · skip
                    refine lv_aload_n hx hb dX1_readAmount_108 rfl (lv_at hl 0 rfl) ?_
                    refine lv_aload_n hx hb dX1_readAmount_109 rfl (lv_at hl 0 rfl) ?_
                    refine va_get (D := D) (ci := 0) (C := RX1) (T := TX1) (N := 7) hx hb hts hinX1 hown hK hP 0 rfl rfl 3 (by decide) (hts (.fieldLink RX1 59 "NearRanks$CommandText" "amount" "I") (by decide +kernel)) (fun _ h9 => h9) rfl dX1_readAmount_110 ?_
                    refine lv_ineg hx hb dX1_readAmount_113 ?_
                    refine va_put (D := D) (ci := 0) (v := .int (-(nI (dgv tx (nuQ tx ln nx sg) d)))) (ty := .int) (C := RX1) (T := TX1) (N := 7) hx hb hts hinX1 tyX1 tyX1_ok nmX1 hown hK hP hD hS 0 rfl rfl 3 (by decide) (hts (.fieldLink RX1 59 "NearRanks$CommandText" "amount" "I") (by decide +kernel)) (fun _ h9 => h9) rfl (by decide +kernel) rfl rfl (Nat.le_of_ble_eq_true rfl) dX1_readAmount_114 (fun H locs hP hD hS => ?_)
                    have hP : va_P D vwCl (CmdC co ba cB (tN tx) ln (nuQ tx ln nx sg + d) (-(nI (dgv tx (nuQ tx ln nx sg) d))) wd nb vl) H := hP
                    have hD : va_D _ (CmdC co ba cB (tN tx) ln (nuQ tx ln nx sg + d) (-(nI (dgv tx (nuQ tx ln nx sg) d))) wd nb vl) := hD
                    refine lv_iload_n hx hb dX1_readAmount_117 rfl (lv_at hl 3 rfl) ?_
                    refine wv_if_le (tgt := 125) hx hb (by omega) dX1_readAmount_118 (by decide) (fun c118 => ?_) (fun c118 => ?_)
                    · skip
                      refine lv_iconst (v := nI 0) hx hb dX1_readAmount_125 (by decide) ?_
                      have ew0_nx : ncP tx ln nx sg = nuQ tx ln nx sg + d := by unfold ncP; rw [if_pos hsp, hE9]
                      have ew0_am : ncA tx ln nx sg am = -(nI (dgv tx (nuQ tx ln nx sg) d)) := by unfold ncA nuV; rw [if_pos hsp, hE9, Nat.add_sub_cancel_left]; first | rw [if_pos c105] | rw [if_neg (by rw [c105]; decide)]
                      exact wv_zretM (b := false) hx hb hr hlocks hP hD hS rfl (by unfold ncC; rw [hsp, hE9]; first | (rw [decide_eq_true (by omega)]; rfl) | (rw [decide_eq_false (by omega)]; rfl)) (by rw [ew0_am, ew0_nx]) dX1_readAmount_126
                    · skip
                      refine lv_iconst (v := nI 1) hx hb dX1_readAmount_121 (by decide) ?_
                      refine lv_goto (tgt := 126) hx hb dX1_readAmount_122 (by decide) ?_
                      have ew0_nx : ncP tx ln nx sg = nuQ tx ln nx sg + d := by unfold ncP; rw [if_pos hsp, hE9]
                      have ew0_am : ncA tx ln nx sg am = -(nI (dgv tx (nuQ tx ln nx sg) d)) := by unfold ncA nuV; rw [if_pos hsp, hE9, Nat.add_sub_cancel_left]; first | rw [if_pos c105] | rw [if_neg (by rw [c105]; decide)]
                      exact wv_zretM (b := true) hx hb hr hlocks hP hD hS rfl (by unfold ncC; rw [hsp, hE9]; first | (rw [decide_eq_true (by omega)]; rfl) | (rw [decide_eq_false (by omega)]; rfl)) (by rw [ew0_am, ew0_nx]) dX1_readAmount_126
                · skip
                  have hdg : 48 ≤ tx (nuQ tx ln nx sg + d) ∧ tx (nuQ tx ln nx sg + d) ≤ 57 := by simpa using c62
                  have hdt : isA tx ln 48 57 (nuQ tx ln nx sg + d) = true := isA_t hq hdg.1 hdg.2
                  refine lv_aload_n hx hb dX1_readAmount_65 rfl (lv_at hl 0 rfl) ?_
                  refine lv_bipush (v := nI 10) hx hb dX1_readAmount_66 (by decide) ?_
                  refine lv_aload_n hx hb dX1_readAmount_68 rfl (lv_at hl 0 rfl) ?_
                  refine va_get (D := D) (ci := 0) (C := RX1) (T := TX1) (N := 7) hx hb hts hinX1 hown hK hP 0 rfl rfl 3 (by decide) (hts (.fieldLink RX1 59 "NearRanks$CommandText" "amount" "I") (by decide +kernel)) (fun _ h9 => h9) rfl dX1_readAmount_69 ?_
                  refine lv_imul hx hb dX1_readAmount_72 ?_
                  refine wv_ti (pk_mul _ _) ?_
                  refine lv_aload_n hx hb dX1_readAmount_73 rfl (lv_at hl 0 rfl) ?_
                  refine lv_aload_n hx hb dX1_readAmount_74 rfl (lv_at hl 0 rfl) ?_
                  refine va_get (D := D) (ci := 0) (C := RX1) (T := TX1) (N := 7) hx hb hts hinX1 hown hK hP 0 rfl rfl 2 (by decide) (hts (.fieldLink RX1 32 "NearRanks$CommandText" "next" "I") (by decide +kernel)) (fun _ h9 => h9) rfl dX1_readAmount_75 ?_
                  refine wv_callPi (As := [.int (nI (nuQ tx ln nx sg + d))]) (rest := [.int (nI (10 * (dgv tx (nuQ tx ln nx sg) d))), .ref co]) ⟨hx, hb, hml, hown, hts⟩ (kX1_byteAt l D co ba cB tx ln (nuQ tx ln nx sg + d) (nI (dgv tx (nuQ tx ln nx sg) d)) wd nb vl (nuQ tx ln nx sg + d) (by first | assumption | omega) (by first | assumption | omega)) (cwV 1 hts gX1_readAmount_X1_byteAt rfl rfl rfl (by decide +kernel) ⟨Nat.le_of_ble_eq_true rfl, Nat.le_of_ble_eq_true rfl⟩) hK hN hP hS hA [0, 1] [0] rfl rfl 0 0 rfl rfl rfl rfl hl.1 rfl (Nat.le_of_ble_eq_true rfl) dX1_readAmount_78 ⟨Nat.zero_le _, Nat.zero_le _⟩ (fun H locs hz9 hP hS => ?_)
                  refine lv_iadd hx hb dX1_readAmount_81 ?_
                  refine wv_ti (nI_add _ _) ?_
                  refine lv_bipush (v := nI 48) hx hb dX1_readAmount_82 (by decide) ?_
                  refine lv_isub hx hb dX1_readAmount_84 ?_
                  refine wv_ti (pk_sub (by omega)) ?_
                  refine va_put (D := D) (ci := 0) (v := .int (nI (((10 * (dgv tx (nuQ tx ln nx sg) d)) + (tx (nuQ tx ln nx sg + d))) - 48))) (ty := .int) (C := RX1) (T := TX1) (N := 7) hx hb hts hinX1 tyX1 tyX1_ok nmX1 hown hK hP hD hS 0 rfl rfl 3 (by decide) (hts (.fieldLink RX1 59 "NearRanks$CommandText" "amount" "I") (by decide +kernel)) (fun _ h9 => h9) rfl (by decide +kernel) rfl rfl (Nat.le_of_ble_eq_true rfl) dX1_readAmount_85 (fun H locs hP hD hS => ?_)
                  have hP : va_P D vwCl (CmdC co ba cB (tN tx) ln (nuQ tx ln nx sg + d) (nI (((10 * (dgv tx (nuQ tx ln nx sg) d)) + (tx (nuQ tx ln nx sg + d))) - 48)) wd nb vl) H := hP
                  have hD : va_D _ (CmdC co ba cB (tN tx) ln (nuQ tx ln nx sg + d) (nI (((10 * (dgv tx (nuQ tx ln nx sg) d)) + (tx (nuQ tx ln nx sg + d))) - 48)) wd nb vl) := hD
                  refine lv_aload_n hx hb dX1_readAmount_88 rfl (lv_at hl 0 rfl) ?_
                  refine lv_dup hx hb dX1_readAmount_89 rfl ?_
                  refine va_get (D := D) (ci := 0) (C := RX1) (T := TX1) (N := 7) hx hb hts hinX1 hown hK hP 0 rfl rfl 2 (by decide) (hts (.fieldLink RX1 32 "NearRanks$CommandText" "next" "I") (by decide +kernel)) (fun _ h9 => h9) rfl dX1_readAmount_90 ?_
                  refine lv_iconst (v := nI 1) hx hb dX1_readAmount_93 (by decide) ?_
                  refine lv_iadd hx hb dX1_readAmount_94 ?_
                  refine wv_ti (nI_add _ _) ?_
                  refine va_put (D := D) (ci := 0) (v := .int (nI ((nuQ tx ln nx sg + d) + 1))) (ty := .int) (C := RX1) (T := TX1) (N := 7) hx hb hts hinX1 tyX1 tyX1_ok nmX1 hown hK hP hD hS 0 rfl rfl 2 (by decide) (hts (.fieldLink RX1 32 "NearRanks$CommandText" "next" "I") (by decide +kernel)) (fun _ h9 => h9) rfl (by decide +kernel) rfl rfl (Nat.le_of_ble_eq_true rfl) dX1_readAmount_95 (fun H locs hP hD hS => ?_)
                  have hP : va_P D vwCl (CmdC co ba cB (tN tx) ln ((nuQ tx ln nx sg + d) + 1) (nI (((10 * (dgv tx (nuQ tx ln nx sg) d)) + (tx (nuQ tx ln nx sg + d))) - 48)) wd nb vl) H := hP
                  have hD : va_D _ (CmdC co ba cB (tN tx) ln ((nuQ tx ln nx sg + d) + 1) (nI (((10 * (dgv tx (nuQ tx ln nx sg) d)) + (tx (nuQ tx ln nx sg + d))) - 48)) wd nb vl) := hD
                  refine lv_iinc (v := nI (d + 1)) (lv' := [(3, .int (nI (d + 1))), (0, .ref co), (1, .int (bI sg)), (2, .int (bI (nuN tx ln nx sg)))]) hx hb dX1_readAmount_98 hl (k := 3) rfl (nI_1 _) (by decide) rfl (fun ls hl => ?_)
                  refine lv_goto (tgt := 45) hx hb dX1_readAmount_101 (by decide) ?_
                  have el_w0_nx : nuQ tx ln nx sg + (d + 1) = (nuQ tx ln nx sg + d) + 1 := by rfl
                  have el_w0_am : nI (dgv tx (nuQ tx ln nx sg) (d + 1)) = nI (((10 * (dgv tx (nuQ tx ln nx sg) d)) + (tx (nuQ tx ln nx sg + d))) - 48) := by show nI (10 * dgv _ _ _ + (_ - 48)) = _; congr 1; omega
                  exact ih45 (d + 1) (by omega) (by first | assumption | omega) (by omega) (by rw [hrn, show 9 - d = (9 - (d + 1)) + 1 by omega, rn_t hdt]; rfl) _ _ (by first | (rw [el_w0_am, el_w0_nx]; exact hP) | (simp only [el_w0_am, el_w0_nx]; exact hP) | exact hP) (by first | (rw [el_w0_am, el_w0_nx]; exact hD) | (simp only [el_w0_am, el_w0_nx]; exact hD) | exact hD) hS ls (by first | (rw [el_w0_am, el_w0_nx]; exact lv_sub hl [1, 2, 3, 0] rfl) | (simp only [el_w0_am, el_w0_nx]; exact lv_sub hl [1, 2, 3, 0] rfl) | exact lv_sub hl [1, 2, 3, 0] rfl)
              · skip
                have hdt : isA tx ln 48 57 (nuQ tx ln nx sg + d) = false := isA_f (by omega)
                have hE9 : nuE tx ln nx sg = nuQ tx ln nx sg + d := by rw [hrn, rn_f hdt]
                refine wv_callPi (As := [.int (nI (nuQ tx ln nx sg + d))]) (rest := []) ⟨hx, hb, hml, hown, hts⟩ (kX1_byteAt_out l D co ba cB tx ln (nuQ tx ln nx sg + d) (nI (dgv tx (nuQ tx ln nx sg) d)) wd nb vl (nuQ tx ln nx sg + d) (by first | assumption | omega) (by first | assumption | omega) (by omega)) (cwV 1 hts gX1_readAmount_X1_byteAt rfl rfl rfl (by decide +kernel) ⟨Nat.le_of_ble_eq_true rfl, Nat.le_of_ble_eq_true rfl⟩) hK hN hP hS hA [0, 1] [0] rfl rfl 0 0 rfl rfl rfl rfl hl.1 rfl (Nat.le_of_ble_eq_true rfl) dX1_readAmount_56 ⟨Nat.zero_le _, Nat.zero_le _⟩ (fun H locs hz9 hP hS => ?_)
                refine wv_callSi (As := [.int (-1)]) (rest := []) ⟨hx, hb, hml, hown, hts⟩ (kX1_isDigit_out l D ) (va_cwS 1 hts gX1_readAmount_X1_isDigit rfl rfl rfl (by decide +kernel) ⟨Nat.le_of_ble_eq_true rfl, Nat.le_of_ble_eq_true rfl⟩) hK hN hP hS hA [] [] rfl rfl rfl hl.1 rfl (Nat.le_of_ble_eq_true rfl) dX1_readAmount_59 ⟨Nat.zero_le _, Nat.zero_le _⟩ (fun H locs hz9 hP hS => ?_)
                refine wv_ifeqB (tgt := 104) hx hb dX1_readAmount_62 (by decide) (fun _ => ?_) (fun h => by cases h)
                refine lv_iload_n hx hb dX1_readAmount_104 rfl (lv_at hl 2 rfl) ?_
                refine wv_ifeqB (tgt := 117) hx hb dX1_readAmount_105 (by decide) (fun c105 => ?_) (fun c105 => ?_)
                · skip
                  refine lv_iload_n hx hb dX1_readAmount_117 rfl (lv_at hl 3 rfl) ?_
                  refine wv_if_le (tgt := 125) hx hb (by omega) dX1_readAmount_118 (by decide) (fun c118 => ?_) (fun c118 => ?_)
                  · skip
                    refine lv_iconst (v := nI 0) hx hb dX1_readAmount_125 (by decide) ?_
                    have ew0_nx : ncP tx ln nx sg = nuQ tx ln nx sg + d := by unfold ncP; rw [if_pos hsp, hE9]
                    have ew0_am : ncA tx ln nx sg am = nI (dgv tx (nuQ tx ln nx sg) d) := by unfold ncA nuV; rw [if_pos hsp, hE9, Nat.add_sub_cancel_left]; first | rw [if_pos c105] | rw [if_neg (by rw [c105]; decide)]
                    exact wv_zretM (b := false) hx hb hr hlocks hP hD hS rfl (by unfold ncC; rw [hsp, hE9]; first | (rw [decide_eq_true (by omega)]; rfl) | (rw [decide_eq_false (by omega)]; rfl)) (by rw [ew0_am, ew0_nx]) dX1_readAmount_126
                  · skip
                    refine lv_iconst (v := nI 1) hx hb dX1_readAmount_121 (by decide) ?_
                    refine lv_goto (tgt := 126) hx hb dX1_readAmount_122 (by decide) ?_
                    have ew0_nx : ncP tx ln nx sg = nuQ tx ln nx sg + d := by unfold ncP; rw [if_pos hsp, hE9]
                    have ew0_am : ncA tx ln nx sg am = nI (dgv tx (nuQ tx ln nx sg) d) := by unfold ncA nuV; rw [if_pos hsp, hE9, Nat.add_sub_cancel_left]; first | rw [if_pos c105] | rw [if_neg (by rw [c105]; decide)]
                    exact wv_zretM (b := true) hx hb hr hlocks hP hD hS rfl (by unfold ncC; rw [hsp, hE9]; first | (rw [decide_eq_true (by omega)]; rfl) | (rw [decide_eq_false (by omega)]; rfl)) (by rw [ew0_am, ew0_nx]) dX1_readAmount_126
                · skip
                  refine lv_aload_n hx hb dX1_readAmount_108 rfl (lv_at hl 0 rfl) ?_
                  refine lv_aload_n hx hb dX1_readAmount_109 rfl (lv_at hl 0 rfl) ?_
                  refine va_get (D := D) (ci := 0) (C := RX1) (T := TX1) (N := 7) hx hb hts hinX1 hown hK hP 0 rfl rfl 3 (by decide) (hts (.fieldLink RX1 59 "NearRanks$CommandText" "amount" "I") (by decide +kernel)) (fun _ h9 => h9) rfl dX1_readAmount_110 ?_
                  refine lv_ineg hx hb dX1_readAmount_113 ?_
                  refine va_put (D := D) (ci := 0) (v := .int (-(nI (dgv tx (nuQ tx ln nx sg) d)))) (ty := .int) (C := RX1) (T := TX1) (N := 7) hx hb hts hinX1 tyX1 tyX1_ok nmX1 hown hK hP hD hS 0 rfl rfl 3 (by decide) (hts (.fieldLink RX1 59 "NearRanks$CommandText" "amount" "I") (by decide +kernel)) (fun _ h9 => h9) rfl (by decide +kernel) rfl rfl (Nat.le_of_ble_eq_true rfl) dX1_readAmount_114 (fun H locs hP hD hS => ?_)
                  have hP : va_P D vwCl (CmdC co ba cB (tN tx) ln (nuQ tx ln nx sg + d) (-(nI (dgv tx (nuQ tx ln nx sg) d))) wd nb vl) H := hP
                  have hD : va_D _ (CmdC co ba cB (tN tx) ln (nuQ tx ln nx sg + d) (-(nI (dgv tx (nuQ tx ln nx sg) d))) wd nb vl) := hD
                  refine lv_iload_n hx hb dX1_readAmount_117 rfl (lv_at hl 3 rfl) ?_
                  refine wv_if_le (tgt := 125) hx hb (by omega) dX1_readAmount_118 (by decide) (fun c118 => ?_) (fun c118 => ?_)
                  · skip
                    refine lv_iconst (v := nI 0) hx hb dX1_readAmount_125 (by decide) ?_
                    have ew0_nx : ncP tx ln nx sg = nuQ tx ln nx sg + d := by unfold ncP; rw [if_pos hsp, hE9]
                    have ew0_am : ncA tx ln nx sg am = -(nI (dgv tx (nuQ tx ln nx sg) d)) := by unfold ncA nuV; rw [if_pos hsp, hE9, Nat.add_sub_cancel_left]; first | rw [if_pos c105] | rw [if_neg (by rw [c105]; decide)]
                    exact wv_zretM (b := false) hx hb hr hlocks hP hD hS rfl (by unfold ncC; rw [hsp, hE9]; first | (rw [decide_eq_true (by omega)]; rfl) | (rw [decide_eq_false (by omega)]; rfl)) (by rw [ew0_am, ew0_nx]) dX1_readAmount_126
                  · skip
                    refine lv_iconst (v := nI 1) hx hb dX1_readAmount_121 (by decide) ?_
                    refine lv_goto (tgt := 126) hx hb dX1_readAmount_122 (by decide) ?_
                    have ew0_nx : ncP tx ln nx sg = nuQ tx ln nx sg + d := by unfold ncP; rw [if_pos hsp, hE9]
                    have ew0_am : ncA tx ln nx sg am = -(nI (dgv tx (nuQ tx ln nx sg) d)) := by unfold ncA nuV; rw [if_pos hsp, hE9, Nat.add_sub_cancel_left]; first | rw [if_pos c105] | rw [if_neg (by rw [c105]; decide)]
                    exact wv_zretM (b := true) hx hb hr hlocks hP hD hS rfl (by unfold ncC; rw [hsp, hE9]; first | (rw [decide_eq_true (by omega)]; rfl) | (rw [decide_eq_false (by omega)]; rfl)) (by rw [ew0_am, ew0_nx]) dX1_readAmount_126
        exact loop45 (9 - 0 + 1) 0 (by omega) (by first | assumption | omega) (by omega) (by rfl) _ _ (by first | (rw [el_w0_am, el_l2, el_w0_nx]; exact hP) | (simp only [el_w0_am, el_l2, el_w0_nx]; exact hP) | exact hP) (by first | (rw [el_w0_am, el_l2, el_w0_nx]; exact hD) | (simp only [el_w0_am, el_l2, el_w0_nx]; exact hD) | exact hD) hS ls (by first | (rw [el_w0_am, el_l2, el_w0_nx]; exact lv_sub hl [2, 3, 1, 0] rfl) | (simp only [el_w0_am, el_l2, el_w0_nx]; exact lv_sub hl [2, 3, 1, 0] rfl) | exact lv_sub hl [2, 3, 1, 0] rfl)
      · skip
        refine lv_aload_n hx hb dX1_readAmount_23 rfl (lv_at hl 0 rfl) ?_
        refine lv_bipush (v := nI 45) hx hb dX1_readAmount_24 (by decide) ?_
        refine wv_callMi (As := [.int (nI 45)]) (rest := []) (wr := []) (ws1 := CmdC co ba cB (tN tx) ln (if isA tx ln 45 45 (skS tx ln nx) then (skS tx ln nx) + 1 else (skS tx ln nx)) am wd nb vl) ⟨hx, hb, hml, hown, hts⟩ (kX1_readByte l D co ba cB tx ln (skS tx ln nx) am wd nb vl 45 (by first | assumption | omega) (by first | assumption | omega) (by first | assumption | omega) (by first | assumption | omega)) (cwV 1 hts gX1_readAmount_X1_readByte rfl rfl rfl (by decide +kernel) ⟨Nat.le_of_ble_eq_true rfl, Nat.le_of_ble_eq_true rfl⟩) hK hN hP hD hS hA [0, 1] [] [0] [0, 1] rfl rfl (by decide) rfl (by decide) (by decide) rfl (by decide) rfl 0 0 rfl rfl rfl rfl hl.1 rfl (Nat.le_of_ble_eq_true rfl) dX1_readAmount_26 ⟨Nat.zero_le _, Nat.zero_le _⟩ (fun H locs hz9 hP hD hS => ?_)
        refine wv_ifeqB (tgt := 36) hx hb dX1_readAmount_29 (by decide) (fun c29 => ?_) (fun c29 => ?_)
        · skip
          have hng : nuN tx ln nx sg = false := by unfold nuN; rw [c20, c29]; rfl
          refine lv_iconst (v := nI 0) hx hb dX1_readAmount_36 (by decide) ?_
          refine lv_istore_n (lv' := [(2, .int (nI 0)), (0, .ref co), (1, .int (bI sg))]) hx hb dX1_readAmount_37 rfl hl (by decide) rfl (fun ls hl => ?_)
          refine lv_aload_n hx hb dX1_readAmount_38 rfl (lv_at hl 1 rfl) ?_
          refine lv_iconst (v := nI 0) hx hb dX1_readAmount_39 (by decide) ?_
          refine va_put (D := D) (ci := 0) (v := .int (nI 0)) (ty := .int) (C := RX1) (T := TX1) (N := 7) hx hb hts hinX1 tyX1 tyX1_ok nmX1 hown hK hP hD hS 0 rfl rfl 3 (by decide) (hts (.fieldLink RX1 59 "NearRanks$CommandText" "amount" "I") (by decide +kernel)) (fun _ h9 => h9) rfl (by decide +kernel) rfl rfl (Nat.le_of_ble_eq_true rfl) dX1_readAmount_40 (fun H locs hP hD hS => ?_)
          have hP : va_P D vwCl (CmdC co ba cB (tN tx) ln (if isA tx ln 45 45 (skS tx ln nx) then (skS tx ln nx) + 1 else (skS tx ln nx)) (nI 0) wd nb vl) H := hP
          have hD : va_D _ (CmdC co ba cB (tN tx) ln (if isA tx ln 45 45 (skS tx ln nx) then (skS tx ln nx) + 1 else (skS tx ln nx)) (nI 0) wd nb vl) := hD
          refine lv_iconst (v := nI 0) hx hb dX1_readAmount_43 (by decide) ?_
          refine lv_istore_n (lv' := [(3, .int (nI 0)), (2, .int (nI 0)), (0, .ref co), (1, .int (bI sg))]) hx hb dX1_readAmount_44 rfl hl (by decide) rfl (fun ls hl => ?_)
          have el_l2 : bI (nuN tx ln nx sg) = nI 0 := by rw [hng]; rfl
          have el_w0_nx : nuQ tx ln nx sg + 0 = (if isA tx ln 45 45 (skS tx ln nx) then (skS tx ln nx) + 1 else (skS tx ln nx)) := by first | (simp [nuQ, hng]; done) | (simp [nuQ, hng, c29]; done)
          have el_w0_am : nI (dgv tx (nuQ tx ln nx sg) 0) = nI 0 := by rfl
          have loop45 : ∀ (K : Nat) (d : Nat), 9 - d < K → d ≤ 9 → nuQ tx ln nx sg + d ≤ ln → nuE tx ln nx sg = rn (isA tx ln 48 57) (9 - d) (nuQ tx ln nx sg + d) → ∀ (H : Heap) (locs : List Loc), va_P D vwCl (CmdC co ba cB (tN tx) ln (nuQ tx ln nx sg + d) (nI (dgv tx (nuQ tx ln nx sg) d)) wd nb vl) H → va_D (va_A (CmdC co ba cB (tN tx) ln nx am wd nb vl) s.heap.size) (CmdC co ba cB (tN tx) ln (nuQ tx ln nx sg + d) (nI (dgv tx (nuQ tx ln nx sg) d)) wd nb vl) → va_S (va_A (CmdC co ba cB (tN tx) ln nx am wd nb vl) s.heap.size) s.heap H locs → ∀ ls : Array Slot, lv_has ls 4 [(0, .ref co), (1, .int (bI sg)), (2, .int (bI (nuN tx ln nx sg))), (3, .int (nI d))] → W p l e ({ frames := 2, cells := 0, slots := 0, locals := 42 } : Room) s m args below meth c H locs 0 0 (ZMi below args s D (CmdC co ba cB (tN tx) ln nx am wd nb vl) (bI (ncC tx ln nx sg)) (CmdC co ba cB (tN tx) ln (ncP tx ln nx sg) (ncA tx ln nx sg am) wd nb vl)) (F0 m 45 ls []) := by
            intro K
            induction K with
            | zero => intro d hK0; exact absurd hK0 (Nat.not_lt_zero _)
            | succ K ih45 =>
              intro d hKm hd hpd hrn H locs hP hD hS ls hl
              refine lv_iload_n hx hb dX1_readAmount_45 rfl (lv_at hl 3 rfl) ?_
              refine lv_bipush (v := nI 9) hx hb dX1_readAmount_46 (by decide) ?_
              refine wv_icmp_ge (tgt := 104) hx hb (by omega) (by omega) dX1_readAmount_48 (by decide) (fun c48 => ?_) (fun c48 => ?_)
              · skip
                have hE9 : nuE tx ln nx sg = nuQ tx ln nx sg + d := by rw [hrn, show 9 - d = 0 by omega]; rfl
                refine lv_iload_n hx hb dX1_readAmount_104 rfl (lv_at hl 2 rfl) ?_
                refine wv_ifeqB (tgt := 117) hx hb dX1_readAmount_105 (by decide) (fun c105 => ?_) (fun c105 => ?_)
                · skip
                  refine lv_iload_n hx hb dX1_readAmount_117 rfl (lv_at hl 3 rfl) ?_
                  refine wv_if_le (tgt := 125) hx hb (by omega) dX1_readAmount_118 (by decide) (fun c118 => ?_) (fun c118 => ?_)
                  · skip
                    refine lv_iconst (v := nI 0) hx hb dX1_readAmount_125 (by decide) ?_
                    have ew0_nx : ncP tx ln nx sg = nuQ tx ln nx sg + d := by unfold ncP; rw [if_pos hsp, hE9]
                    have ew0_am : ncA tx ln nx sg am = nI (dgv tx (nuQ tx ln nx sg) d) := by unfold ncA nuV; rw [if_pos hsp, hE9, Nat.add_sub_cancel_left]; first | rw [if_pos c105] | rw [if_neg (by rw [c105]; decide)]
                    exact wv_zretM (b := false) hx hb hr hlocks hP hD hS rfl (by unfold ncC; rw [hsp, hE9]; first | (rw [decide_eq_true (by omega)]; rfl) | (rw [decide_eq_false (by omega)]; rfl)) (by rw [ew0_am, ew0_nx]) dX1_readAmount_126
                  · skip
                    refine lv_iconst (v := nI 1) hx hb dX1_readAmount_121 (by decide) ?_
                    refine lv_goto (tgt := 126) hx hb dX1_readAmount_122 (by decide) ?_
                    have ew0_nx : ncP tx ln nx sg = nuQ tx ln nx sg + d := by unfold ncP; rw [if_pos hsp, hE9]
                    have ew0_am : ncA tx ln nx sg am = nI (dgv tx (nuQ tx ln nx sg) d) := by unfold ncA nuV; rw [if_pos hsp, hE9, Nat.add_sub_cancel_left]; first | rw [if_pos c105] | rw [if_neg (by rw [c105]; decide)]
                    exact wv_zretM (b := true) hx hb hr hlocks hP hD hS rfl (by unfold ncC; rw [hsp, hE9]; first | (rw [decide_eq_true (by omega)]; rfl) | (rw [decide_eq_false (by omega)]; rfl)) (by rw [ew0_am, ew0_nx]) dX1_readAmount_126
                · skip
                  refine lv_aload_n hx hb dX1_readAmount_108 rfl (lv_at hl 0 rfl) ?_
                  refine lv_aload_n hx hb dX1_readAmount_109 rfl (lv_at hl 0 rfl) ?_
                  refine va_get (D := D) (ci := 0) (C := RX1) (T := TX1) (N := 7) hx hb hts hinX1 hown hK hP 0 rfl rfl 3 (by decide) (hts (.fieldLink RX1 59 "NearRanks$CommandText" "amount" "I") (by decide +kernel)) (fun _ h9 => h9) rfl dX1_readAmount_110 ?_
                  refine lv_ineg hx hb dX1_readAmount_113 ?_
                  refine va_put (D := D) (ci := 0) (v := .int (-(nI (dgv tx (nuQ tx ln nx sg) d)))) (ty := .int) (C := RX1) (T := TX1) (N := 7) hx hb hts hinX1 tyX1 tyX1_ok nmX1 hown hK hP hD hS 0 rfl rfl 3 (by decide) (hts (.fieldLink RX1 59 "NearRanks$CommandText" "amount" "I") (by decide +kernel)) (fun _ h9 => h9) rfl (by decide +kernel) rfl rfl (Nat.le_of_ble_eq_true rfl) dX1_readAmount_114 (fun H locs hP hD hS => ?_)
                  have hP : va_P D vwCl (CmdC co ba cB (tN tx) ln (nuQ tx ln nx sg + d) (-(nI (dgv tx (nuQ tx ln nx sg) d))) wd nb vl) H := hP
                  have hD : va_D _ (CmdC co ba cB (tN tx) ln (nuQ tx ln nx sg + d) (-(nI (dgv tx (nuQ tx ln nx sg) d))) wd nb vl) := hD
                  refine lv_iload_n hx hb dX1_readAmount_117 rfl (lv_at hl 3 rfl) ?_
                  refine wv_if_le (tgt := 125) hx hb (by omega) dX1_readAmount_118 (by decide) (fun c118 => ?_) (fun c118 => ?_)
                  · skip
                    refine lv_iconst (v := nI 0) hx hb dX1_readAmount_125 (by decide) ?_
                    have ew0_nx : ncP tx ln nx sg = nuQ tx ln nx sg + d := by unfold ncP; rw [if_pos hsp, hE9]
                    have ew0_am : ncA tx ln nx sg am = -(nI (dgv tx (nuQ tx ln nx sg) d)) := by unfold ncA nuV; rw [if_pos hsp, hE9, Nat.add_sub_cancel_left]; first | rw [if_pos c105] | rw [if_neg (by rw [c105]; decide)]
                    exact wv_zretM (b := false) hx hb hr hlocks hP hD hS rfl (by unfold ncC; rw [hsp, hE9]; first | (rw [decide_eq_true (by omega)]; rfl) | (rw [decide_eq_false (by omega)]; rfl)) (by rw [ew0_am, ew0_nx]) dX1_readAmount_126
                  · skip
                    refine lv_iconst (v := nI 1) hx hb dX1_readAmount_121 (by decide) ?_
                    refine lv_goto (tgt := 126) hx hb dX1_readAmount_122 (by decide) ?_
                    have ew0_nx : ncP tx ln nx sg = nuQ tx ln nx sg + d := by unfold ncP; rw [if_pos hsp, hE9]
                    have ew0_am : ncA tx ln nx sg am = -(nI (dgv tx (nuQ tx ln nx sg) d)) := by unfold ncA nuV; rw [if_pos hsp, hE9, Nat.add_sub_cancel_left]; first | rw [if_pos c105] | rw [if_neg (by rw [c105]; decide)]
                    exact wv_zretM (b := true) hx hb hr hlocks hP hD hS rfl (by unfold ncC; rw [hsp, hE9]; first | (rw [decide_eq_true (by omega)]; rfl) | (rw [decide_eq_false (by omega)]; rfl)) (by rw [ew0_am, ew0_nx]) dX1_readAmount_126
              · skip
                refine lv_aload_n hx hb dX1_readAmount_51 rfl (lv_at hl 0 rfl) ?_
                refine lv_aload_n hx hb dX1_readAmount_52 rfl (lv_at hl 0 rfl) ?_
                refine va_get (D := D) (ci := 0) (C := RX1) (T := TX1) (N := 7) hx hb hts hinX1 hown hK hP 0 rfl rfl 2 (by decide) (hts (.fieldLink RX1 32 "NearRanks$CommandText" "next" "I") (by decide +kernel)) (fun _ h9 => h9) rfl dX1_readAmount_53 ?_
                rcases Nat.lt_or_ge (nuQ tx ln nx sg + d) ln with hq | hq
                · skip
                  refine wv_callPi (As := [.int (nI (nuQ tx ln nx sg + d))]) (rest := []) ⟨hx, hb, hml, hown, hts⟩ (kX1_byteAt l D co ba cB tx ln (nuQ tx ln nx sg + d) (nI (dgv tx (nuQ tx ln nx sg) d)) wd nb vl (nuQ tx ln nx sg + d) (by first | assumption | omega) (by first | assumption | omega)) (cwV 1 hts gX1_readAmount_X1_byteAt rfl rfl rfl (by decide +kernel) ⟨Nat.le_of_ble_eq_true rfl, Nat.le_of_ble_eq_true rfl⟩) hK hN hP hS hA [0, 1] [0] rfl rfl 0 0 rfl rfl rfl rfl hl.1 rfl (Nat.le_of_ble_eq_true rfl) dX1_readAmount_56 ⟨Nat.zero_le _, Nat.zero_le _⟩ (fun H locs hz9 hP hS => ?_)
                  refine wv_callSi (As := [.int (nI (tx (nuQ tx ln nx sg + d)))]) (rest := []) ⟨hx, hb, hml, hown, hts⟩ (kX1_isDigit l D (tx (nuQ tx ln nx sg + d)) (htx _)) (va_cwS 1 hts gX1_readAmount_X1_isDigit rfl rfl rfl (by decide +kernel) ⟨Nat.le_of_ble_eq_true rfl, Nat.le_of_ble_eq_true rfl⟩) hK hN hP hS hA [] [] rfl rfl rfl hl.1 rfl (Nat.le_of_ble_eq_true rfl) dX1_readAmount_59 ⟨Nat.zero_le _, Nat.zero_le _⟩ (fun H locs hz9 hP hS => ?_)
                  refine wv_ifeqB (tgt := 104) hx hb dX1_readAmount_62 (by decide) (fun c62 => ?_) (fun c62 => ?_)
                  · skip
                    have hdt : isA tx ln 48 57 (nuQ tx ln nx sg + d) = false := isA_f (by have h9 : ¬ (48 ≤ tx (nuQ tx ln nx sg + d) ∧ tx (nuQ tx ln nx sg + d) ≤ 57) := (by simpa using c62); omega)
                    have hE9 : nuE tx ln nx sg = nuQ tx ln nx sg + d := by rw [hrn, rn_f hdt]
                    refine lv_iload_n hx hb dX1_readAmount_104 rfl (lv_at hl 2 rfl) ?_
                    refine wv_ifeqB (tgt := 117) hx hb dX1_readAmount_105 (by decide) (fun c105 => ?_) (fun c105 => ?_)
                    · skip
                      refine lv_iload_n hx hb dX1_readAmount_117 rfl (lv_at hl 3 rfl) ?_
                      refine wv_if_le (tgt := 125) hx hb (by omega) dX1_readAmount_118 (by decide) (fun c118 => ?_) (fun c118 => ?_)
                      · skip
                        refine lv_iconst (v := nI 0) hx hb dX1_readAmount_125 (by decide) ?_
                        have ew0_nx : ncP tx ln nx sg = nuQ tx ln nx sg + d := by unfold ncP; rw [if_pos hsp, hE9]
                        have ew0_am : ncA tx ln nx sg am = nI (dgv tx (nuQ tx ln nx sg) d) := by unfold ncA nuV; rw [if_pos hsp, hE9, Nat.add_sub_cancel_left]; first | rw [if_pos c105] | rw [if_neg (by rw [c105]; decide)]
                        exact wv_zretM (b := false) hx hb hr hlocks hP hD hS rfl (by unfold ncC; rw [hsp, hE9]; first | (rw [decide_eq_true (by omega)]; rfl) | (rw [decide_eq_false (by omega)]; rfl)) (by rw [ew0_am, ew0_nx]) dX1_readAmount_126
                      · skip
                        refine lv_iconst (v := nI 1) hx hb dX1_readAmount_121 (by decide) ?_
                        refine lv_goto (tgt := 126) hx hb dX1_readAmount_122 (by decide) ?_
                        have ew0_nx : ncP tx ln nx sg = nuQ tx ln nx sg + d := by unfold ncP; rw [if_pos hsp, hE9]
                        have ew0_am : ncA tx ln nx sg am = nI (dgv tx (nuQ tx ln nx sg) d) := by unfold ncA nuV; rw [if_pos hsp, hE9, Nat.add_sub_cancel_left]; first | rw [if_pos c105] | rw [if_neg (by rw [c105]; decide)]
                        exact wv_zretM (b := true) hx hb hr hlocks hP hD hS rfl (by unfold ncC; rw [hsp, hE9]; first | (rw [decide_eq_true (by omega)]; rfl) | (rw [decide_eq_false (by omega)]; rfl)) (by rw [ew0_am, ew0_nx]) dX1_readAmount_126
                    · skip
                      refine lv_aload_n hx hb dX1_readAmount_108 rfl (lv_at hl 0 rfl) ?_
                      refine lv_aload_n hx hb dX1_readAmount_109 rfl (lv_at hl 0 rfl) ?_
                      refine va_get (D := D) (ci := 0) (C := RX1) (T := TX1) (N := 7) hx hb hts hinX1 hown hK hP 0 rfl rfl 3 (by decide) (hts (.fieldLink RX1 59 "NearRanks$CommandText" "amount" "I") (by decide +kernel)) (fun _ h9 => h9) rfl dX1_readAmount_110 ?_
                      refine lv_ineg hx hb dX1_readAmount_113 ?_
                      refine va_put (D := D) (ci := 0) (v := .int (-(nI (dgv tx (nuQ tx ln nx sg) d)))) (ty := .int) (C := RX1) (T := TX1) (N := 7) hx hb hts hinX1 tyX1 tyX1_ok nmX1 hown hK hP hD hS 0 rfl rfl 3 (by decide) (hts (.fieldLink RX1 59 "NearRanks$CommandText" "amount" "I") (by decide +kernel)) (fun _ h9 => h9) rfl (by decide +kernel) rfl rfl (Nat.le_of_ble_eq_true rfl) dX1_readAmount_114 (fun H locs hP hD hS => ?_)
                      have hP : va_P D vwCl (CmdC co ba cB (tN tx) ln (nuQ tx ln nx sg + d) (-(nI (dgv tx (nuQ tx ln nx sg) d))) wd nb vl) H := hP
                      have hD : va_D _ (CmdC co ba cB (tN tx) ln (nuQ tx ln nx sg + d) (-(nI (dgv tx (nuQ tx ln nx sg) d))) wd nb vl) := hD
                      refine lv_iload_n hx hb dX1_readAmount_117 rfl (lv_at hl 3 rfl) ?_
                      refine wv_if_le (tgt := 125) hx hb (by omega) dX1_readAmount_118 (by decide) (fun c118 => ?_) (fun c118 => ?_)
                      · skip
                        refine lv_iconst (v := nI 0) hx hb dX1_readAmount_125 (by decide) ?_
                        have ew0_nx : ncP tx ln nx sg = nuQ tx ln nx sg + d := by unfold ncP; rw [if_pos hsp, hE9]
                        have ew0_am : ncA tx ln nx sg am = -(nI (dgv tx (nuQ tx ln nx sg) d)) := by unfold ncA nuV; rw [if_pos hsp, hE9, Nat.add_sub_cancel_left]; first | rw [if_pos c105] | rw [if_neg (by rw [c105]; decide)]
                        exact wv_zretM (b := false) hx hb hr hlocks hP hD hS rfl (by unfold ncC; rw [hsp, hE9]; first | (rw [decide_eq_true (by omega)]; rfl) | (rw [decide_eq_false (by omega)]; rfl)) (by rw [ew0_am, ew0_nx]) dX1_readAmount_126
                      · skip
                        refine lv_iconst (v := nI 1) hx hb dX1_readAmount_121 (by decide) ?_
                        refine lv_goto (tgt := 126) hx hb dX1_readAmount_122 (by decide) ?_
                        have ew0_nx : ncP tx ln nx sg = nuQ tx ln nx sg + d := by unfold ncP; rw [if_pos hsp, hE9]
                        have ew0_am : ncA tx ln nx sg am = -(nI (dgv tx (nuQ tx ln nx sg) d)) := by unfold ncA nuV; rw [if_pos hsp, hE9, Nat.add_sub_cancel_left]; first | rw [if_pos c105] | rw [if_neg (by rw [c105]; decide)]
                        exact wv_zretM (b := true) hx hb hr hlocks hP hD hS rfl (by unfold ncC; rw [hsp, hE9]; first | (rw [decide_eq_true (by omega)]; rfl) | (rw [decide_eq_false (by omega)]; rfl)) (by rw [ew0_am, ew0_nx]) dX1_readAmount_126
                  · skip
                    have hdg : 48 ≤ tx (nuQ tx ln nx sg + d) ∧ tx (nuQ tx ln nx sg + d) ≤ 57 := by simpa using c62
                    have hdt : isA tx ln 48 57 (nuQ tx ln nx sg + d) = true := isA_t hq hdg.1 hdg.2
                    refine lv_aload_n hx hb dX1_readAmount_65 rfl (lv_at hl 0 rfl) ?_
                    refine lv_bipush (v := nI 10) hx hb dX1_readAmount_66 (by decide) ?_
                    refine lv_aload_n hx hb dX1_readAmount_68 rfl (lv_at hl 0 rfl) ?_
                    refine va_get (D := D) (ci := 0) (C := RX1) (T := TX1) (N := 7) hx hb hts hinX1 hown hK hP 0 rfl rfl 3 (by decide) (hts (.fieldLink RX1 59 "NearRanks$CommandText" "amount" "I") (by decide +kernel)) (fun _ h9 => h9) rfl dX1_readAmount_69 ?_
                    refine lv_imul hx hb dX1_readAmount_72 ?_
                    refine wv_ti (pk_mul _ _) ?_
                    refine lv_aload_n hx hb dX1_readAmount_73 rfl (lv_at hl 0 rfl) ?_
                    refine lv_aload_n hx hb dX1_readAmount_74 rfl (lv_at hl 0 rfl) ?_
                    refine va_get (D := D) (ci := 0) (C := RX1) (T := TX1) (N := 7) hx hb hts hinX1 hown hK hP 0 rfl rfl 2 (by decide) (hts (.fieldLink RX1 32 "NearRanks$CommandText" "next" "I") (by decide +kernel)) (fun _ h9 => h9) rfl dX1_readAmount_75 ?_
                    refine wv_callPi (As := [.int (nI (nuQ tx ln nx sg + d))]) (rest := [.int (nI (10 * (dgv tx (nuQ tx ln nx sg) d))), .ref co]) ⟨hx, hb, hml, hown, hts⟩ (kX1_byteAt l D co ba cB tx ln (nuQ tx ln nx sg + d) (nI (dgv tx (nuQ tx ln nx sg) d)) wd nb vl (nuQ tx ln nx sg + d) (by first | assumption | omega) (by first | assumption | omega)) (cwV 1 hts gX1_readAmount_X1_byteAt rfl rfl rfl (by decide +kernel) ⟨Nat.le_of_ble_eq_true rfl, Nat.le_of_ble_eq_true rfl⟩) hK hN hP hS hA [0, 1] [0] rfl rfl 0 0 rfl rfl rfl rfl hl.1 rfl (Nat.le_of_ble_eq_true rfl) dX1_readAmount_78 ⟨Nat.zero_le _, Nat.zero_le _⟩ (fun H locs hz9 hP hS => ?_)
                    refine lv_iadd hx hb dX1_readAmount_81 ?_
                    refine wv_ti (nI_add _ _) ?_
                    refine lv_bipush (v := nI 48) hx hb dX1_readAmount_82 (by decide) ?_
                    refine lv_isub hx hb dX1_readAmount_84 ?_
                    refine wv_ti (pk_sub (by omega)) ?_
                    refine va_put (D := D) (ci := 0) (v := .int (nI (((10 * (dgv tx (nuQ tx ln nx sg) d)) + (tx (nuQ tx ln nx sg + d))) - 48))) (ty := .int) (C := RX1) (T := TX1) (N := 7) hx hb hts hinX1 tyX1 tyX1_ok nmX1 hown hK hP hD hS 0 rfl rfl 3 (by decide) (hts (.fieldLink RX1 59 "NearRanks$CommandText" "amount" "I") (by decide +kernel)) (fun _ h9 => h9) rfl (by decide +kernel) rfl rfl (Nat.le_of_ble_eq_true rfl) dX1_readAmount_85 (fun H locs hP hD hS => ?_)
                    have hP : va_P D vwCl (CmdC co ba cB (tN tx) ln (nuQ tx ln nx sg + d) (nI (((10 * (dgv tx (nuQ tx ln nx sg) d)) + (tx (nuQ tx ln nx sg + d))) - 48)) wd nb vl) H := hP
                    have hD : va_D _ (CmdC co ba cB (tN tx) ln (nuQ tx ln nx sg + d) (nI (((10 * (dgv tx (nuQ tx ln nx sg) d)) + (tx (nuQ tx ln nx sg + d))) - 48)) wd nb vl) := hD
                    refine lv_aload_n hx hb dX1_readAmount_88 rfl (lv_at hl 0 rfl) ?_
                    refine lv_dup hx hb dX1_readAmount_89 rfl ?_
                    refine va_get (D := D) (ci := 0) (C := RX1) (T := TX1) (N := 7) hx hb hts hinX1 hown hK hP 0 rfl rfl 2 (by decide) (hts (.fieldLink RX1 32 "NearRanks$CommandText" "next" "I") (by decide +kernel)) (fun _ h9 => h9) rfl dX1_readAmount_90 ?_
                    refine lv_iconst (v := nI 1) hx hb dX1_readAmount_93 (by decide) ?_
                    refine lv_iadd hx hb dX1_readAmount_94 ?_
                    refine wv_ti (nI_add _ _) ?_
                    refine va_put (D := D) (ci := 0) (v := .int (nI ((nuQ tx ln nx sg + d) + 1))) (ty := .int) (C := RX1) (T := TX1) (N := 7) hx hb hts hinX1 tyX1 tyX1_ok nmX1 hown hK hP hD hS 0 rfl rfl 2 (by decide) (hts (.fieldLink RX1 32 "NearRanks$CommandText" "next" "I") (by decide +kernel)) (fun _ h9 => h9) rfl (by decide +kernel) rfl rfl (Nat.le_of_ble_eq_true rfl) dX1_readAmount_95 (fun H locs hP hD hS => ?_)
                    have hP : va_P D vwCl (CmdC co ba cB (tN tx) ln ((nuQ tx ln nx sg + d) + 1) (nI (((10 * (dgv tx (nuQ tx ln nx sg) d)) + (tx (nuQ tx ln nx sg + d))) - 48)) wd nb vl) H := hP
                    have hD : va_D _ (CmdC co ba cB (tN tx) ln ((nuQ tx ln nx sg + d) + 1) (nI (((10 * (dgv tx (nuQ tx ln nx sg) d)) + (tx (nuQ tx ln nx sg + d))) - 48)) wd nb vl) := hD
                    refine lv_iinc (v := nI (d + 1)) (lv' := [(3, .int (nI (d + 1))), (0, .ref co), (1, .int (bI sg)), (2, .int (bI (nuN tx ln nx sg)))]) hx hb dX1_readAmount_98 hl (k := 3) rfl (nI_1 _) (by decide) rfl (fun ls hl => ?_)
                    refine lv_goto (tgt := 45) hx hb dX1_readAmount_101 (by decide) ?_
                    have el_w0_nx : nuQ tx ln nx sg + (d + 1) = (nuQ tx ln nx sg + d) + 1 := by rfl
                    have el_w0_am : nI (dgv tx (nuQ tx ln nx sg) (d + 1)) = nI (((10 * (dgv tx (nuQ tx ln nx sg) d)) + (tx (nuQ tx ln nx sg + d))) - 48) := by show nI (10 * dgv _ _ _ + (_ - 48)) = _; congr 1; omega
                    exact ih45 (d + 1) (by omega) (by first | assumption | omega) (by omega) (by rw [hrn, show 9 - d = (9 - (d + 1)) + 1 by omega, rn_t hdt]; rfl) _ _ (by first | (rw [el_w0_am, el_w0_nx]; exact hP) | (simp only [el_w0_am, el_w0_nx]; exact hP) | exact hP) (by first | (rw [el_w0_am, el_w0_nx]; exact hD) | (simp only [el_w0_am, el_w0_nx]; exact hD) | exact hD) hS ls (by first | (rw [el_w0_am, el_w0_nx]; exact lv_sub hl [1, 2, 3, 0] rfl) | (simp only [el_w0_am, el_w0_nx]; exact lv_sub hl [1, 2, 3, 0] rfl) | exact lv_sub hl [1, 2, 3, 0] rfl)
                · skip
                  have hdt : isA tx ln 48 57 (nuQ tx ln nx sg + d) = false := isA_f (by omega)
                  have hE9 : nuE tx ln nx sg = nuQ tx ln nx sg + d := by rw [hrn, rn_f hdt]
                  refine wv_callPi (As := [.int (nI (nuQ tx ln nx sg + d))]) (rest := []) ⟨hx, hb, hml, hown, hts⟩ (kX1_byteAt_out l D co ba cB tx ln (nuQ tx ln nx sg + d) (nI (dgv tx (nuQ tx ln nx sg) d)) wd nb vl (nuQ tx ln nx sg + d) (by first | assumption | omega) (by first | assumption | omega) (by omega)) (cwV 1 hts gX1_readAmount_X1_byteAt rfl rfl rfl (by decide +kernel) ⟨Nat.le_of_ble_eq_true rfl, Nat.le_of_ble_eq_true rfl⟩) hK hN hP hS hA [0, 1] [0] rfl rfl 0 0 rfl rfl rfl rfl hl.1 rfl (Nat.le_of_ble_eq_true rfl) dX1_readAmount_56 ⟨Nat.zero_le _, Nat.zero_le _⟩ (fun H locs hz9 hP hS => ?_)
                  refine wv_callSi (As := [.int (-1)]) (rest := []) ⟨hx, hb, hml, hown, hts⟩ (kX1_isDigit_out l D ) (va_cwS 1 hts gX1_readAmount_X1_isDigit rfl rfl rfl (by decide +kernel) ⟨Nat.le_of_ble_eq_true rfl, Nat.le_of_ble_eq_true rfl⟩) hK hN hP hS hA [] [] rfl rfl rfl hl.1 rfl (Nat.le_of_ble_eq_true rfl) dX1_readAmount_59 ⟨Nat.zero_le _, Nat.zero_le _⟩ (fun H locs hz9 hP hS => ?_)
                  refine wv_ifeqB (tgt := 104) hx hb dX1_readAmount_62 (by decide) (fun _ => ?_) (fun h => by cases h)
                  refine lv_iload_n hx hb dX1_readAmount_104 rfl (lv_at hl 2 rfl) ?_
                  refine wv_ifeqB (tgt := 117) hx hb dX1_readAmount_105 (by decide) (fun c105 => ?_) (fun c105 => ?_)
                  · skip
                    refine lv_iload_n hx hb dX1_readAmount_117 rfl (lv_at hl 3 rfl) ?_
                    refine wv_if_le (tgt := 125) hx hb (by omega) dX1_readAmount_118 (by decide) (fun c118 => ?_) (fun c118 => ?_)
                    · skip
                      refine lv_iconst (v := nI 0) hx hb dX1_readAmount_125 (by decide) ?_
                      have ew0_nx : ncP tx ln nx sg = nuQ tx ln nx sg + d := by unfold ncP; rw [if_pos hsp, hE9]
                      have ew0_am : ncA tx ln nx sg am = nI (dgv tx (nuQ tx ln nx sg) d) := by unfold ncA nuV; rw [if_pos hsp, hE9, Nat.add_sub_cancel_left]; first | rw [if_pos c105] | rw [if_neg (by rw [c105]; decide)]
                      exact wv_zretM (b := false) hx hb hr hlocks hP hD hS rfl (by unfold ncC; rw [hsp, hE9]; first | (rw [decide_eq_true (by omega)]; rfl) | (rw [decide_eq_false (by omega)]; rfl)) (by rw [ew0_am, ew0_nx]) dX1_readAmount_126
                    · skip
                      refine lv_iconst (v := nI 1) hx hb dX1_readAmount_121 (by decide) ?_
                      refine lv_goto (tgt := 126) hx hb dX1_readAmount_122 (by decide) ?_
                      have ew0_nx : ncP tx ln nx sg = nuQ tx ln nx sg + d := by unfold ncP; rw [if_pos hsp, hE9]
                      have ew0_am : ncA tx ln nx sg am = nI (dgv tx (nuQ tx ln nx sg) d) := by unfold ncA nuV; rw [if_pos hsp, hE9, Nat.add_sub_cancel_left]; first | rw [if_pos c105] | rw [if_neg (by rw [c105]; decide)]
                      exact wv_zretM (b := true) hx hb hr hlocks hP hD hS rfl (by unfold ncC; rw [hsp, hE9]; first | (rw [decide_eq_true (by omega)]; rfl) | (rw [decide_eq_false (by omega)]; rfl)) (by rw [ew0_am, ew0_nx]) dX1_readAmount_126
                  · skip
                    refine lv_aload_n hx hb dX1_readAmount_108 rfl (lv_at hl 0 rfl) ?_
                    refine lv_aload_n hx hb dX1_readAmount_109 rfl (lv_at hl 0 rfl) ?_
                    refine va_get (D := D) (ci := 0) (C := RX1) (T := TX1) (N := 7) hx hb hts hinX1 hown hK hP 0 rfl rfl 3 (by decide) (hts (.fieldLink RX1 59 "NearRanks$CommandText" "amount" "I") (by decide +kernel)) (fun _ h9 => h9) rfl dX1_readAmount_110 ?_
                    refine lv_ineg hx hb dX1_readAmount_113 ?_
                    refine va_put (D := D) (ci := 0) (v := .int (-(nI (dgv tx (nuQ tx ln nx sg) d)))) (ty := .int) (C := RX1) (T := TX1) (N := 7) hx hb hts hinX1 tyX1 tyX1_ok nmX1 hown hK hP hD hS 0 rfl rfl 3 (by decide) (hts (.fieldLink RX1 59 "NearRanks$CommandText" "amount" "I") (by decide +kernel)) (fun _ h9 => h9) rfl (by decide +kernel) rfl rfl (Nat.le_of_ble_eq_true rfl) dX1_readAmount_114 (fun H locs hP hD hS => ?_)
                    have hP : va_P D vwCl (CmdC co ba cB (tN tx) ln (nuQ tx ln nx sg + d) (-(nI (dgv tx (nuQ tx ln nx sg) d))) wd nb vl) H := hP
                    have hD : va_D _ (CmdC co ba cB (tN tx) ln (nuQ tx ln nx sg + d) (-(nI (dgv tx (nuQ tx ln nx sg) d))) wd nb vl) := hD
                    refine lv_iload_n hx hb dX1_readAmount_117 rfl (lv_at hl 3 rfl) ?_
                    refine wv_if_le (tgt := 125) hx hb (by omega) dX1_readAmount_118 (by decide) (fun c118 => ?_) (fun c118 => ?_)
                    · skip
                      refine lv_iconst (v := nI 0) hx hb dX1_readAmount_125 (by decide) ?_
                      have ew0_nx : ncP tx ln nx sg = nuQ tx ln nx sg + d := by unfold ncP; rw [if_pos hsp, hE9]
                      have ew0_am : ncA tx ln nx sg am = -(nI (dgv tx (nuQ tx ln nx sg) d)) := by unfold ncA nuV; rw [if_pos hsp, hE9, Nat.add_sub_cancel_left]; first | rw [if_pos c105] | rw [if_neg (by rw [c105]; decide)]
                      exact wv_zretM (b := false) hx hb hr hlocks hP hD hS rfl (by unfold ncC; rw [hsp, hE9]; first | (rw [decide_eq_true (by omega)]; rfl) | (rw [decide_eq_false (by omega)]; rfl)) (by rw [ew0_am, ew0_nx]) dX1_readAmount_126
                    · skip
                      refine lv_iconst (v := nI 1) hx hb dX1_readAmount_121 (by decide) ?_
                      refine lv_goto (tgt := 126) hx hb dX1_readAmount_122 (by decide) ?_
                      have ew0_nx : ncP tx ln nx sg = nuQ tx ln nx sg + d := by unfold ncP; rw [if_pos hsp, hE9]
                      have ew0_am : ncA tx ln nx sg am = -(nI (dgv tx (nuQ tx ln nx sg) d)) := by unfold ncA nuV; rw [if_pos hsp, hE9, Nat.add_sub_cancel_left]; first | rw [if_pos c105] | rw [if_neg (by rw [c105]; decide)]
                      exact wv_zretM (b := true) hx hb hr hlocks hP hD hS rfl (by unfold ncC; rw [hsp, hE9]; first | (rw [decide_eq_true (by omega)]; rfl) | (rw [decide_eq_false (by omega)]; rfl)) (by rw [ew0_am, ew0_nx]) dX1_readAmount_126
          exact loop45 (9 - 0 + 1) 0 (by omega) (by first | assumption | omega) (by omega) (by rfl) _ _ (by first | (rw [el_w0_am, el_l2, el_w0_nx]; exact hP) | (simp only [el_w0_am, el_l2, el_w0_nx]; exact hP) | exact hP) (by first | (rw [el_w0_am, el_l2, el_w0_nx]; exact hD) | (simp only [el_w0_am, el_l2, el_w0_nx]; exact hD) | exact hD) hS ls (by first | (rw [el_w0_am, el_l2, el_w0_nx]; exact lv_sub hl [2, 3, 1, 0] rfl) | (simp only [el_w0_am, el_l2, el_w0_nx]; exact lv_sub hl [2, 3, 1, 0] rfl) | exact lv_sub hl [2, 3, 1, 0] rfl)
        · skip
          have hng : nuN tx ln nx sg = true := by unfold nuN; rw [c20, c29]; rfl
          refine lv_iconst (v := nI 1) hx hb dX1_readAmount_32 (by decide) ?_
          refine lv_goto (tgt := 37) hx hb dX1_readAmount_33 (by decide) ?_
          refine lv_istore_n (lv' := [(2, .int (nI 1)), (0, .ref co), (1, .int (bI sg))]) hx hb dX1_readAmount_37 rfl hl (by decide) rfl (fun ls hl => ?_)
          refine lv_aload_n hx hb dX1_readAmount_38 rfl (lv_at hl 1 rfl) ?_
          refine lv_iconst (v := nI 0) hx hb dX1_readAmount_39 (by decide) ?_
          refine va_put (D := D) (ci := 0) (v := .int (nI 0)) (ty := .int) (C := RX1) (T := TX1) (N := 7) hx hb hts hinX1 tyX1 tyX1_ok nmX1 hown hK hP hD hS 0 rfl rfl 3 (by decide) (hts (.fieldLink RX1 59 "NearRanks$CommandText" "amount" "I") (by decide +kernel)) (fun _ h9 => h9) rfl (by decide +kernel) rfl rfl (Nat.le_of_ble_eq_true rfl) dX1_readAmount_40 (fun H locs hP hD hS => ?_)
          have hP : va_P D vwCl (CmdC co ba cB (tN tx) ln (if isA tx ln 45 45 (skS tx ln nx) then (skS tx ln nx) + 1 else (skS tx ln nx)) (nI 0) wd nb vl) H := hP
          have hD : va_D _ (CmdC co ba cB (tN tx) ln (if isA tx ln 45 45 (skS tx ln nx) then (skS tx ln nx) + 1 else (skS tx ln nx)) (nI 0) wd nb vl) := hD
          refine lv_iconst (v := nI 0) hx hb dX1_readAmount_43 (by decide) ?_
          refine lv_istore_n (lv' := [(3, .int (nI 0)), (2, .int (nI 1)), (0, .ref co), (1, .int (bI sg))]) hx hb dX1_readAmount_44 rfl hl (by decide) rfl (fun ls hl => ?_)
          have el_l2 : bI (nuN tx ln nx sg) = nI 1 := by rw [hng]; rfl
          have el_w0_nx : nuQ tx ln nx sg + 0 = (if isA tx ln 45 45 (skS tx ln nx) then (skS tx ln nx) + 1 else (skS tx ln nx)) := by first | (simp [nuQ, hng]; done) | (simp [nuQ, hng, c29]; done)
          have el_w0_am : nI (dgv tx (nuQ tx ln nx sg) 0) = nI 0 := by rfl
          have loop45 : ∀ (K : Nat) (d : Nat), 9 - d < K → d ≤ 9 → nuQ tx ln nx sg + d ≤ ln → nuE tx ln nx sg = rn (isA tx ln 48 57) (9 - d) (nuQ tx ln nx sg + d) → ∀ (H : Heap) (locs : List Loc), va_P D vwCl (CmdC co ba cB (tN tx) ln (nuQ tx ln nx sg + d) (nI (dgv tx (nuQ tx ln nx sg) d)) wd nb vl) H → va_D (va_A (CmdC co ba cB (tN tx) ln nx am wd nb vl) s.heap.size) (CmdC co ba cB (tN tx) ln (nuQ tx ln nx sg + d) (nI (dgv tx (nuQ tx ln nx sg) d)) wd nb vl) → va_S (va_A (CmdC co ba cB (tN tx) ln nx am wd nb vl) s.heap.size) s.heap H locs → ∀ ls : Array Slot, lv_has ls 4 [(0, .ref co), (1, .int (bI sg)), (2, .int (bI (nuN tx ln nx sg))), (3, .int (nI d))] → W p l e ({ frames := 2, cells := 0, slots := 0, locals := 42 } : Room) s m args below meth c H locs 0 0 (ZMi below args s D (CmdC co ba cB (tN tx) ln nx am wd nb vl) (bI (ncC tx ln nx sg)) (CmdC co ba cB (tN tx) ln (ncP tx ln nx sg) (ncA tx ln nx sg am) wd nb vl)) (F0 m 45 ls []) := by
            intro K
            induction K with
            | zero => intro d hK0; exact absurd hK0 (Nat.not_lt_zero _)
            | succ K ih45 =>
              intro d hKm hd hpd hrn H locs hP hD hS ls hl
              refine lv_iload_n hx hb dX1_readAmount_45 rfl (lv_at hl 3 rfl) ?_
              refine lv_bipush (v := nI 9) hx hb dX1_readAmount_46 (by decide) ?_
              refine wv_icmp_ge (tgt := 104) hx hb (by omega) (by omega) dX1_readAmount_48 (by decide) (fun c48 => ?_) (fun c48 => ?_)
              · skip
                have hE9 : nuE tx ln nx sg = nuQ tx ln nx sg + d := by rw [hrn, show 9 - d = 0 by omega]; rfl
                refine lv_iload_n hx hb dX1_readAmount_104 rfl (lv_at hl 2 rfl) ?_
                refine wv_ifeqB (tgt := 117) hx hb dX1_readAmount_105 (by decide) (fun c105 => ?_) (fun c105 => ?_)
                · skip
                  refine lv_iload_n hx hb dX1_readAmount_117 rfl (lv_at hl 3 rfl) ?_
                  refine wv_if_le (tgt := 125) hx hb (by omega) dX1_readAmount_118 (by decide) (fun c118 => ?_) (fun c118 => ?_)
                  · skip
                    refine lv_iconst (v := nI 0) hx hb dX1_readAmount_125 (by decide) ?_
                    have ew0_nx : ncP tx ln nx sg = nuQ tx ln nx sg + d := by unfold ncP; rw [if_pos hsp, hE9]
                    have ew0_am : ncA tx ln nx sg am = nI (dgv tx (nuQ tx ln nx sg) d) := by unfold ncA nuV; rw [if_pos hsp, hE9, Nat.add_sub_cancel_left]; first | rw [if_pos c105] | rw [if_neg (by rw [c105]; decide)]
                    exact wv_zretM (b := false) hx hb hr hlocks hP hD hS rfl (by unfold ncC; rw [hsp, hE9]; first | (rw [decide_eq_true (by omega)]; rfl) | (rw [decide_eq_false (by omega)]; rfl)) (by rw [ew0_am, ew0_nx]) dX1_readAmount_126
                  · skip
                    refine lv_iconst (v := nI 1) hx hb dX1_readAmount_121 (by decide) ?_
                    refine lv_goto (tgt := 126) hx hb dX1_readAmount_122 (by decide) ?_
                    have ew0_nx : ncP tx ln nx sg = nuQ tx ln nx sg + d := by unfold ncP; rw [if_pos hsp, hE9]
                    have ew0_am : ncA tx ln nx sg am = nI (dgv tx (nuQ tx ln nx sg) d) := by unfold ncA nuV; rw [if_pos hsp, hE9, Nat.add_sub_cancel_left]; first | rw [if_pos c105] | rw [if_neg (by rw [c105]; decide)]
                    exact wv_zretM (b := true) hx hb hr hlocks hP hD hS rfl (by unfold ncC; rw [hsp, hE9]; first | (rw [decide_eq_true (by omega)]; rfl) | (rw [decide_eq_false (by omega)]; rfl)) (by rw [ew0_am, ew0_nx]) dX1_readAmount_126
                · skip
                  refine lv_aload_n hx hb dX1_readAmount_108 rfl (lv_at hl 0 rfl) ?_
                  refine lv_aload_n hx hb dX1_readAmount_109 rfl (lv_at hl 0 rfl) ?_
                  refine va_get (D := D) (ci := 0) (C := RX1) (T := TX1) (N := 7) hx hb hts hinX1 hown hK hP 0 rfl rfl 3 (by decide) (hts (.fieldLink RX1 59 "NearRanks$CommandText" "amount" "I") (by decide +kernel)) (fun _ h9 => h9) rfl dX1_readAmount_110 ?_
                  refine lv_ineg hx hb dX1_readAmount_113 ?_
                  refine va_put (D := D) (ci := 0) (v := .int (-(nI (dgv tx (nuQ tx ln nx sg) d)))) (ty := .int) (C := RX1) (T := TX1) (N := 7) hx hb hts hinX1 tyX1 tyX1_ok nmX1 hown hK hP hD hS 0 rfl rfl 3 (by decide) (hts (.fieldLink RX1 59 "NearRanks$CommandText" "amount" "I") (by decide +kernel)) (fun _ h9 => h9) rfl (by decide +kernel) rfl rfl (Nat.le_of_ble_eq_true rfl) dX1_readAmount_114 (fun H locs hP hD hS => ?_)
                  have hP : va_P D vwCl (CmdC co ba cB (tN tx) ln (nuQ tx ln nx sg + d) (-(nI (dgv tx (nuQ tx ln nx sg) d))) wd nb vl) H := hP
                  have hD : va_D _ (CmdC co ba cB (tN tx) ln (nuQ tx ln nx sg + d) (-(nI (dgv tx (nuQ tx ln nx sg) d))) wd nb vl) := hD
                  refine lv_iload_n hx hb dX1_readAmount_117 rfl (lv_at hl 3 rfl) ?_
                  refine wv_if_le (tgt := 125) hx hb (by omega) dX1_readAmount_118 (by decide) (fun c118 => ?_) (fun c118 => ?_)
                  · skip
                    refine lv_iconst (v := nI 0) hx hb dX1_readAmount_125 (by decide) ?_
                    have ew0_nx : ncP tx ln nx sg = nuQ tx ln nx sg + d := by unfold ncP; rw [if_pos hsp, hE9]
                    have ew0_am : ncA tx ln nx sg am = -(nI (dgv tx (nuQ tx ln nx sg) d)) := by unfold ncA nuV; rw [if_pos hsp, hE9, Nat.add_sub_cancel_left]; first | rw [if_pos c105] | rw [if_neg (by rw [c105]; decide)]
                    exact wv_zretM (b := false) hx hb hr hlocks hP hD hS rfl (by unfold ncC; rw [hsp, hE9]; first | (rw [decide_eq_true (by omega)]; rfl) | (rw [decide_eq_false (by omega)]; rfl)) (by rw [ew0_am, ew0_nx]) dX1_readAmount_126
                  · skip
                    refine lv_iconst (v := nI 1) hx hb dX1_readAmount_121 (by decide) ?_
                    refine lv_goto (tgt := 126) hx hb dX1_readAmount_122 (by decide) ?_
                    have ew0_nx : ncP tx ln nx sg = nuQ tx ln nx sg + d := by unfold ncP; rw [if_pos hsp, hE9]
                    have ew0_am : ncA tx ln nx sg am = -(nI (dgv tx (nuQ tx ln nx sg) d)) := by unfold ncA nuV; rw [if_pos hsp, hE9, Nat.add_sub_cancel_left]; first | rw [if_pos c105] | rw [if_neg (by rw [c105]; decide)]
                    exact wv_zretM (b := true) hx hb hr hlocks hP hD hS rfl (by unfold ncC; rw [hsp, hE9]; first | (rw [decide_eq_true (by omega)]; rfl) | (rw [decide_eq_false (by omega)]; rfl)) (by rw [ew0_am, ew0_nx]) dX1_readAmount_126
              · skip
                refine lv_aload_n hx hb dX1_readAmount_51 rfl (lv_at hl 0 rfl) ?_
                refine lv_aload_n hx hb dX1_readAmount_52 rfl (lv_at hl 0 rfl) ?_
                refine va_get (D := D) (ci := 0) (C := RX1) (T := TX1) (N := 7) hx hb hts hinX1 hown hK hP 0 rfl rfl 2 (by decide) (hts (.fieldLink RX1 32 "NearRanks$CommandText" "next" "I") (by decide +kernel)) (fun _ h9 => h9) rfl dX1_readAmount_53 ?_
                rcases Nat.lt_or_ge (nuQ tx ln nx sg + d) ln with hq | hq
                · skip
                  refine wv_callPi (As := [.int (nI (nuQ tx ln nx sg + d))]) (rest := []) ⟨hx, hb, hml, hown, hts⟩ (kX1_byteAt l D co ba cB tx ln (nuQ tx ln nx sg + d) (nI (dgv tx (nuQ tx ln nx sg) d)) wd nb vl (nuQ tx ln nx sg + d) (by first | assumption | omega) (by first | assumption | omega)) (cwV 1 hts gX1_readAmount_X1_byteAt rfl rfl rfl (by decide +kernel) ⟨Nat.le_of_ble_eq_true rfl, Nat.le_of_ble_eq_true rfl⟩) hK hN hP hS hA [0, 1] [0] rfl rfl 0 0 rfl rfl rfl rfl hl.1 rfl (Nat.le_of_ble_eq_true rfl) dX1_readAmount_56 ⟨Nat.zero_le _, Nat.zero_le _⟩ (fun H locs hz9 hP hS => ?_)
                  refine wv_callSi (As := [.int (nI (tx (nuQ tx ln nx sg + d)))]) (rest := []) ⟨hx, hb, hml, hown, hts⟩ (kX1_isDigit l D (tx (nuQ tx ln nx sg + d)) (htx _)) (va_cwS 1 hts gX1_readAmount_X1_isDigit rfl rfl rfl (by decide +kernel) ⟨Nat.le_of_ble_eq_true rfl, Nat.le_of_ble_eq_true rfl⟩) hK hN hP hS hA [] [] rfl rfl rfl hl.1 rfl (Nat.le_of_ble_eq_true rfl) dX1_readAmount_59 ⟨Nat.zero_le _, Nat.zero_le _⟩ (fun H locs hz9 hP hS => ?_)
                  refine wv_ifeqB (tgt := 104) hx hb dX1_readAmount_62 (by decide) (fun c62 => ?_) (fun c62 => ?_)
                  · skip
                    have hdt : isA tx ln 48 57 (nuQ tx ln nx sg + d) = false := isA_f (by have h9 : ¬ (48 ≤ tx (nuQ tx ln nx sg + d) ∧ tx (nuQ tx ln nx sg + d) ≤ 57) := (by simpa using c62); omega)
                    have hE9 : nuE tx ln nx sg = nuQ tx ln nx sg + d := by rw [hrn, rn_f hdt]
                    refine lv_iload_n hx hb dX1_readAmount_104 rfl (lv_at hl 2 rfl) ?_
                    refine wv_ifeqB (tgt := 117) hx hb dX1_readAmount_105 (by decide) (fun c105 => ?_) (fun c105 => ?_)
                    · skip
                      refine lv_iload_n hx hb dX1_readAmount_117 rfl (lv_at hl 3 rfl) ?_
                      refine wv_if_le (tgt := 125) hx hb (by omega) dX1_readAmount_118 (by decide) (fun c118 => ?_) (fun c118 => ?_)
                      · skip
                        refine lv_iconst (v := nI 0) hx hb dX1_readAmount_125 (by decide) ?_
                        have ew0_nx : ncP tx ln nx sg = nuQ tx ln nx sg + d := by unfold ncP; rw [if_pos hsp, hE9]
                        have ew0_am : ncA tx ln nx sg am = nI (dgv tx (nuQ tx ln nx sg) d) := by unfold ncA nuV; rw [if_pos hsp, hE9, Nat.add_sub_cancel_left]; first | rw [if_pos c105] | rw [if_neg (by rw [c105]; decide)]
                        exact wv_zretM (b := false) hx hb hr hlocks hP hD hS rfl (by unfold ncC; rw [hsp, hE9]; first | (rw [decide_eq_true (by omega)]; rfl) | (rw [decide_eq_false (by omega)]; rfl)) (by rw [ew0_am, ew0_nx]) dX1_readAmount_126
                      · skip
                        refine lv_iconst (v := nI 1) hx hb dX1_readAmount_121 (by decide) ?_
                        refine lv_goto (tgt := 126) hx hb dX1_readAmount_122 (by decide) ?_
                        have ew0_nx : ncP tx ln nx sg = nuQ tx ln nx sg + d := by unfold ncP; rw [if_pos hsp, hE9]
                        have ew0_am : ncA tx ln nx sg am = nI (dgv tx (nuQ tx ln nx sg) d) := by unfold ncA nuV; rw [if_pos hsp, hE9, Nat.add_sub_cancel_left]; first | rw [if_pos c105] | rw [if_neg (by rw [c105]; decide)]
                        exact wv_zretM (b := true) hx hb hr hlocks hP hD hS rfl (by unfold ncC; rw [hsp, hE9]; first | (rw [decide_eq_true (by omega)]; rfl) | (rw [decide_eq_false (by omega)]; rfl)) (by rw [ew0_am, ew0_nx]) dX1_readAmount_126
                    · skip
                      refine lv_aload_n hx hb dX1_readAmount_108 rfl (lv_at hl 0 rfl) ?_
                      refine lv_aload_n hx hb dX1_readAmount_109 rfl (lv_at hl 0 rfl) ?_
                      refine va_get (D := D) (ci := 0) (C := RX1) (T := TX1) (N := 7) hx hb hts hinX1 hown hK hP 0 rfl rfl 3 (by decide) (hts (.fieldLink RX1 59 "NearRanks$CommandText" "amount" "I") (by decide +kernel)) (fun _ h9 => h9) rfl dX1_readAmount_110 ?_
                      refine lv_ineg hx hb dX1_readAmount_113 ?_
                      refine va_put (D := D) (ci := 0) (v := .int (-(nI (dgv tx (nuQ tx ln nx sg) d)))) (ty := .int) (C := RX1) (T := TX1) (N := 7) hx hb hts hinX1 tyX1 tyX1_ok nmX1 hown hK hP hD hS 0 rfl rfl 3 (by decide) (hts (.fieldLink RX1 59 "NearRanks$CommandText" "amount" "I") (by decide +kernel)) (fun _ h9 => h9) rfl (by decide +kernel) rfl rfl (Nat.le_of_ble_eq_true rfl) dX1_readAmount_114 (fun H locs hP hD hS => ?_)
                      have hP : va_P D vwCl (CmdC co ba cB (tN tx) ln (nuQ tx ln nx sg + d) (-(nI (dgv tx (nuQ tx ln nx sg) d))) wd nb vl) H := hP
                      have hD : va_D _ (CmdC co ba cB (tN tx) ln (nuQ tx ln nx sg + d) (-(nI (dgv tx (nuQ tx ln nx sg) d))) wd nb vl) := hD
                      refine lv_iload_n hx hb dX1_readAmount_117 rfl (lv_at hl 3 rfl) ?_
                      refine wv_if_le (tgt := 125) hx hb (by omega) dX1_readAmount_118 (by decide) (fun c118 => ?_) (fun c118 => ?_)
                      · skip
                        refine lv_iconst (v := nI 0) hx hb dX1_readAmount_125 (by decide) ?_
                        have ew0_nx : ncP tx ln nx sg = nuQ tx ln nx sg + d := by unfold ncP; rw [if_pos hsp, hE9]
                        have ew0_am : ncA tx ln nx sg am = -(nI (dgv tx (nuQ tx ln nx sg) d)) := by unfold ncA nuV; rw [if_pos hsp, hE9, Nat.add_sub_cancel_left]; first | rw [if_pos c105] | rw [if_neg (by rw [c105]; decide)]
                        exact wv_zretM (b := false) hx hb hr hlocks hP hD hS rfl (by unfold ncC; rw [hsp, hE9]; first | (rw [decide_eq_true (by omega)]; rfl) | (rw [decide_eq_false (by omega)]; rfl)) (by rw [ew0_am, ew0_nx]) dX1_readAmount_126
                      · skip
                        refine lv_iconst (v := nI 1) hx hb dX1_readAmount_121 (by decide) ?_
                        refine lv_goto (tgt := 126) hx hb dX1_readAmount_122 (by decide) ?_
                        have ew0_nx : ncP tx ln nx sg = nuQ tx ln nx sg + d := by unfold ncP; rw [if_pos hsp, hE9]
                        have ew0_am : ncA tx ln nx sg am = -(nI (dgv tx (nuQ tx ln nx sg) d)) := by unfold ncA nuV; rw [if_pos hsp, hE9, Nat.add_sub_cancel_left]; first | rw [if_pos c105] | rw [if_neg (by rw [c105]; decide)]
                        exact wv_zretM (b := true) hx hb hr hlocks hP hD hS rfl (by unfold ncC; rw [hsp, hE9]; first | (rw [decide_eq_true (by omega)]; rfl) | (rw [decide_eq_false (by omega)]; rfl)) (by rw [ew0_am, ew0_nx]) dX1_readAmount_126
                  · skip
                    have hdg : 48 ≤ tx (nuQ tx ln nx sg + d) ∧ tx (nuQ tx ln nx sg + d) ≤ 57 := by simpa using c62
                    have hdt : isA tx ln 48 57 (nuQ tx ln nx sg + d) = true := isA_t hq hdg.1 hdg.2
                    refine lv_aload_n hx hb dX1_readAmount_65 rfl (lv_at hl 0 rfl) ?_
                    refine lv_bipush (v := nI 10) hx hb dX1_readAmount_66 (by decide) ?_
                    refine lv_aload_n hx hb dX1_readAmount_68 rfl (lv_at hl 0 rfl) ?_
                    refine va_get (D := D) (ci := 0) (C := RX1) (T := TX1) (N := 7) hx hb hts hinX1 hown hK hP 0 rfl rfl 3 (by decide) (hts (.fieldLink RX1 59 "NearRanks$CommandText" "amount" "I") (by decide +kernel)) (fun _ h9 => h9) rfl dX1_readAmount_69 ?_
                    refine lv_imul hx hb dX1_readAmount_72 ?_
                    refine wv_ti (pk_mul _ _) ?_
                    refine lv_aload_n hx hb dX1_readAmount_73 rfl (lv_at hl 0 rfl) ?_
                    refine lv_aload_n hx hb dX1_readAmount_74 rfl (lv_at hl 0 rfl) ?_
                    refine va_get (D := D) (ci := 0) (C := RX1) (T := TX1) (N := 7) hx hb hts hinX1 hown hK hP 0 rfl rfl 2 (by decide) (hts (.fieldLink RX1 32 "NearRanks$CommandText" "next" "I") (by decide +kernel)) (fun _ h9 => h9) rfl dX1_readAmount_75 ?_
                    refine wv_callPi (As := [.int (nI (nuQ tx ln nx sg + d))]) (rest := [.int (nI (10 * (dgv tx (nuQ tx ln nx sg) d))), .ref co]) ⟨hx, hb, hml, hown, hts⟩ (kX1_byteAt l D co ba cB tx ln (nuQ tx ln nx sg + d) (nI (dgv tx (nuQ tx ln nx sg) d)) wd nb vl (nuQ tx ln nx sg + d) (by first | assumption | omega) (by first | assumption | omega)) (cwV 1 hts gX1_readAmount_X1_byteAt rfl rfl rfl (by decide +kernel) ⟨Nat.le_of_ble_eq_true rfl, Nat.le_of_ble_eq_true rfl⟩) hK hN hP hS hA [0, 1] [0] rfl rfl 0 0 rfl rfl rfl rfl hl.1 rfl (Nat.le_of_ble_eq_true rfl) dX1_readAmount_78 ⟨Nat.zero_le _, Nat.zero_le _⟩ (fun H locs hz9 hP hS => ?_)
                    refine lv_iadd hx hb dX1_readAmount_81 ?_
                    refine wv_ti (nI_add _ _) ?_
                    refine lv_bipush (v := nI 48) hx hb dX1_readAmount_82 (by decide) ?_
                    refine lv_isub hx hb dX1_readAmount_84 ?_
                    refine wv_ti (pk_sub (by omega)) ?_
                    refine va_put (D := D) (ci := 0) (v := .int (nI (((10 * (dgv tx (nuQ tx ln nx sg) d)) + (tx (nuQ tx ln nx sg + d))) - 48))) (ty := .int) (C := RX1) (T := TX1) (N := 7) hx hb hts hinX1 tyX1 tyX1_ok nmX1 hown hK hP hD hS 0 rfl rfl 3 (by decide) (hts (.fieldLink RX1 59 "NearRanks$CommandText" "amount" "I") (by decide +kernel)) (fun _ h9 => h9) rfl (by decide +kernel) rfl rfl (Nat.le_of_ble_eq_true rfl) dX1_readAmount_85 (fun H locs hP hD hS => ?_)
                    have hP : va_P D vwCl (CmdC co ba cB (tN tx) ln (nuQ tx ln nx sg + d) (nI (((10 * (dgv tx (nuQ tx ln nx sg) d)) + (tx (nuQ tx ln nx sg + d))) - 48)) wd nb vl) H := hP
                    have hD : va_D _ (CmdC co ba cB (tN tx) ln (nuQ tx ln nx sg + d) (nI (((10 * (dgv tx (nuQ tx ln nx sg) d)) + (tx (nuQ tx ln nx sg + d))) - 48)) wd nb vl) := hD
                    refine lv_aload_n hx hb dX1_readAmount_88 rfl (lv_at hl 0 rfl) ?_
                    refine lv_dup hx hb dX1_readAmount_89 rfl ?_
                    refine va_get (D := D) (ci := 0) (C := RX1) (T := TX1) (N := 7) hx hb hts hinX1 hown hK hP 0 rfl rfl 2 (by decide) (hts (.fieldLink RX1 32 "NearRanks$CommandText" "next" "I") (by decide +kernel)) (fun _ h9 => h9) rfl dX1_readAmount_90 ?_
                    refine lv_iconst (v := nI 1) hx hb dX1_readAmount_93 (by decide) ?_
                    refine lv_iadd hx hb dX1_readAmount_94 ?_
                    refine wv_ti (nI_add _ _) ?_
                    refine va_put (D := D) (ci := 0) (v := .int (nI ((nuQ tx ln nx sg + d) + 1))) (ty := .int) (C := RX1) (T := TX1) (N := 7) hx hb hts hinX1 tyX1 tyX1_ok nmX1 hown hK hP hD hS 0 rfl rfl 2 (by decide) (hts (.fieldLink RX1 32 "NearRanks$CommandText" "next" "I") (by decide +kernel)) (fun _ h9 => h9) rfl (by decide +kernel) rfl rfl (Nat.le_of_ble_eq_true rfl) dX1_readAmount_95 (fun H locs hP hD hS => ?_)
                    have hP : va_P D vwCl (CmdC co ba cB (tN tx) ln ((nuQ tx ln nx sg + d) + 1) (nI (((10 * (dgv tx (nuQ tx ln nx sg) d)) + (tx (nuQ tx ln nx sg + d))) - 48)) wd nb vl) H := hP
                    have hD : va_D _ (CmdC co ba cB (tN tx) ln ((nuQ tx ln nx sg + d) + 1) (nI (((10 * (dgv tx (nuQ tx ln nx sg) d)) + (tx (nuQ tx ln nx sg + d))) - 48)) wd nb vl) := hD
                    refine lv_iinc (v := nI (d + 1)) (lv' := [(3, .int (nI (d + 1))), (0, .ref co), (1, .int (bI sg)), (2, .int (bI (nuN tx ln nx sg)))]) hx hb dX1_readAmount_98 hl (k := 3) rfl (nI_1 _) (by decide) rfl (fun ls hl => ?_)
                    refine lv_goto (tgt := 45) hx hb dX1_readAmount_101 (by decide) ?_
                    have el_w0_nx : nuQ tx ln nx sg + (d + 1) = (nuQ tx ln nx sg + d) + 1 := by rfl
                    have el_w0_am : nI (dgv tx (nuQ tx ln nx sg) (d + 1)) = nI (((10 * (dgv tx (nuQ tx ln nx sg) d)) + (tx (nuQ tx ln nx sg + d))) - 48) := by show nI (10 * dgv _ _ _ + (_ - 48)) = _; congr 1; omega
                    exact ih45 (d + 1) (by omega) (by first | assumption | omega) (by omega) (by rw [hrn, show 9 - d = (9 - (d + 1)) + 1 by omega, rn_t hdt]; rfl) _ _ (by first | (rw [el_w0_am, el_w0_nx]; exact hP) | (simp only [el_w0_am, el_w0_nx]; exact hP) | exact hP) (by first | (rw [el_w0_am, el_w0_nx]; exact hD) | (simp only [el_w0_am, el_w0_nx]; exact hD) | exact hD) hS ls (by first | (rw [el_w0_am, el_w0_nx]; exact lv_sub hl [1, 2, 3, 0] rfl) | (simp only [el_w0_am, el_w0_nx]; exact lv_sub hl [1, 2, 3, 0] rfl) | exact lv_sub hl [1, 2, 3, 0] rfl)
                · skip
                  have hdt : isA tx ln 48 57 (nuQ tx ln nx sg + d) = false := isA_f (by omega)
                  have hE9 : nuE tx ln nx sg = nuQ tx ln nx sg + d := by rw [hrn, rn_f hdt]
                  refine wv_callPi (As := [.int (nI (nuQ tx ln nx sg + d))]) (rest := []) ⟨hx, hb, hml, hown, hts⟩ (kX1_byteAt_out l D co ba cB tx ln (nuQ tx ln nx sg + d) (nI (dgv tx (nuQ tx ln nx sg) d)) wd nb vl (nuQ tx ln nx sg + d) (by first | assumption | omega) (by first | assumption | omega) (by omega)) (cwV 1 hts gX1_readAmount_X1_byteAt rfl rfl rfl (by decide +kernel) ⟨Nat.le_of_ble_eq_true rfl, Nat.le_of_ble_eq_true rfl⟩) hK hN hP hS hA [0, 1] [0] rfl rfl 0 0 rfl rfl rfl rfl hl.1 rfl (Nat.le_of_ble_eq_true rfl) dX1_readAmount_56 ⟨Nat.zero_le _, Nat.zero_le _⟩ (fun H locs hz9 hP hS => ?_)
                  refine wv_callSi (As := [.int (-1)]) (rest := []) ⟨hx, hb, hml, hown, hts⟩ (kX1_isDigit_out l D ) (va_cwS 1 hts gX1_readAmount_X1_isDigit rfl rfl rfl (by decide +kernel) ⟨Nat.le_of_ble_eq_true rfl, Nat.le_of_ble_eq_true rfl⟩) hK hN hP hS hA [] [] rfl rfl rfl hl.1 rfl (Nat.le_of_ble_eq_true rfl) dX1_readAmount_59 ⟨Nat.zero_le _, Nat.zero_le _⟩ (fun H locs hz9 hP hS => ?_)
                  refine wv_ifeqB (tgt := 104) hx hb dX1_readAmount_62 (by decide) (fun _ => ?_) (fun h => by cases h)
                  refine lv_iload_n hx hb dX1_readAmount_104 rfl (lv_at hl 2 rfl) ?_
                  refine wv_ifeqB (tgt := 117) hx hb dX1_readAmount_105 (by decide) (fun c105 => ?_) (fun c105 => ?_)
                  · skip
                    refine lv_iload_n hx hb dX1_readAmount_117 rfl (lv_at hl 3 rfl) ?_
                    refine wv_if_le (tgt := 125) hx hb (by omega) dX1_readAmount_118 (by decide) (fun c118 => ?_) (fun c118 => ?_)
                    · skip
                      refine lv_iconst (v := nI 0) hx hb dX1_readAmount_125 (by decide) ?_
                      have ew0_nx : ncP tx ln nx sg = nuQ tx ln nx sg + d := by unfold ncP; rw [if_pos hsp, hE9]
                      have ew0_am : ncA tx ln nx sg am = nI (dgv tx (nuQ tx ln nx sg) d) := by unfold ncA nuV; rw [if_pos hsp, hE9, Nat.add_sub_cancel_left]; first | rw [if_pos c105] | rw [if_neg (by rw [c105]; decide)]
                      exact wv_zretM (b := false) hx hb hr hlocks hP hD hS rfl (by unfold ncC; rw [hsp, hE9]; first | (rw [decide_eq_true (by omega)]; rfl) | (rw [decide_eq_false (by omega)]; rfl)) (by rw [ew0_am, ew0_nx]) dX1_readAmount_126
                    · skip
                      refine lv_iconst (v := nI 1) hx hb dX1_readAmount_121 (by decide) ?_
                      refine lv_goto (tgt := 126) hx hb dX1_readAmount_122 (by decide) ?_
                      have ew0_nx : ncP tx ln nx sg = nuQ tx ln nx sg + d := by unfold ncP; rw [if_pos hsp, hE9]
                      have ew0_am : ncA tx ln nx sg am = nI (dgv tx (nuQ tx ln nx sg) d) := by unfold ncA nuV; rw [if_pos hsp, hE9, Nat.add_sub_cancel_left]; first | rw [if_pos c105] | rw [if_neg (by rw [c105]; decide)]
                      exact wv_zretM (b := true) hx hb hr hlocks hP hD hS rfl (by unfold ncC; rw [hsp, hE9]; first | (rw [decide_eq_true (by omega)]; rfl) | (rw [decide_eq_false (by omega)]; rfl)) (by rw [ew0_am, ew0_nx]) dX1_readAmount_126
                  · skip
                    refine lv_aload_n hx hb dX1_readAmount_108 rfl (lv_at hl 0 rfl) ?_
                    refine lv_aload_n hx hb dX1_readAmount_109 rfl (lv_at hl 0 rfl) ?_
                    refine va_get (D := D) (ci := 0) (C := RX1) (T := TX1) (N := 7) hx hb hts hinX1 hown hK hP 0 rfl rfl 3 (by decide) (hts (.fieldLink RX1 59 "NearRanks$CommandText" "amount" "I") (by decide +kernel)) (fun _ h9 => h9) rfl dX1_readAmount_110 ?_
                    refine lv_ineg hx hb dX1_readAmount_113 ?_
                    refine va_put (D := D) (ci := 0) (v := .int (-(nI (dgv tx (nuQ tx ln nx sg) d)))) (ty := .int) (C := RX1) (T := TX1) (N := 7) hx hb hts hinX1 tyX1 tyX1_ok nmX1 hown hK hP hD hS 0 rfl rfl 3 (by decide) (hts (.fieldLink RX1 59 "NearRanks$CommandText" "amount" "I") (by decide +kernel)) (fun _ h9 => h9) rfl (by decide +kernel) rfl rfl (Nat.le_of_ble_eq_true rfl) dX1_readAmount_114 (fun H locs hP hD hS => ?_)
                    have hP : va_P D vwCl (CmdC co ba cB (tN tx) ln (nuQ tx ln nx sg + d) (-(nI (dgv tx (nuQ tx ln nx sg) d))) wd nb vl) H := hP
                    have hD : va_D _ (CmdC co ba cB (tN tx) ln (nuQ tx ln nx sg + d) (-(nI (dgv tx (nuQ tx ln nx sg) d))) wd nb vl) := hD
                    refine lv_iload_n hx hb dX1_readAmount_117 rfl (lv_at hl 3 rfl) ?_
                    refine wv_if_le (tgt := 125) hx hb (by omega) dX1_readAmount_118 (by decide) (fun c118 => ?_) (fun c118 => ?_)
                    · skip
                      refine lv_iconst (v := nI 0) hx hb dX1_readAmount_125 (by decide) ?_
                      have ew0_nx : ncP tx ln nx sg = nuQ tx ln nx sg + d := by unfold ncP; rw [if_pos hsp, hE9]
                      have ew0_am : ncA tx ln nx sg am = -(nI (dgv tx (nuQ tx ln nx sg) d)) := by unfold ncA nuV; rw [if_pos hsp, hE9, Nat.add_sub_cancel_left]; first | rw [if_pos c105] | rw [if_neg (by rw [c105]; decide)]
                      exact wv_zretM (b := false) hx hb hr hlocks hP hD hS rfl (by unfold ncC; rw [hsp, hE9]; first | (rw [decide_eq_true (by omega)]; rfl) | (rw [decide_eq_false (by omega)]; rfl)) (by rw [ew0_am, ew0_nx]) dX1_readAmount_126
                    · skip
                      refine lv_iconst (v := nI 1) hx hb dX1_readAmount_121 (by decide) ?_
                      refine lv_goto (tgt := 126) hx hb dX1_readAmount_122 (by decide) ?_
                      have ew0_nx : ncP tx ln nx sg = nuQ tx ln nx sg + d := by unfold ncP; rw [if_pos hsp, hE9]
                      have ew0_am : ncA tx ln nx sg am = -(nI (dgv tx (nuQ tx ln nx sg) d)) := by unfold ncA nuV; rw [if_pos hsp, hE9, Nat.add_sub_cancel_left]; first | rw [if_pos c105] | rw [if_neg (by rw [c105]; decide)]
                      exact wv_zretM (b := true) hx hb hr hlocks hP hD hS rfl (by unfold ncC; rw [hsp, hE9]; first | (rw [decide_eq_true (by omega)]; rfl) | (rw [decide_eq_false (by omega)]; rfl)) (by rw [ew0_am, ew0_nx]) dX1_readAmount_126
          exact loop45 (9 - 0 + 1) 0 (by omega) (by first | assumption | omega) (by omega) (by rfl) _ _ (by first | (rw [el_w0_am, el_l2, el_w0_nx]; exact hP) | (simp only [el_w0_am, el_l2, el_w0_nx]; exact hP) | exact hP) (by first | (rw [el_w0_am, el_l2, el_w0_nx]; exact hD) | (simp only [el_w0_am, el_l2, el_w0_nx]; exact hD) | exact hD) hS ls (by first | (rw [el_w0_am, el_l2, el_w0_nx]; exact lv_sub hl [2, 3, 1, 0] rfl) | (simp only [el_w0_am, el_l2, el_w0_nx]; exact lv_sub hl [2, 3, 1, 0] rfl) | exact lv_sub hl [2, 3, 1, 0] rfl)
    · skip
      have hsp : isA tx ln 32 32 nx = false := isA_f (by omega)
      refine lv_iconst (v := nI 0) hx hb dX1_readAmount_13 (by decide) ?_
      have ew0_nx : ncP tx ln nx sg = nx := by unfold ncP; rw [hsp]; rfl
      have ew0_am : ncA tx ln nx sg am = am := by unfold ncA; rw [hsp]; rfl
      exact wv_zretM (b := false) hx hb hr hlocks hP hD hS rfl (by unfold ncC; rw [hsp]; rfl) (by rw [ew0_am, ew0_nx]) dX1_readAmount_14
  · skip
    refine wv_callPi (As := [.int (nI nx)]) (rest := []) ⟨hx, hb, hml, hown, hts⟩ (kX1_byteAt_out l D co ba cB tx ln nx am wd nb vl nx (by first | assumption | omega) (by first | assumption | omega) (by omega)) (cwV 1 hts gX1_readAmount_X1_byteAt rfl rfl rfl (by decide +kernel) ⟨Nat.le_of_ble_eq_true rfl, Nat.le_of_ble_eq_true rfl⟩) hK hN hP hS hA [0, 1] [0] rfl rfl 0 0 rfl rfl rfl rfl hl.1 rfl (Nat.le_of_ble_eq_true rfl) dX1_readAmount_5 ⟨Nat.zero_le _, Nat.zero_le _⟩ (fun H locs hz9 hP hS => ?_)
    refine lv_bipush (v := nI 32) hx hb dX1_readAmount_8 (by decide) ?_
    refine lv_icmp_eq (tgt := 15) hx hb dX1_readAmount_10 (by decide) (fun c10 => by exfalso; exact m1_ne (by omega) c10) (fun c10 => ?_)
    have hsp : isA tx ln 32 32 nx = false := isA_f (by omega)
    refine lv_iconst (v := nI 0) hx hb dX1_readAmount_13 (by decide) ?_
    have ew0_nx : ncP tx ln nx sg = nx := by unfold ncP; rw [hsp]; rfl
    have ew0_am : ncA tx ln nx sg am = am := by unfold ncA; rw [hsp]; rfl
    exact wv_zretM (b := false) hx hb hr hlocks hP hD hS rfl (by unfold ncC; rw [hsp]; rfl) (by rw [ew0_am, ew0_nx]) dX1_readAmount_14

set_option maxHeartbeats 4000000 in
set_option maxRecDepth 100000 in
theorem kX1_isBetween (l : Launch) (D : va_G) (ea : EA) (co : Nat) (ba : Nat) (cB : ClassId) (tx : Nat → Nat) (ln : Nat) (nx : Nat) (am : Int32) (wo : Option Nat) (nb : Int32) (vl : Int64) (i : Nat) (st : Nat) (en : Nat) (hln : ln ≤ 150) (htx : ∀ k, tx k < 128) (hi : i < 7) (hse : st ≤ en) (hen : en ≤ ln) : PEi l yX1_isBetween wsX1_isBetween ({ frames := 4, cells := 0, slots := 0, locals := 85 } : Room) [.ref co, .ref (eK ea i), .int (nI st), .int (nI en)] D (CmdC co ba cB (tN tx) ln nx am (wdV ea wo) nb vl) [(cB, .byte)] ea (bI (btw tx i st en)) := by
  refine PEi_of (cc := cX1_isBetween) (maxL := 5) (ret := some .boolean) (by decide +kernel) rfl (Nat.le_of_ble_eq_true rfl) ?_
  intro p e s m args below meth c hx hb hr hts hown hlocks hml hP hK hN hE ls hl
  have hown : s.vm.findClass RX1 = some m.cls := hown
  have hl : lv_has ls 5 [(0, .ref co), (1, .ref (eK ea i)), (2, .int (nI st)), (3, .int (nI en))] := hl
  have hS : va_S (va_A [] s.heap.size) s.heap s.heap [] := va_S.rf
  have hA := wk_hA [] s.heap.size
  have hD9 : True := trivial
  have hl9 := wln_ok i hi
  refine lv_aload_n hx hb dX1_isBetween_0 rfl (lv_at hl 1 rfl) ?_
  refine wv_callPEi (As := []) (rest := []) ⟨hx, hb, hml, hown, hts⟩ (kJ0_length_8abf5 l D ea i (by first | assumption | omega)) (cwV 0 hts gX1_isBetween_J0_length_8abf5 rfl rfl rfl (by decide +kernel) ⟨Nat.le_of_ble_eq_true rfl, Nat.le_of_ble_eq_true rfl⟩) hK hN hE hP hS hA [] [] rfl rfl (vk_recv hE.st.1 (i := i) (by omega) hS) rfl hl.1 rfl (Nat.le_of_ble_eq_true rfl) dX1_isBetween_1 ⟨Nat.zero_le _, Nat.zero_le _⟩ (fun H locs hz9 hP hS => ?_)
  refine lv_iload_n hx hb dX1_isBetween_4 rfl (lv_at hl 3 rfl) ?_
  refine lv_iload_n hx hb dX1_isBetween_5 rfl (lv_at hl 2 rfl) ?_
  refine lv_isub hx hb dX1_isBetween_6 ?_
  refine wv_ti (pk_sub (by omega)) ?_
  refine wv_icmp_eq (tgt := 12) hx hb (by omega) (by omega) dX1_isBetween_7 (by decide) (fun c7 => ?_) (fun c7 => ?_)
  · skip
    refine lv_iconst (v := nI 0) hx hb dX1_isBetween_12 (by decide) ?_
    refine lv_istore (lv' := [(4, .int (nI 0)), (0, .ref co), (1, .ref (eK ea i)), (2, .int (nI st)), (3, .int (nI en))]) hx hb dX1_isBetween_13 hl (by decide) rfl (fun ls hl => ?_)
    have loop15 : ∀ (K : Nat) (k : Nat), wln i - k < K → k ≤ wln i → mt tx i st k = true → ∀ (H : Heap) (locs : List Loc), va_P D vwCl (CmdC co ba cB (tN tx) ln nx am (wdV ea wo) nb vl) H → va_S (va_A [] s.heap.size) s.heap H locs → ∀ ls : Array Slot, lv_has ls 5 [(0, .ref co), (1, .ref (eK ea i)), (2, .int (nI st)), (3, .int (nI en)), (4, .int (nI k))] → W p l e ({ frames := 4, cells := 0, slots := 0, locals := 85 } : Room) s m args below meth c H locs 0 0 (ZPi below args s (bI (btw tx i st en))) (F0 m 15 ls []) := by
      intro K
      induction K with
      | zero => intro k hK0; exact absurd hK0 (Nat.not_lt_zero _)
      | succ K ih15 =>
        intro k hKm hk hmt H locs hP hS ls hl
        refine lv_iload hx hb dX1_isBetween_15 (lv_at hl 4 rfl) ?_
        refine lv_aload_n hx hb dX1_isBetween_17 rfl (lv_at hl 1 rfl) ?_
        refine wv_callPEi (As := []) (rest := [.int (nI k)]) ⟨hx, hb, hml, hown, hts⟩ (kJ0_length_8abf5 l D ea i (by first | assumption | omega)) (cwV 0 hts gX1_isBetween_J0_length_8abf5 rfl rfl rfl (by decide +kernel) ⟨Nat.le_of_ble_eq_true rfl, Nat.le_of_ble_eq_true rfl⟩) hK hN hE hP hS hA [] [] rfl rfl (vk_recv hE.st.1 (i := i) (by omega) hS) rfl hl.1 rfl (Nat.le_of_ble_eq_true rfl) dX1_isBetween_18 ⟨Nat.zero_le _, Nat.zero_le _⟩ (fun H locs hz9 hP hS => ?_)
        refine wv_icmp_ge (tgt := 49) hx hb (by omega) (by omega) dX1_isBetween_21 (by decide) (fun c21 => ?_) (fun c21 => ?_)
        · skip
          refine lv_iconst (v := nI 1) hx hb dX1_isBetween_49 (by decide) ?_
          exact wv_zretP (b := true) hx hb hr hlocks hS (rfl : nI 1 = bI true) (by unfold btw; rw [decide_eq_true c7, show wln i = k by omega, hmt]; rfl) dX1_isBetween_50
        · skip
          have hw9 := wcc_ok i hi k (by omega)
          have ht9 := htx (st + k)
          refine lv_aload_n hx hb dX1_isBetween_24 rfl (lv_at hl 0 rfl) ?_
          refine lv_iload_n hx hb dX1_isBetween_25 rfl (lv_at hl 2 rfl) ?_
          refine lv_iload hx hb dX1_isBetween_26 (lv_at hl 4 rfl) ?_
          refine lv_iadd hx hb dX1_isBetween_28 ?_
          refine wv_ti (nI_add _ _) ?_
          refine wv_callPi (As := [.int (nI (st + k))]) (rest := []) ⟨hx, hb, hml, hown, hts⟩ (kX1_byteAt l D co ba cB tx ln nx am (wdV ea wo) nb vl (st + k) (by first | assumption | omega) (by omega)) (cwV 1 hts gX1_isBetween_X1_byteAt rfl rfl rfl (by decide +kernel) ⟨Nat.le_of_ble_eq_true rfl, Nat.le_of_ble_eq_true rfl⟩) hK hN hP hS hA [0, 1] [0] rfl rfl 0 0 rfl rfl rfl rfl hl.1 rfl (Nat.le_of_ble_eq_true rfl) dX1_isBetween_29 ⟨Nat.zero_le _, Nat.zero_le _⟩ (fun H locs hz9 hP hS => ?_)
          refine lv_aload_n hx hb dX1_isBetween_32 rfl (lv_at hl 1 rfl) ?_
          refine lv_iload hx hb dX1_isBetween_33 (lv_at hl 4 rfl) ?_
          refine wv_callPEi (As := [.int (nI k)]) (rest := [.int (nI (tx (st + k)))]) ⟨hx, hb, hml, hown, hts⟩ (kJ0_charAt_5068e l D ea i k (by first | assumption | omega) (by first | assumption | omega)) (cwV 1 hts gX1_isBetween_J0_charAt_5068e rfl rfl rfl (by decide +kernel) ⟨Nat.le_of_ble_eq_true rfl, Nat.le_of_ble_eq_true rfl⟩) hK hN hE hP hS hA [] [] rfl rfl (vk_recv hE.st.1 (i := i) (by omega) hS) rfl hl.1 rfl (Nat.le_of_ble_eq_true rfl) dX1_isBetween_35 ⟨Nat.zero_le _, Nat.zero_le _⟩ (fun H locs hz9 hP hS => ?_)
          refine wv_icmp_eq (tgt := 43) hx hb (by omega) (by omega) dX1_isBetween_38 (by decide) (fun c38 => ?_) (fun c38 => ?_)
          · skip
            refine lv_iinc (v := nI (k + 1)) (lv' := [(4, .int (nI (k + 1))), (0, .ref co), (1, .ref (eK ea i)), (2, .int (nI st)), (3, .int (nI en))]) hx hb dX1_isBetween_43 hl (k := 4) rfl (nI_1 _) (by decide) rfl (fun ls hl => ?_)
            refine lv_goto (tgt := 15) hx hb dX1_isBetween_46 (by decide) ?_
            exact ih15 (k + 1) (by omega) (by first | assumption | omega) (by exact mt_t hmt c38) _ _ hP hS ls (lv_sub hl [1, 2, 3, 4, 0] rfl)
          · skip
            refine lv_iconst (v := nI 0) hx hb dX1_isBetween_41 (by decide) ?_
            exact wv_zretP (b := false) hx hb hr hlocks hS (rfl : nI 0 = bI false) (by unfold btw; rw [mt_n (show k < wln i by omega) c38, Bool.and_false]; rfl) dX1_isBetween_42
    exact loop15 (wln i - 0 + 1) 0 (by omega) (by first | assumption | omega) (by rfl) _ _ hP hS ls (lv_sub hl [1, 2, 3, 4, 0] rfl)
  · skip
    refine lv_iconst (v := nI 0) hx hb dX1_isBetween_10 (by decide) ?_
    exact wv_zretP (b := false) hx hb hr hlocks hS (rfl : nI 0 = bI false) (by unfold btw; rw [decide_eq_false c7]; rfl) dX1_isBetween_11

set_option maxHeartbeats 4000000 in
set_option maxRecDepth 100000 in
theorem kX1_wordBetween_none (l : Launch) (D : va_G) (ea : EA) (co : Nat) (ba : Nat) (cB : ClassId) (tx : Nat → Nat) (ln : Nat) (nx : Nat) (am : Int32) (wo : Option Nat) (nb : Int32) (vl : Int64) (st : Nat) (en : Nat) (hln : ln ≤ 150) (htx : ∀ k, tx k < 128) (hse : st ≤ en) (hen : en ≤ ln) (hw : wid tx st en = none) : PEr l yX1_wordBetween wsX1_wordBetween ({ frames := 5, cells := 0, slots := 0, locals := 109 } : Room) [.ref co, .int (nI st), .int (nI en)] D (CmdC co ba cB (tN tx) ln nx am (wdV ea wo) nb vl) [(cB, .byte)] ea (none) := by
  refine PEr_of (cc := cX1_wordBetween) (maxL := 4) (ret := some (.object "NearRanks$Word")) (by decide +kernel) rfl (Nat.le_of_ble_eq_true rfl) ?_
  intro p e s m args below meth c hx hb hr hts hown hlocks hml hP hK hN hE ls hl
  have hown : s.vm.findClass RX1 = some m.cls := hown
  have hl : lv_has ls 4 [(0, .ref co), (1, .int (nI st)), (2, .int (nI en))] := hl
  have hS : va_S (va_A [] s.heap.size) s.heap s.heap [] := va_S.rf
  have hA := wk_hA [] s.heap.size
  have hD9 : True := trivial
  refine lv_iconst (v := nI 0) hx hb dX1_wordBetween_0 (by decide) ?_
  refine lv_istore_n (lv' := [(3, .int (nI 0)), (0, .ref co), (1, .int (nI st)), (2, .int (nI en))]) hx hb dX1_wordBetween_1 rfl hl (by decide) rfl (fun ls hl => ?_)
  have loop2 : ∀ (K : Nat) (i : Nat), 7 - i < K → i ≤ 7 → (∀ j, j < i → btw tx j st en = false) → ∀ (H : Heap) (locs : List Loc), va_P D vwCl (CmdC co ba cB (tN tx) ln nx am (wdV ea wo) nb vl) H → va_S (va_A [] s.heap.size) s.heap H locs → ∀ ls : Array Slot, lv_has ls 4 [(0, .ref co), (1, .int (nI st)), (2, .int (nI en)), (3, .int (nI i))] → W p l e ({ frames := 5, cells := 0, slots := 0, locals := 109 } : Room) s m args below meth c H locs 0 0 (ZPr below args s (none)) (F0 m 2 ls []) := by
    intro K
    induction K with
    | zero => intro i hK0; exact absurd hK0 (Nat.not_lt_zero _)
    | succ K ih2 =>
      intro i hKm hi7 hf H locs hP hS ls hl
      refine lv_iload_n hx hb dX1_wordBetween_2 rfl (lv_at hl 3 rfl) ?_
      refine va_getsN hx hb hE.all.1 hS hown (hN.use (w := .fieldLinkNest "NearRanks$CommandText" 76 "NearRanks$Word" "ALL" "[LNearRanks$Word;" "NearRanks") (by decide +kernel) rfl) (fun _ h9 => h9) dX1_wordBetween_3 ?_
      refine va_tlen hx hb hE.all.2 hS (v := nI 7) rfl dX1_wordBetween_6 ?_
      refine wv_icmp_ge (tgt := 39) hx hb (by omega) (by omega) dX1_wordBetween_7 (by decide) (fun c7 => ?_) (fun c7 => ?_)
      · skip
        refine lv_null hx hb dX1_wordBetween_39 ?_
        exact wv_rretP hx hb hr (Or.inl ⟨_, rfl⟩) hlocks hS (o := none) rfl rfl dX1_wordBetween_40
      · skip
        refine lv_aload_n hx hb dX1_wordBetween_10 rfl (lv_at hl 0 rfl) ?_
        refine va_getsN hx hb hE.all.1 hS hown (hN.use (w := .fieldLinkNest "NearRanks$CommandText" 76 "NearRanks$Word" "ALL" "[LNearRanks$Word;" "NearRanks") (by decide +kernel) rfl) (fun _ h9 => h9) dX1_wordBetween_11 ?_
        refine lv_iload_n hx hb dX1_wordBetween_14 rfl (lv_at hl 3 rfl) ?_
        refine vb_tq hx hb hE.all.2 hS (vp_in_nI (n := i) (by omega) (by decide)) (v := .ref (eW ea i)) (by show Value.ref (eW ea _) = _; rw [nI_clamp (by omega)]) dX1_wordBetween_15 ?_
        refine wv_getXN (i := i) hx hb hE.wd.2.2.1 (by omega) hS hown (hN.use (w := .fieldLinkNest "NearRanks$CommandText" 80 "NearRanks$Word" "letters" "Ljava/lang/String;" "NearRanks") (by decide +kernel) rfl) (fun _ h9 => h9) dX1_wordBetween_16 ?_
        refine lv_iload_n hx hb dX1_wordBetween_19 rfl (lv_at hl 1 rfl) ?_
        refine lv_iload_n hx hb dX1_wordBetween_20 rfl (lv_at hl 2 rfl) ?_
        refine wv_callPEi (As := [.ref (eK ea i), .int (nI st), .int (nI en)]) (rest := []) ⟨hx, hb, hml, hown, hts⟩ (kX1_isBetween l D ea co ba cB tx ln nx am wo nb vl i st en (by first | assumption | omega) (by first | assumption | omega) (by first | assumption | omega) (by first | assumption | omega) (by first | assumption | omega)) (cwV 3 hts gX1_wordBetween_X1_isBetween rfl rfl rfl (by decide +kernel) ⟨Nat.le_of_ble_eq_true rfl, Nat.le_of_ble_eq_true rfl⟩) hK hN hE hP hS hA [0, 1] [0] rfl rfl (va_recv (q0 := 0) (ci := 0) hK hP rfl rfl) rfl hl.1 rfl (Nat.le_of_ble_eq_true rfl) dX1_wordBetween_21 ⟨Nat.zero_le _, Nat.zero_le _⟩ (fun H locs hz9 hP hS => ?_)
        refine wv_ifeqB (tgt := 33) hx hb dX1_wordBetween_24 (by decide) (fun c24 => ?_) (fun c24 => by exfalso; exact absurd (wid_s (show i < 7 by omega) c24 hf) (by rw [hw]; intro z; cases z))
        refine lv_iinc (v := nI (i + 1)) (lv' := [(3, .int (nI (i + 1))), (0, .ref co), (1, .int (nI st)), (2, .int (nI en))]) hx hb dX1_wordBetween_33 hl (k := 3) rfl (nI_1 _) (by decide) rfl (fun ls hl => ?_)
        refine lv_goto (tgt := 2) hx hb dX1_wordBetween_36 (by decide) ?_
        exact ih2 (i + 1) (by omega) (by first | assumption | omega) (by exact fun j hj => (show j < i ∨ j = i by omega).elim (fun h9 => hf j h9) (fun h9 => by rw [h9]; exact c24)) _ _ hP hS ls (lv_sub hl [1, 2, 3, 0] rfl)
  exact loop2 (7 - 0 + 1) 0 (by omega) (by first | assumption | omega) (by exact fun j hj => absurd hj (Nat.not_lt_zero j)) _ _ hP hS ls (lv_sub hl [1, 2, 3, 0] rfl)

set_option maxHeartbeats 4000000 in
set_option maxRecDepth 100000 in
theorem kX1_wordBetween_some (l : Launch) (D : va_G) (ea : EA) (co : Nat) (ba : Nat) (cB : ClassId) (tx : Nat → Nat) (ln : Nat) (nx : Nat) (am : Int32) (wo : Option Nat) (nb : Int32) (vl : Int64) (st : Nat) (en : Nat) (k : Nat) (hln : ln ≤ 150) (htx : ∀ k, tx k < 128) (hse : st ≤ en) (hen : en ≤ ln) (hw : wid tx st en = some k) : PEr l yX1_wordBetween wsX1_wordBetween ({ frames := 5, cells := 0, slots := 0, locals := 109 } : Room) [.ref co, .int (nI st), .int (nI en)] D (CmdC co ba cB (tN tx) ln nx am (wdV ea wo) nb vl) [(cB, .byte)] ea (some (eW ea k)) := by
  refine PEr_of (cc := cX1_wordBetween) (maxL := 4) (ret := some (.object "NearRanks$Word")) (by decide +kernel) rfl (Nat.le_of_ble_eq_true rfl) ?_
  intro p e s m args below meth c hx hb hr hts hown hlocks hml hP hK hN hE ls hl
  have hown : s.vm.findClass RX1 = some m.cls := hown
  have hl : lv_has ls 4 [(0, .ref co), (1, .int (nI st)), (2, .int (nI en))] := hl
  have hS : va_S (va_A [] s.heap.size) s.heap s.heap [] := va_S.rf
  have hA := wk_hA [] s.heap.size
  have hD9 : True := trivial
  refine lv_iconst (v := nI 0) hx hb dX1_wordBetween_0 (by decide) ?_
  refine lv_istore_n (lv' := [(3, .int (nI 0)), (0, .ref co), (1, .int (nI st)), (2, .int (nI en))]) hx hb dX1_wordBetween_1 rfl hl (by decide) rfl (fun ls hl => ?_)
  have loop2 : ∀ (K : Nat) (i : Nat), 7 - i < K → i ≤ 7 → (∀ j, j < i → btw tx j st en = false) → ∀ (H : Heap) (locs : List Loc), va_P D vwCl (CmdC co ba cB (tN tx) ln nx am (wdV ea wo) nb vl) H → va_S (va_A [] s.heap.size) s.heap H locs → ∀ ls : Array Slot, lv_has ls 4 [(0, .ref co), (1, .int (nI st)), (2, .int (nI en)), (3, .int (nI i))] → W p l e ({ frames := 5, cells := 0, slots := 0, locals := 109 } : Room) s m args below meth c H locs 0 0 (ZPr below args s (some (eW ea k))) (F0 m 2 ls []) := by
    intro K
    induction K with
    | zero => intro i hK0; exact absurd hK0 (Nat.not_lt_zero _)
    | succ K ih2 =>
      intro i hKm hi7 hf H locs hP hS ls hl
      refine lv_iload_n hx hb dX1_wordBetween_2 rfl (lv_at hl 3 rfl) ?_
      refine va_getsN hx hb hE.all.1 hS hown (hN.use (w := .fieldLinkNest "NearRanks$CommandText" 76 "NearRanks$Word" "ALL" "[LNearRanks$Word;" "NearRanks") (by decide +kernel) rfl) (fun _ h9 => h9) dX1_wordBetween_3 ?_
      refine va_tlen hx hb hE.all.2 hS (v := nI 7) rfl dX1_wordBetween_6 ?_
      refine wv_icmp_ge (tgt := 39) hx hb (by omega) (by omega) dX1_wordBetween_7 (by decide) (fun c7 => by exfalso; exact absurd (wid_n (fun j hj => hf j (by omega))) (by rw [hw]; intro z; cases z)) (fun c7 => ?_)
      refine lv_aload_n hx hb dX1_wordBetween_10 rfl (lv_at hl 0 rfl) ?_
      refine va_getsN hx hb hE.all.1 hS hown (hN.use (w := .fieldLinkNest "NearRanks$CommandText" 76 "NearRanks$Word" "ALL" "[LNearRanks$Word;" "NearRanks") (by decide +kernel) rfl) (fun _ h9 => h9) dX1_wordBetween_11 ?_
      refine lv_iload_n hx hb dX1_wordBetween_14 rfl (lv_at hl 3 rfl) ?_
      refine vb_tq hx hb hE.all.2 hS (vp_in_nI (n := i) (by omega) (by decide)) (v := .ref (eW ea i)) (by show Value.ref (eW ea _) = _; rw [nI_clamp (by omega)]) dX1_wordBetween_15 ?_
      refine wv_getXN (i := i) hx hb hE.wd.2.2.1 (by omega) hS hown (hN.use (w := .fieldLinkNest "NearRanks$CommandText" 80 "NearRanks$Word" "letters" "Ljava/lang/String;" "NearRanks") (by decide +kernel) rfl) (fun _ h9 => h9) dX1_wordBetween_16 ?_
      refine lv_iload_n hx hb dX1_wordBetween_19 rfl (lv_at hl 1 rfl) ?_
      refine lv_iload_n hx hb dX1_wordBetween_20 rfl (lv_at hl 2 rfl) ?_
      refine wv_callPEi (As := [.ref (eK ea i), .int (nI st), .int (nI en)]) (rest := []) ⟨hx, hb, hml, hown, hts⟩ (kX1_isBetween l D ea co ba cB tx ln nx am wo nb vl i st en (by first | assumption | omega) (by first | assumption | omega) (by first | assumption | omega) (by first | assumption | omega) (by first | assumption | omega)) (cwV 3 hts gX1_wordBetween_X1_isBetween rfl rfl rfl (by decide +kernel) ⟨Nat.le_of_ble_eq_true rfl, Nat.le_of_ble_eq_true rfl⟩) hK hN hE hP hS hA [0, 1] [0] rfl rfl (va_recv (q0 := 0) (ci := 0) hK hP rfl rfl) rfl hl.1 rfl (Nat.le_of_ble_eq_true rfl) dX1_wordBetween_21 ⟨Nat.zero_le _, Nat.zero_le _⟩ (fun H locs hz9 hP hS => ?_)
      refine wv_ifeqB (tgt := 33) hx hb dX1_wordBetween_24 (by decide) (fun c24 => ?_) (fun c24 => ?_)
      · skip
        refine lv_iinc (v := nI (i + 1)) (lv' := [(3, .int (nI (i + 1))), (0, .ref co), (1, .int (nI st)), (2, .int (nI en))]) hx hb dX1_wordBetween_33 hl (k := 3) rfl (nI_1 _) (by decide) rfl (fun ls hl => ?_)
        refine lv_goto (tgt := 2) hx hb dX1_wordBetween_36 (by decide) ?_
        exact ih2 (i + 1) (by omega) (by first | assumption | omega) (by exact fun j hj => (show j < i ∨ j = i by omega).elim (fun h9 => hf j h9) (fun h9 => by rw [h9]; exact c24)) _ _ hP hS ls (lv_sub hl [1, 2, 3, 0] rfl)
      · skip
        refine va_getsN hx hb hE.all.1 hS hown (hN.use (w := .fieldLinkNest "NearRanks$CommandText" 76 "NearRanks$Word" "ALL" "[LNearRanks$Word;" "NearRanks") (by decide +kernel) rfl) (fun _ h9 => h9) dX1_wordBetween_27 ?_
        refine lv_iload_n hx hb dX1_wordBetween_30 rfl (lv_at hl 3 rfl) ?_
        refine vb_tq hx hb hE.all.2 hS (vp_in_nI (n := i) (by omega) (by decide)) (v := .ref (eW ea i)) (by show Value.ref (eW ea _) = _; rw [nI_clamp (by omega)]) dX1_wordBetween_31 ?_
        exact wv_rretP hx hb hr (Or.inl ⟨_, rfl⟩) hlocks hS (o := some (eW ea i)) rfl (by rw [Option.some.inj ((wid_s (show i < 7 by omega) c24 hf).symm.trans hw)]) dX1_wordBetween_32
  exact loop2 (7 - 0 + 1) 0 (by omega) (by first | assumption | omega) (by exact fun j hj => absurd hj (Nat.not_lt_zero j)) _ _ hP hS ls (lv_sub hl [1, 2, 3, 0] rfl)

set_option maxHeartbeats 4000000 in
set_option maxRecDepth 100000 in
theorem kX1_readCommand (l : Launch) (D : va_G) (ea : EA) (co : Nat) (ba : Nat) (cB : ClassId) (tx : Nat → Nat) (ln : Nat) (nx : Nat) (am : Int32) (wo : Option Nat) (nb : Int32) (vl : Int64) (hln : ln ≤ 150) (hnx : nx ≤ ln) (htx : ∀ k, tx k < 128) : MEi l yX1_readCommand wsX1_readCommand ({ frames := 6, cells := 0, slots := 0, locals := 132 } : Room) [.ref co] D (CmdC co ba cB (tN tx) ln nx am (wdV ea wo) nb vl) [(cB, .byte)] ea (bI ((crS tx ln (nx, am, wo, nb, vl)).1)) (CmdC co ba cB (tN tx) ln ((crS tx ln (nx, am, wo, nb, vl)).2.1) ((crS tx ln (nx, am, wo, nb, vl)).2.2.1) (wdV ea (crS tx ln (nx, am, wo, nb, vl)).2.2.2.1) ((crS tx ln (nx, am, wo, nb, vl)).2.2.2.2.1) ((crS tx ln (nx, am, wo, nb, vl)).2.2.2.2.2)) := by
  refine MEi_of (cc := cX1_readCommand) (maxL := 2) (ret := some .boolean) (by decide +kernel) rfl (Nat.le_of_ble_eq_true rfl) ?_
  intro p e s m args below meth c hx hb hr hts hown hlocks hml hP hK hN hD hE ls hl
  have hown : s.vm.findClass RX1 = some m.cls := hown
  have hl : lv_has ls 2 [(0, .ref co)] := hl
  have hS : va_S (va_A (CmdC co ba cB (tN tx) ln nx am (wdV ea wo) nb vl) s.heap.size) s.heap s.heap [] := va_S.rf
  have hA := wk_hA (CmdC co ba cB (tN tx) ln nx am (wdV ea wo) nb vl) s.heap.size
  have hD9 : True := trivial
  have hinX1 : ∀ w ∈ wsX10, w ∈ wsX1_readCommand := by decide +kernel
  have hs9 := skL_le (c := tx) hnx
  refine lv_aload_n hx hb dX1_readCommand_0 rfl (lv_at hl 0 rfl) ?_
  refine va_get (D := D) (ci := 0) (C := RX1) (T := TX1) (N := 7) hx hb hts hinX1 hown hK hP 0 rfl rfl 2 (by decide) (hts (.fieldLink RX1 32 "NearRanks$CommandText" "next" "I") (by decide +kernel)) (fun _ h9 => h9) rfl dX1_readCommand_1 ?_
  refine lv_istore_n (lv' := [(1, .int (nI nx)), (0, .ref co)]) hx hb dX1_readCommand_4 rfl hl (by decide) rfl (fun ls hl => ?_)
  refine lv_aload_n hx hb dX1_readCommand_5 rfl (lv_at hl 1 rfl) ?_
  refine wv_callMv (As := []) (rest := []) (wr := []) (ws1 := CmdC co ba cB (tN tx) ln (skL tx ln nx) am (wdV ea wo) nb vl) ⟨hx, hb, hml, hown, hts⟩ (kX1_skipLetters l D co ba cB tx ln nx am (wdV ea wo) nb vl (by first | assumption | omega) (by first | assumption | omega) (by first | assumption | omega)) (cwV 0 hts gX1_readCommand_X1_skipLetters rfl rfl rfl (by decide +kernel) ⟨Nat.le_of_ble_eq_true rfl, Nat.le_of_ble_eq_true rfl⟩) hK hN hP hD hS hA [0, 1] [] [0] [0, 1] rfl rfl (by decide) rfl (by decide) (by decide) rfl (by decide) rfl 0 0 rfl rfl rfl rfl hl.1 rfl (Nat.le_of_ble_eq_true rfl) dX1_readCommand_6 ⟨Nat.zero_le _, Nat.zero_le _⟩ (fun H locs hz9 hP hD hS => ?_)
  refine lv_aload_n hx hb dX1_readCommand_9 rfl (lv_at hl 1 rfl) ?_
  refine lv_aload_n hx hb dX1_readCommand_10 rfl (lv_at hl 1 rfl) ?_
  refine lv_iload_n hx hb dX1_readCommand_11 rfl (lv_at hl 0 rfl) ?_
  refine lv_aload_n hx hb dX1_readCommand_12 rfl (lv_at hl 1 rfl) ?_
  refine va_get (D := D) (ci := 0) (C := RX1) (T := TX1) (N := 7) hx hb hts hinX1 hown hK hP 0 rfl rfl 2 (by decide) (hts (.fieldLink RX1 32 "NearRanks$CommandText" "next" "I") (by decide +kernel)) (fun _ h9 => h9) rfl dX1_readCommand_13 ?_
  rcases hw : wid tx nx (skL tx ln nx) with _ | k
  · skip
    refine wv_callPEr (As := [.int (nI nx), .int (nI (skL tx ln nx))]) (rest := [.ref co]) ⟨hx, hb, hml, hown, hts⟩ (kX1_wordBetween_none l D ea co ba cB tx ln (skL tx ln nx) am wo nb vl nx (skL tx ln nx) (by first | assumption | omega) (by first | assumption | omega) (by first | assumption | omega) (by first | assumption | omega) (by first | assumption | omega)) (cwV 2 hts gX1_readCommand_X1_wordBetween rfl rfl rfl (by decide +kernel) ⟨Nat.le_of_ble_eq_true rfl, Nat.le_of_ble_eq_true rfl⟩) hK hN hE hP hS hA [0, 1] [0] rfl rfl (va_recv (q0 := 0) (ci := 0) hK hP rfl rfl) rfl hl.1 rfl (Nat.le_of_ble_eq_true rfl) dX1_readCommand_16 ⟨Nat.zero_le _, Nat.zero_le _⟩ (fun H locs hz9 hP hS => ?_)
    refine va_put (D := D) (ci := 0) (v := .null) (ty := (.object "NearRanks$Word")) (C := RX1) (T := TX1) (N := 7) hx hb hts hinX1 tyX1 tyX1_ok nmX1 hown hK hP hD hS 0 rfl rfl 4 (by decide) (hts (.fieldLink RX1 45 "NearRanks$CommandText" "word" "LNearRanks$Word;") (by decide +kernel)) (fun _ h9 => h9) rfl (by decide +kernel) rfl rfl (Nat.le_of_ble_eq_true rfl) dX1_readCommand_19 (fun H locs hP hD hS => ?_)
    have hP : va_P D vwCl (CmdC co ba cB (tN tx) ln (skL tx ln nx) am .null nb vl) H := hP
    have hD : va_D _ (CmdC co ba cB (tN tx) ln (skL tx ln nx) am .null nb vl) := hD
    refine lv_aload_n hx hb dX1_readCommand_22 rfl (lv_at hl 1 rfl) ?_
    refine va_get (D := D) (ci := 0) (C := RX1) (T := TX1) (N := 7) hx hb hts hinX1 hown hK hP 0 rfl rfl 4 (by decide) (hts (.fieldLink RX1 45 "NearRanks$CommandText" "word" "LNearRanks$Word;") (by decide +kernel)) (fun _ h9 => h9) rfl dX1_readCommand_23 ?_
    refine lv_ifnonnullN hx hb dX1_readCommand_26 ?_
    refine lv_aload_n hx hb dX1_readCommand_29 rfl (lv_at hl 1 rfl) ?_
    refine lv_iload_n hx hb dX1_readCommand_30 rfl (lv_at hl 0 rfl) ?_
    refine va_put (D := D) (ci := 0) (v := .int (nI nx)) (ty := .int) (C := RX1) (T := TX1) (N := 7) hx hb hts hinX1 tyX1 tyX1_ok nmX1 hown hK hP hD hS 0 rfl rfl 2 (by decide) (hts (.fieldLink RX1 32 "NearRanks$CommandText" "next" "I") (by decide +kernel)) (fun _ h9 => h9) rfl (by decide +kernel) rfl rfl (Nat.le_of_ble_eq_true rfl) dX1_readCommand_31 (fun H locs hP hD hS => ?_)
    have hP : va_P D vwCl (CmdC co ba cB (tN tx) ln nx am .null nb vl) H := hP
    have hD : va_D _ (CmdC co ba cB (tN tx) ln nx am .null nb vl) := hD
    refine lv_iconst (v := nI 0) hx hb dX1_readCommand_34 (by decide) ?_
    have ew0_nx : (crS tx ln (nx, am, wo, nb, vl)).2.1 = nx := by first | (simp [crS, crV, crE, hw, wdV, va_rf, *]; done) | (simp [crS, crV, crE, hw, wdV, va_rf, *]; rfl)
    have ew0_am : (crS tx ln (nx, am, wo, nb, vl)).2.2.1 = am := by first | (simp [crS, crV, crE, hw, wdV, va_rf, *]; done) | (simp [crS, crV, crE, hw, wdV, va_rf, *]; rfl)
    have ew0_wd : wdV ea (crS tx ln (nx, am, wo, nb, vl)).2.2.2.1 = .null := by first | (simp [crS, crV, crE, hw, wdV, va_rf, *]; done) | (simp [crS, crV, crE, hw, wdV, va_rf, *]; rfl)
    have ew0_nb : (crS tx ln (nx, am, wo, nb, vl)).2.2.2.2.1 = nb := by first | (simp [crS, crV, crE, hw, wdV, va_rf, *]; done) | (simp [crS, crV, crE, hw, wdV, va_rf, *]; rfl)
    have ew0_vl : (crS tx ln (nx, am, wo, nb, vl)).2.2.2.2.2 = vl := by first | (simp [crS, crV, crE, hw, wdV, va_rf, *]; done) | (simp [crS, crV, crE, hw, wdV, va_rf, *]; rfl)
    exact wv_zretM (b := false) hx hb hr hlocks hP hD hS rfl (by first | (simp [crS, crV, crE, hw, wdV, va_rf, *]; done) | (simp [crS, crV, crE, hw, wdV, va_rf, *]; rfl)) (by rw [ew0_wd, ew0_nb, ew0_vl, ew0_am, ew0_nx]) dX1_readCommand_35
  · skip
    have hk7 := wid_lt hw
    have hp9 := ncP_le (c := tx) false hs9.2
    have hpa := ncP_le (c := tx) true hs9.2
    have hpb := ncP_le (c := tx) true hp9
    have hsa := (skS_le (c := tx) hs9.2).2
    have hsb := (skS_le (c := tx) hp9).2
    have hsc := (skS_le (c := tx) hpa).2
    have hsd := (skS_le (c := tx) hpb).2
    refine wv_callPEr (As := [.int (nI nx), .int (nI (skL tx ln nx))]) (rest := [.ref co]) ⟨hx, hb, hml, hown, hts⟩ (kX1_wordBetween_some l D ea co ba cB tx ln (skL tx ln nx) am wo nb vl nx (skL tx ln nx) k (by first | assumption | omega) (by first | assumption | omega) (by first | assumption | omega) (by first | assumption | omega) (by first | assumption | omega)) (cwV 2 hts gX1_readCommand_X1_wordBetween rfl rfl rfl (by decide +kernel) ⟨Nat.le_of_ble_eq_true rfl, Nat.le_of_ble_eq_true rfl⟩) hK hN hE hP hS hA [0, 1] [0] rfl rfl (va_recv (q0 := 0) (ci := 0) hK hP rfl rfl) rfl hl.1 rfl (Nat.le_of_ble_eq_true rfl) dX1_readCommand_16 ⟨Nat.zero_le _, Nat.zero_le _⟩ (fun H locs hz9 hP hS => ?_)
    refine va_put (D := D) (ci := 0) (v := .ref (eW ea k)) (ty := (.object "NearRanks$Word")) (C := RX1) (T := TX1) (N := 7) hx hb hts hinX1 tyX1 tyX1_ok nmX1 hown hK hP hD hS 0 rfl rfl 4 (by decide) (hts (.fieldLink RX1 45 "NearRanks$CommandText" "word" "LNearRanks$Word;") (by decide +kernel)) (fun _ h9 => h9) rfl (by decide +kernel) rfl rfl (Nat.le_of_ble_eq_true rfl) dX1_readCommand_19 (fun H locs hP hD hS => ?_)
    have hP : va_P D vwCl (CmdC co ba cB (tN tx) ln (skL tx ln nx) am (.ref (eW ea k)) nb vl) H := hP
    have hD : va_D _ (CmdC co ba cB (tN tx) ln (skL tx ln nx) am (.ref (eW ea k)) nb vl) := hD
    refine lv_aload_n hx hb dX1_readCommand_22 rfl (lv_at hl 1 rfl) ?_
    refine va_get (D := D) (ci := 0) (C := RX1) (T := TX1) (N := 7) hx hb hts hinX1 hown hK hP 0 rfl rfl 4 (by decide) (hts (.fieldLink RX1 45 "NearRanks$CommandText" "word" "LNearRanks$Word;") (by decide +kernel)) (fun _ h9 => h9) rfl dX1_readCommand_23 ?_
    refine lv_ifnonnull (tgt := 36) hx hb dX1_readCommand_26 (by decide) ?_
    refine lv_aload_n hx hb dX1_readCommand_36 rfl (lv_at hl 1 rfl) ?_
    refine va_get (D := D) (ci := 0) (C := RX1) (T := TX1) (N := 7) hx hb hts hinX1 hown hK hP 0 rfl rfl 4 (by decide) (hts (.fieldLink RX1 45 "NearRanks$CommandText" "word" "LNearRanks$Word;") (by decide +kernel)) (fun _ h9 => h9) rfl dX1_readCommand_37 ?_
    refine wv_getXN (i := k) hx hb hE.wd.2.2.2.1 (by omega) hS hown (hN.use (w := .fieldLinkNest "NearRanks$CommandText" 49 "NearRanks$Word" "hasNumber" "Z" "NearRanks") (by decide +kernel) rfl) (fun _ h9 => h9) dX1_readCommand_40 ?_
    refine wv_ifeqB (tgt := 56) hx hb dX1_readCommand_43 (by decide) (fun c43 => ?_) (fun c43 => ?_)
    · skip
      refine lv_aload_n hx hb dX1_readCommand_56 rfl (lv_at hl 1 rfl) ?_
      refine lv_aload_n hx hb dX1_readCommand_57 rfl (lv_at hl 1 rfl) ?_
      refine va_get (D := D) (ci := 0) (C := RX1) (T := TX1) (N := 7) hx hb hts hinX1 hown hK hP 0 rfl rfl 3 (by decide) (hts (.fieldLink RX1 59 "NearRanks$CommandText" "amount" "I") (by decide +kernel)) (fun _ h9 => h9) rfl dX1_readCommand_58 ?_
      refine va_put (D := D) (ci := 0) (v := .int am) (ty := .int) (C := RX1) (T := TX1) (N := 7) hx hb hts hinX1 tyX1 tyX1_ok nmX1 hown hK hP hD hS 0 rfl rfl 5 (by decide) (hts (.fieldLink RX1 62 "NearRanks$CommandText" "number" "I") (by decide +kernel)) (fun _ h9 => h9) rfl (by decide +kernel) rfl rfl (Nat.le_of_ble_eq_true rfl) dX1_readCommand_61 (fun H locs hP hD hS => ?_)
      have hP : va_P D vwCl (CmdC co ba cB (tN tx) ln (skL tx ln nx) am (.ref (eW ea k)) am vl) H := hP
      have hD : va_D _ (CmdC co ba cB (tN tx) ln (skL tx ln nx) am (.ref (eW ea k)) am vl) := hD
      refine lv_aload_n hx hb dX1_readCommand_64 rfl (lv_at hl 1 rfl) ?_
      refine va_get (D := D) (ci := 0) (C := RX1) (T := TX1) (N := 7) hx hb hts hinX1 hown hK hP 0 rfl rfl 4 (by decide) (hts (.fieldLink RX1 45 "NearRanks$CommandText" "word" "LNearRanks$Word;") (by decide +kernel)) (fun _ h9 => h9) rfl dX1_readCommand_65 ?_
      refine wv_getXN (i := k) hx hb hE.wd.2.2.2.2 (by omega) hS hown (hN.use (w := .fieldLinkNest "NearRanks$CommandText" 65 "NearRanks$Word" "hasValue" "Z" "NearRanks") (by decide +kernel) rfl) (fun _ h9 => h9) dX1_readCommand_68 ?_
      refine wv_ifeqB (tgt := 84) hx hb dX1_readCommand_71 (by decide) (fun c71 => ?_) (fun c71 => ?_)
      · skip
        refine lv_aload_n hx hb dX1_readCommand_84 rfl (lv_at hl 1 rfl) ?_
        refine lv_aload_n hx hb dX1_readCommand_85 rfl (lv_at hl 1 rfl) ?_
        refine va_get (D := D) (ci := 0) (C := RX1) (T := TX1) (N := 7) hx hb hts hinX1 hown hK hP 0 rfl rfl 3 (by decide) (hts (.fieldLink RX1 59 "NearRanks$CommandText" "amount" "I") (by decide +kernel)) (fun _ h9 => h9) rfl dX1_readCommand_86 ?_
        refine lv_i2l (v := am.toInt64) hx hb dX1_readCommand_89 rfl ?_
        refine va_put (D := D) (ci := 0) (v := .long am.toInt64) (ty := .long) (C := RX1) (T := TX1) (N := 7) hx hb hts hinX1 tyX1 tyX1_ok nmX1 hown hK hP hD hS 0 rfl rfl 6 (by decide) (hts (.fieldLink RX1 68 "NearRanks$CommandText" "value" "J") (by decide +kernel)) (fun _ h9 => h9) rfl (by decide +kernel) rfl rfl (Nat.le_of_ble_eq_true rfl) dX1_readCommand_90 (fun H locs hP hD hS => ?_)
        have hP : va_P D vwCl (CmdC co ba cB (tN tx) ln (skL tx ln nx) am (.ref (eW ea k)) am am.toInt64) H := hP
        have hD : va_D _ (CmdC co ba cB (tN tx) ln (skL tx ln nx) am (.ref (eW ea k)) am am.toInt64) := hD
        refine lv_aload_n hx hb dX1_readCommand_93 rfl (lv_at hl 1 rfl) ?_
        refine wv_callMv (As := []) (rest := []) (wr := []) (ws1 := CmdC co ba cB (tN tx) ln (skS tx ln (skL tx ln nx)) am (.ref (eW ea k)) am am.toInt64) ⟨hx, hb, hml, hown, hts⟩ (kX1_skipSpaces l D co ba cB tx ln (skL tx ln nx) am (.ref (eW ea k)) am am.toInt64 (by first | assumption | omega) (by first | assumption | omega) (by first | assumption | omega)) (cwV 0 hts gX1_readCommand_X1_skipSpaces rfl rfl rfl (by decide +kernel) ⟨Nat.le_of_ble_eq_true rfl, Nat.le_of_ble_eq_true rfl⟩) hK hN hP hD hS hA [0, 1] [] [0] [0, 1] rfl rfl (by decide) rfl (by decide) (by decide) rfl (by decide) rfl 0 0 rfl rfl rfl rfl hl.1 rfl (Nat.le_of_ble_eq_true rfl) dX1_readCommand_94 ⟨Nat.zero_le _, Nat.zero_le _⟩ (fun H locs hz9 hP hD hS => ?_)
        refine lv_aload_n hx hb dX1_readCommand_97 rfl (lv_at hl 1 rfl) ?_
        refine lv_bipush (v := nI 59) hx hb dX1_readCommand_98 (by decide) ?_
        refine wv_callMi (As := [.int (nI 59)]) (rest := []) (wr := []) (ws1 := CmdC co ba cB (tN tx) ln (if isA tx ln 59 59 (skS tx ln (skL tx ln nx)) then (skS tx ln (skL tx ln nx)) + 1 else (skS tx ln (skL tx ln nx))) am (.ref (eW ea k)) am am.toInt64) ⟨hx, hb, hml, hown, hts⟩ (kX1_readByte l D co ba cB tx ln (skS tx ln (skL tx ln nx)) am (.ref (eW ea k)) am am.toInt64 59 (by first | assumption | omega) (by first | assumption | omega) (by first | assumption | omega) (by first | assumption | omega)) (cwV 1 hts gX1_readCommand_X1_readByte rfl rfl rfl (by decide +kernel) ⟨Nat.le_of_ble_eq_true rfl, Nat.le_of_ble_eq_true rfl⟩) hK hN hP hD hS hA [0, 1] [] [0] [0, 1] rfl rfl (by decide) rfl (by decide) (by decide) rfl (by decide) rfl 0 0 rfl rfl rfl rfl hl.1 rfl (Nat.le_of_ble_eq_true rfl) dX1_readCommand_100 ⟨Nat.zero_le _, Nat.zero_le _⟩ (fun H locs hz9 hP hD hS => ?_)
        rcases Bool.eq_false_or_eq_true (isA tx ln 59 59 (skS tx ln (skL tx ln nx))) with hb9 | hb9
        · skip
          have ew0_nx : (crS tx ln (nx, am, wo, nb, vl)).2.1 = (if isA tx ln 59 59 (skS tx ln (skL tx ln nx)) then (skS tx ln (skL tx ln nx)) + 1 else (skS tx ln (skL tx ln nx))) := by first | (simp [crS, crV, crE, hw, wdV, va_rf, *]; done) | (simp [crS, crV, crE, hw, wdV, va_rf, *]; rfl)
          have ew0_am : (crS tx ln (nx, am, wo, nb, vl)).2.2.1 = am := by first | (simp [crS, crV, crE, hw, wdV, va_rf, *]; done) | (simp [crS, crV, crE, hw, wdV, va_rf, *]; rfl)
          have ew0_wd : wdV ea (crS tx ln (nx, am, wo, nb, vl)).2.2.2.1 = .ref (eW ea k) := by first | (simp [crS, crV, crE, hw, wdV, va_rf, *]; done) | (simp [crS, crV, crE, hw, wdV, va_rf, *]; rfl)
          have ew0_nb : (crS tx ln (nx, am, wo, nb, vl)).2.2.2.2.1 = am := by first | (simp [crS, crV, crE, hw, wdV, va_rf, *]; done) | (simp [crS, crV, crE, hw, wdV, va_rf, *]; rfl)
          have ew0_vl : (crS tx ln (nx, am, wo, nb, vl)).2.2.2.2.2 = am.toInt64 := by first | (simp [crS, crV, crE, hw, wdV, va_rf, *]; done) | (simp [crS, crV, crE, hw, wdV, va_rf, *]; rfl)
          exact wv_zretM (b := isA tx ln 59 59 (skS tx ln (skL tx ln nx))) hx hb hr hlocks hP hD hS rfl (by first | (simp [crS, crV, crE, hw, wdV, va_rf, *]; done) | (simp [crS, crV, crE, hw, wdV, va_rf, *]; rfl)) (by rw [ew0_wd, ew0_nb, ew0_vl, ew0_am, ew0_nx]) dX1_readCommand_103
        · skip
          have ew0_nx : (crS tx ln (nx, am, wo, nb, vl)).2.1 = (if isA tx ln 59 59 (skS tx ln (skL tx ln nx)) then (skS tx ln (skL tx ln nx)) + 1 else (skS tx ln (skL tx ln nx))) := by first | (simp [crS, crV, crE, hw, wdV, va_rf, *]; done) | (simp [crS, crV, crE, hw, wdV, va_rf, *]; rfl)
          have ew0_am : (crS tx ln (nx, am, wo, nb, vl)).2.2.1 = am := by first | (simp [crS, crV, crE, hw, wdV, va_rf, *]; done) | (simp [crS, crV, crE, hw, wdV, va_rf, *]; rfl)
          have ew0_wd : wdV ea (crS tx ln (nx, am, wo, nb, vl)).2.2.2.1 = .ref (eW ea k) := by first | (simp [crS, crV, crE, hw, wdV, va_rf, *]; done) | (simp [crS, crV, crE, hw, wdV, va_rf, *]; rfl)
          have ew0_nb : (crS tx ln (nx, am, wo, nb, vl)).2.2.2.2.1 = am := by first | (simp [crS, crV, crE, hw, wdV, va_rf, *]; done) | (simp [crS, crV, crE, hw, wdV, va_rf, *]; rfl)
          have ew0_vl : (crS tx ln (nx, am, wo, nb, vl)).2.2.2.2.2 = am.toInt64 := by first | (simp [crS, crV, crE, hw, wdV, va_rf, *]; done) | (simp [crS, crV, crE, hw, wdV, va_rf, *]; rfl)
          exact wv_zretM (b := isA tx ln 59 59 (skS tx ln (skL tx ln nx))) hx hb hr hlocks hP hD hS rfl (by first | (simp [crS, crV, crE, hw, wdV, va_rf, *]; done) | (simp [crS, crV, crE, hw, wdV, va_rf, *]; rfl)) (by rw [ew0_wd, ew0_nb, ew0_vl, ew0_am, ew0_nx]) dX1_readCommand_103
      · skip
        refine lv_aload_n hx hb dX1_readCommand_74 rfl (lv_at hl 1 rfl) ?_
        refine lv_iconst (v := nI 1) hx hb dX1_readCommand_75 (by decide) ?_
        refine wv_callMi (As := [.int (nI 1)]) (rest := []) (wr := []) (ws1 := CmdC co ba cB (tN tx) ln (ncP tx ln (skL tx ln nx) true) (ncA tx ln (skL tx ln nx) true am) (.ref (eW ea k)) am vl) ⟨hx, hb, hml, hown, hts⟩ (kX1_readAmount l D co ba cB tx ln (skL tx ln nx) am (.ref (eW ea k)) am vl true (by first | assumption | omega) (by first | assumption | omega) (by first | assumption | omega)) (cwV 1 hts gX1_readCommand_X1_readAmount rfl rfl rfl (by decide +kernel) ⟨Nat.le_of_ble_eq_true rfl, Nat.le_of_ble_eq_true rfl⟩) hK hN hP hD hS hA [0, 1] [] [0] [0, 1] rfl rfl (by decide) rfl (by decide) (by decide) rfl (by decide) rfl 0 0 rfl rfl rfl rfl hl.1 rfl (Nat.le_of_ble_eq_true rfl) dX1_readCommand_76 ⟨Nat.zero_le _, Nat.zero_le _⟩ (fun H locs hz9 hP hD hS => ?_)
        refine wv_ifneB (tgt := 84) hx hb dX1_readCommand_79 (by decide) (fun c79 => ?_) (fun c79 => ?_)
        · skip
          refine lv_aload_n hx hb dX1_readCommand_84 rfl (lv_at hl 1 rfl) ?_
          refine lv_aload_n hx hb dX1_readCommand_85 rfl (lv_at hl 1 rfl) ?_
          refine va_get (D := D) (ci := 0) (C := RX1) (T := TX1) (N := 7) hx hb hts hinX1 hown hK hP 0 rfl rfl 3 (by decide) (hts (.fieldLink RX1 59 "NearRanks$CommandText" "amount" "I") (by decide +kernel)) (fun _ h9 => h9) rfl dX1_readCommand_86 ?_
          refine lv_i2l (v := (ncA tx ln (skL tx ln nx) true am).toInt64) hx hb dX1_readCommand_89 rfl ?_
          refine va_put (D := D) (ci := 0) (v := .long ((ncA tx ln (skL tx ln nx) true am).toInt64)) (ty := .long) (C := RX1) (T := TX1) (N := 7) hx hb hts hinX1 tyX1 tyX1_ok nmX1 hown hK hP hD hS 0 rfl rfl 6 (by decide) (hts (.fieldLink RX1 68 "NearRanks$CommandText" "value" "J") (by decide +kernel)) (fun _ h9 => h9) rfl (by decide +kernel) rfl rfl (Nat.le_of_ble_eq_true rfl) dX1_readCommand_90 (fun H locs hP hD hS => ?_)
          have hP : va_P D vwCl (CmdC co ba cB (tN tx) ln (ncP tx ln (skL tx ln nx) true) (ncA tx ln (skL tx ln nx) true am) (.ref (eW ea k)) am ((ncA tx ln (skL tx ln nx) true am).toInt64)) H := hP
          have hD : va_D _ (CmdC co ba cB (tN tx) ln (ncP tx ln (skL tx ln nx) true) (ncA tx ln (skL tx ln nx) true am) (.ref (eW ea k)) am ((ncA tx ln (skL tx ln nx) true am).toInt64)) := hD
          refine lv_aload_n hx hb dX1_readCommand_93 rfl (lv_at hl 1 rfl) ?_
          refine wv_callMv (As := []) (rest := []) (wr := []) (ws1 := CmdC co ba cB (tN tx) ln (skS tx ln (ncP tx ln (skL tx ln nx) true)) (ncA tx ln (skL tx ln nx) true am) (.ref (eW ea k)) am ((ncA tx ln (skL tx ln nx) true am).toInt64)) ⟨hx, hb, hml, hown, hts⟩ (kX1_skipSpaces l D co ba cB tx ln (ncP tx ln (skL tx ln nx) true) (ncA tx ln (skL tx ln nx) true am) (.ref (eW ea k)) am ((ncA tx ln (skL tx ln nx) true am).toInt64) (by first | assumption | omega) (by first | assumption | omega) (by first | assumption | omega)) (cwV 0 hts gX1_readCommand_X1_skipSpaces rfl rfl rfl (by decide +kernel) ⟨Nat.le_of_ble_eq_true rfl, Nat.le_of_ble_eq_true rfl⟩) hK hN hP hD hS hA [0, 1] [] [0] [0, 1] rfl rfl (by decide) rfl (by decide) (by decide) rfl (by decide) rfl 0 0 rfl rfl rfl rfl hl.1 rfl (Nat.le_of_ble_eq_true rfl) dX1_readCommand_94 ⟨Nat.zero_le _, Nat.zero_le _⟩ (fun H locs hz9 hP hD hS => ?_)
          refine lv_aload_n hx hb dX1_readCommand_97 rfl (lv_at hl 1 rfl) ?_
          refine lv_bipush (v := nI 59) hx hb dX1_readCommand_98 (by decide) ?_
          refine wv_callMi (As := [.int (nI 59)]) (rest := []) (wr := []) (ws1 := CmdC co ba cB (tN tx) ln (if isA tx ln 59 59 (skS tx ln (ncP tx ln (skL tx ln nx) true)) then (skS tx ln (ncP tx ln (skL tx ln nx) true)) + 1 else (skS tx ln (ncP tx ln (skL tx ln nx) true))) (ncA tx ln (skL tx ln nx) true am) (.ref (eW ea k)) am ((ncA tx ln (skL tx ln nx) true am).toInt64)) ⟨hx, hb, hml, hown, hts⟩ (kX1_readByte l D co ba cB tx ln (skS tx ln (ncP tx ln (skL tx ln nx) true)) (ncA tx ln (skL tx ln nx) true am) (.ref (eW ea k)) am ((ncA tx ln (skL tx ln nx) true am).toInt64) 59 (by first | assumption | omega) (by first | assumption | omega) (by first | assumption | omega) (by first | assumption | omega)) (cwV 1 hts gX1_readCommand_X1_readByte rfl rfl rfl (by decide +kernel) ⟨Nat.le_of_ble_eq_true rfl, Nat.le_of_ble_eq_true rfl⟩) hK hN hP hD hS hA [0, 1] [] [0] [0, 1] rfl rfl (by decide) rfl (by decide) (by decide) rfl (by decide) rfl 0 0 rfl rfl rfl rfl hl.1 rfl (Nat.le_of_ble_eq_true rfl) dX1_readCommand_100 ⟨Nat.zero_le _, Nat.zero_le _⟩ (fun H locs hz9 hP hD hS => ?_)
          rcases Bool.eq_false_or_eq_true (isA tx ln 59 59 (skS tx ln (ncP tx ln (skL tx ln nx) true))) with hb9 | hb9
          · skip
            have ew0_nx : (crS tx ln (nx, am, wo, nb, vl)).2.1 = (if isA tx ln 59 59 (skS tx ln (ncP tx ln (skL tx ln nx) true)) then (skS tx ln (ncP tx ln (skL tx ln nx) true)) + 1 else (skS tx ln (ncP tx ln (skL tx ln nx) true))) := by first | (simp [crS, crV, crE, hw, wdV, va_rf, *]; done) | (simp [crS, crV, crE, hw, wdV, va_rf, *]; rfl)
            have ew0_am : (crS tx ln (nx, am, wo, nb, vl)).2.2.1 = ncA tx ln (skL tx ln nx) true am := by first | (simp [crS, crV, crE, hw, wdV, va_rf, *]; done) | (simp [crS, crV, crE, hw, wdV, va_rf, *]; rfl)
            have ew0_wd : wdV ea (crS tx ln (nx, am, wo, nb, vl)).2.2.2.1 = .ref (eW ea k) := by first | (simp [crS, crV, crE, hw, wdV, va_rf, *]; done) | (simp [crS, crV, crE, hw, wdV, va_rf, *]; rfl)
            have ew0_nb : (crS tx ln (nx, am, wo, nb, vl)).2.2.2.2.1 = am := by first | (simp [crS, crV, crE, hw, wdV, va_rf, *]; done) | (simp [crS, crV, crE, hw, wdV, va_rf, *]; rfl)
            have ew0_vl : (crS tx ln (nx, am, wo, nb, vl)).2.2.2.2.2 = (ncA tx ln (skL tx ln nx) true am).toInt64 := by first | (simp [crS, crV, crE, hw, wdV, va_rf, *]; done) | (simp [crS, crV, crE, hw, wdV, va_rf, *]; rfl)
            exact wv_zretM (b := isA tx ln 59 59 (skS tx ln (ncP tx ln (skL tx ln nx) true))) hx hb hr hlocks hP hD hS rfl (by first | (simp [crS, crV, crE, hw, wdV, va_rf, *]; done) | (simp [crS, crV, crE, hw, wdV, va_rf, *]; rfl)) (by rw [ew0_wd, ew0_nb, ew0_vl, ew0_am, ew0_nx]) dX1_readCommand_103
          · skip
            have ew0_nx : (crS tx ln (nx, am, wo, nb, vl)).2.1 = (if isA tx ln 59 59 (skS tx ln (ncP tx ln (skL tx ln nx) true)) then (skS tx ln (ncP tx ln (skL tx ln nx) true)) + 1 else (skS tx ln (ncP tx ln (skL tx ln nx) true))) := by first | (simp [crS, crV, crE, hw, wdV, va_rf, *]; done) | (simp [crS, crV, crE, hw, wdV, va_rf, *]; rfl)
            have ew0_am : (crS tx ln (nx, am, wo, nb, vl)).2.2.1 = ncA tx ln (skL tx ln nx) true am := by first | (simp [crS, crV, crE, hw, wdV, va_rf, *]; done) | (simp [crS, crV, crE, hw, wdV, va_rf, *]; rfl)
            have ew0_wd : wdV ea (crS tx ln (nx, am, wo, nb, vl)).2.2.2.1 = .ref (eW ea k) := by first | (simp [crS, crV, crE, hw, wdV, va_rf, *]; done) | (simp [crS, crV, crE, hw, wdV, va_rf, *]; rfl)
            have ew0_nb : (crS tx ln (nx, am, wo, nb, vl)).2.2.2.2.1 = am := by first | (simp [crS, crV, crE, hw, wdV, va_rf, *]; done) | (simp [crS, crV, crE, hw, wdV, va_rf, *]; rfl)
            have ew0_vl : (crS tx ln (nx, am, wo, nb, vl)).2.2.2.2.2 = (ncA tx ln (skL tx ln nx) true am).toInt64 := by first | (simp [crS, crV, crE, hw, wdV, va_rf, *]; done) | (simp [crS, crV, crE, hw, wdV, va_rf, *]; rfl)
            exact wv_zretM (b := isA tx ln 59 59 (skS tx ln (ncP tx ln (skL tx ln nx) true))) hx hb hr hlocks hP hD hS rfl (by first | (simp [crS, crV, crE, hw, wdV, va_rf, *]; done) | (simp [crS, crV, crE, hw, wdV, va_rf, *]; rfl)) (by rw [ew0_wd, ew0_nb, ew0_vl, ew0_am, ew0_nx]) dX1_readCommand_103
        · skip
          refine lv_iconst (v := nI 0) hx hb dX1_readCommand_82 (by decide) ?_
          have ew0_nx : (crS tx ln (nx, am, wo, nb, vl)).2.1 = ncP tx ln (skL tx ln nx) true := by first | (simp [crS, crV, crE, hw, wdV, va_rf, *]; done) | (simp [crS, crV, crE, hw, wdV, va_rf, *]; rfl)
          have ew0_am : (crS tx ln (nx, am, wo, nb, vl)).2.2.1 = ncA tx ln (skL tx ln nx) true am := by first | (simp [crS, crV, crE, hw, wdV, va_rf, *]; done) | (simp [crS, crV, crE, hw, wdV, va_rf, *]; rfl)
          have ew0_wd : wdV ea (crS tx ln (nx, am, wo, nb, vl)).2.2.2.1 = .ref (eW ea k) := by first | (simp [crS, crV, crE, hw, wdV, va_rf, *]; done) | (simp [crS, crV, crE, hw, wdV, va_rf, *]; rfl)
          have ew0_nb : (crS tx ln (nx, am, wo, nb, vl)).2.2.2.2.1 = am := by first | (simp [crS, crV, crE, hw, wdV, va_rf, *]; done) | (simp [crS, crV, crE, hw, wdV, va_rf, *]; rfl)
          have ew0_vl : (crS tx ln (nx, am, wo, nb, vl)).2.2.2.2.2 = vl := by first | (simp [crS, crV, crE, hw, wdV, va_rf, *]; done) | (simp [crS, crV, crE, hw, wdV, va_rf, *]; rfl)
          exact wv_zretM (b := false) hx hb hr hlocks hP hD hS rfl (by first | (simp [crS, crV, crE, hw, wdV, va_rf, *]; done) | (simp [crS, crV, crE, hw, wdV, va_rf, *]; rfl)) (by rw [ew0_wd, ew0_nb, ew0_vl, ew0_am, ew0_nx]) dX1_readCommand_83
    · skip
      refine lv_aload_n hx hb dX1_readCommand_46 rfl (lv_at hl 1 rfl) ?_
      refine lv_iconst (v := nI 0) hx hb dX1_readCommand_47 (by decide) ?_
      refine wv_callMi (As := [.int (nI 0)]) (rest := []) (wr := []) (ws1 := CmdC co ba cB (tN tx) ln (ncP tx ln (skL tx ln nx) false) (ncA tx ln (skL tx ln nx) false am) (.ref (eW ea k)) nb vl) ⟨hx, hb, hml, hown, hts⟩ (kX1_readAmount l D co ba cB tx ln (skL tx ln nx) am (.ref (eW ea k)) nb vl false (by first | assumption | omega) (by first | assumption | omega) (by first | assumption | omega)) (cwV 1 hts gX1_readCommand_X1_readAmount rfl rfl rfl (by decide +kernel) ⟨Nat.le_of_ble_eq_true rfl, Nat.le_of_ble_eq_true rfl⟩) hK hN hP hD hS hA [0, 1] [] [0] [0, 1] rfl rfl (by decide) rfl (by decide) (by decide) rfl (by decide) rfl 0 0 rfl rfl rfl rfl hl.1 rfl (Nat.le_of_ble_eq_true rfl) dX1_readCommand_48 ⟨Nat.zero_le _, Nat.zero_le _⟩ (fun H locs hz9 hP hD hS => ?_)
      refine wv_ifneB (tgt := 56) hx hb dX1_readCommand_51 (by decide) (fun c51 => ?_) (fun c51 => ?_)
      · skip
        refine lv_aload_n hx hb dX1_readCommand_56 rfl (lv_at hl 1 rfl) ?_
        refine lv_aload_n hx hb dX1_readCommand_57 rfl (lv_at hl 1 rfl) ?_
        refine va_get (D := D) (ci := 0) (C := RX1) (T := TX1) (N := 7) hx hb hts hinX1 hown hK hP 0 rfl rfl 3 (by decide) (hts (.fieldLink RX1 59 "NearRanks$CommandText" "amount" "I") (by decide +kernel)) (fun _ h9 => h9) rfl dX1_readCommand_58 ?_
        refine va_put (D := D) (ci := 0) (v := .int (ncA tx ln (skL tx ln nx) false am)) (ty := .int) (C := RX1) (T := TX1) (N := 7) hx hb hts hinX1 tyX1 tyX1_ok nmX1 hown hK hP hD hS 0 rfl rfl 5 (by decide) (hts (.fieldLink RX1 62 "NearRanks$CommandText" "number" "I") (by decide +kernel)) (fun _ h9 => h9) rfl (by decide +kernel) rfl rfl (Nat.le_of_ble_eq_true rfl) dX1_readCommand_61 (fun H locs hP hD hS => ?_)
        have hP : va_P D vwCl (CmdC co ba cB (tN tx) ln (ncP tx ln (skL tx ln nx) false) (ncA tx ln (skL tx ln nx) false am) (.ref (eW ea k)) (ncA tx ln (skL tx ln nx) false am) vl) H := hP
        have hD : va_D _ (CmdC co ba cB (tN tx) ln (ncP tx ln (skL tx ln nx) false) (ncA tx ln (skL tx ln nx) false am) (.ref (eW ea k)) (ncA tx ln (skL tx ln nx) false am) vl) := hD
        refine lv_aload_n hx hb dX1_readCommand_64 rfl (lv_at hl 1 rfl) ?_
        refine va_get (D := D) (ci := 0) (C := RX1) (T := TX1) (N := 7) hx hb hts hinX1 hown hK hP 0 rfl rfl 4 (by decide) (hts (.fieldLink RX1 45 "NearRanks$CommandText" "word" "LNearRanks$Word;") (by decide +kernel)) (fun _ h9 => h9) rfl dX1_readCommand_65 ?_
        refine wv_getXN (i := k) hx hb hE.wd.2.2.2.2 (by omega) hS hown (hN.use (w := .fieldLinkNest "NearRanks$CommandText" 65 "NearRanks$Word" "hasValue" "Z" "NearRanks") (by decide +kernel) rfl) (fun _ h9 => h9) dX1_readCommand_68 ?_
        refine wv_ifeqB (tgt := 84) hx hb dX1_readCommand_71 (by decide) (fun c71 => ?_) (fun c71 => ?_)
        · skip
          refine lv_aload_n hx hb dX1_readCommand_84 rfl (lv_at hl 1 rfl) ?_
          refine lv_aload_n hx hb dX1_readCommand_85 rfl (lv_at hl 1 rfl) ?_
          refine va_get (D := D) (ci := 0) (C := RX1) (T := TX1) (N := 7) hx hb hts hinX1 hown hK hP 0 rfl rfl 3 (by decide) (hts (.fieldLink RX1 59 "NearRanks$CommandText" "amount" "I") (by decide +kernel)) (fun _ h9 => h9) rfl dX1_readCommand_86 ?_
          refine lv_i2l (v := (ncA tx ln (skL tx ln nx) false am).toInt64) hx hb dX1_readCommand_89 rfl ?_
          refine va_put (D := D) (ci := 0) (v := .long ((ncA tx ln (skL tx ln nx) false am).toInt64)) (ty := .long) (C := RX1) (T := TX1) (N := 7) hx hb hts hinX1 tyX1 tyX1_ok nmX1 hown hK hP hD hS 0 rfl rfl 6 (by decide) (hts (.fieldLink RX1 68 "NearRanks$CommandText" "value" "J") (by decide +kernel)) (fun _ h9 => h9) rfl (by decide +kernel) rfl rfl (Nat.le_of_ble_eq_true rfl) dX1_readCommand_90 (fun H locs hP hD hS => ?_)
          have hP : va_P D vwCl (CmdC co ba cB (tN tx) ln (ncP tx ln (skL tx ln nx) false) (ncA tx ln (skL tx ln nx) false am) (.ref (eW ea k)) (ncA tx ln (skL tx ln nx) false am) ((ncA tx ln (skL tx ln nx) false am).toInt64)) H := hP
          have hD : va_D _ (CmdC co ba cB (tN tx) ln (ncP tx ln (skL tx ln nx) false) (ncA tx ln (skL tx ln nx) false am) (.ref (eW ea k)) (ncA tx ln (skL tx ln nx) false am) ((ncA tx ln (skL tx ln nx) false am).toInt64)) := hD
          refine lv_aload_n hx hb dX1_readCommand_93 rfl (lv_at hl 1 rfl) ?_
          refine wv_callMv (As := []) (rest := []) (wr := []) (ws1 := CmdC co ba cB (tN tx) ln (skS tx ln (ncP tx ln (skL tx ln nx) false)) (ncA tx ln (skL tx ln nx) false am) (.ref (eW ea k)) (ncA tx ln (skL tx ln nx) false am) ((ncA tx ln (skL tx ln nx) false am).toInt64)) ⟨hx, hb, hml, hown, hts⟩ (kX1_skipSpaces l D co ba cB tx ln (ncP tx ln (skL tx ln nx) false) (ncA tx ln (skL tx ln nx) false am) (.ref (eW ea k)) (ncA tx ln (skL tx ln nx) false am) ((ncA tx ln (skL tx ln nx) false am).toInt64) (by first | assumption | omega) (by first | assumption | omega) (by first | assumption | omega)) (cwV 0 hts gX1_readCommand_X1_skipSpaces rfl rfl rfl (by decide +kernel) ⟨Nat.le_of_ble_eq_true rfl, Nat.le_of_ble_eq_true rfl⟩) hK hN hP hD hS hA [0, 1] [] [0] [0, 1] rfl rfl (by decide) rfl (by decide) (by decide) rfl (by decide) rfl 0 0 rfl rfl rfl rfl hl.1 rfl (Nat.le_of_ble_eq_true rfl) dX1_readCommand_94 ⟨Nat.zero_le _, Nat.zero_le _⟩ (fun H locs hz9 hP hD hS => ?_)
          refine lv_aload_n hx hb dX1_readCommand_97 rfl (lv_at hl 1 rfl) ?_
          refine lv_bipush (v := nI 59) hx hb dX1_readCommand_98 (by decide) ?_
          refine wv_callMi (As := [.int (nI 59)]) (rest := []) (wr := []) (ws1 := CmdC co ba cB (tN tx) ln (if isA tx ln 59 59 (skS tx ln (ncP tx ln (skL tx ln nx) false)) then (skS tx ln (ncP tx ln (skL tx ln nx) false)) + 1 else (skS tx ln (ncP tx ln (skL tx ln nx) false))) (ncA tx ln (skL tx ln nx) false am) (.ref (eW ea k)) (ncA tx ln (skL tx ln nx) false am) ((ncA tx ln (skL tx ln nx) false am).toInt64)) ⟨hx, hb, hml, hown, hts⟩ (kX1_readByte l D co ba cB tx ln (skS tx ln (ncP tx ln (skL tx ln nx) false)) (ncA tx ln (skL tx ln nx) false am) (.ref (eW ea k)) (ncA tx ln (skL tx ln nx) false am) ((ncA tx ln (skL tx ln nx) false am).toInt64) 59 (by first | assumption | omega) (by first | assumption | omega) (by first | assumption | omega) (by first | assumption | omega)) (cwV 1 hts gX1_readCommand_X1_readByte rfl rfl rfl (by decide +kernel) ⟨Nat.le_of_ble_eq_true rfl, Nat.le_of_ble_eq_true rfl⟩) hK hN hP hD hS hA [0, 1] [] [0] [0, 1] rfl rfl (by decide) rfl (by decide) (by decide) rfl (by decide) rfl 0 0 rfl rfl rfl rfl hl.1 rfl (Nat.le_of_ble_eq_true rfl) dX1_readCommand_100 ⟨Nat.zero_le _, Nat.zero_le _⟩ (fun H locs hz9 hP hD hS => ?_)
          rcases Bool.eq_false_or_eq_true (isA tx ln 59 59 (skS tx ln (ncP tx ln (skL tx ln nx) false))) with hb9 | hb9
          · skip
            have ew0_nx : (crS tx ln (nx, am, wo, nb, vl)).2.1 = (if isA tx ln 59 59 (skS tx ln (ncP tx ln (skL tx ln nx) false)) then (skS tx ln (ncP tx ln (skL tx ln nx) false)) + 1 else (skS tx ln (ncP tx ln (skL tx ln nx) false))) := by first | (simp [crS, crV, crE, hw, wdV, va_rf, *]; done) | (simp [crS, crV, crE, hw, wdV, va_rf, *]; rfl)
            have ew0_am : (crS tx ln (nx, am, wo, nb, vl)).2.2.1 = ncA tx ln (skL tx ln nx) false am := by first | (simp [crS, crV, crE, hw, wdV, va_rf, *]; done) | (simp [crS, crV, crE, hw, wdV, va_rf, *]; rfl)
            have ew0_wd : wdV ea (crS tx ln (nx, am, wo, nb, vl)).2.2.2.1 = .ref (eW ea k) := by first | (simp [crS, crV, crE, hw, wdV, va_rf, *]; done) | (simp [crS, crV, crE, hw, wdV, va_rf, *]; rfl)
            have ew0_nb : (crS tx ln (nx, am, wo, nb, vl)).2.2.2.2.1 = ncA tx ln (skL tx ln nx) false am := by first | (simp [crS, crV, crE, hw, wdV, va_rf, *]; done) | (simp [crS, crV, crE, hw, wdV, va_rf, *]; rfl)
            have ew0_vl : (crS tx ln (nx, am, wo, nb, vl)).2.2.2.2.2 = (ncA tx ln (skL tx ln nx) false am).toInt64 := by first | (simp [crS, crV, crE, hw, wdV, va_rf, *]; done) | (simp [crS, crV, crE, hw, wdV, va_rf, *]; rfl)
            exact wv_zretM (b := isA tx ln 59 59 (skS tx ln (ncP tx ln (skL tx ln nx) false))) hx hb hr hlocks hP hD hS rfl (by first | (simp [crS, crV, crE, hw, wdV, va_rf, *]; done) | (simp [crS, crV, crE, hw, wdV, va_rf, *]; rfl)) (by rw [ew0_wd, ew0_nb, ew0_vl, ew0_am, ew0_nx]) dX1_readCommand_103
          · skip
            have ew0_nx : (crS tx ln (nx, am, wo, nb, vl)).2.1 = (if isA tx ln 59 59 (skS tx ln (ncP tx ln (skL tx ln nx) false)) then (skS tx ln (ncP tx ln (skL tx ln nx) false)) + 1 else (skS tx ln (ncP tx ln (skL tx ln nx) false))) := by first | (simp [crS, crV, crE, hw, wdV, va_rf, *]; done) | (simp [crS, crV, crE, hw, wdV, va_rf, *]; rfl)
            have ew0_am : (crS tx ln (nx, am, wo, nb, vl)).2.2.1 = ncA tx ln (skL tx ln nx) false am := by first | (simp [crS, crV, crE, hw, wdV, va_rf, *]; done) | (simp [crS, crV, crE, hw, wdV, va_rf, *]; rfl)
            have ew0_wd : wdV ea (crS tx ln (nx, am, wo, nb, vl)).2.2.2.1 = .ref (eW ea k) := by first | (simp [crS, crV, crE, hw, wdV, va_rf, *]; done) | (simp [crS, crV, crE, hw, wdV, va_rf, *]; rfl)
            have ew0_nb : (crS tx ln (nx, am, wo, nb, vl)).2.2.2.2.1 = ncA tx ln (skL tx ln nx) false am := by first | (simp [crS, crV, crE, hw, wdV, va_rf, *]; done) | (simp [crS, crV, crE, hw, wdV, va_rf, *]; rfl)
            have ew0_vl : (crS tx ln (nx, am, wo, nb, vl)).2.2.2.2.2 = (ncA tx ln (skL tx ln nx) false am).toInt64 := by first | (simp [crS, crV, crE, hw, wdV, va_rf, *]; done) | (simp [crS, crV, crE, hw, wdV, va_rf, *]; rfl)
            exact wv_zretM (b := isA tx ln 59 59 (skS tx ln (ncP tx ln (skL tx ln nx) false))) hx hb hr hlocks hP hD hS rfl (by first | (simp [crS, crV, crE, hw, wdV, va_rf, *]; done) | (simp [crS, crV, crE, hw, wdV, va_rf, *]; rfl)) (by rw [ew0_wd, ew0_nb, ew0_vl, ew0_am, ew0_nx]) dX1_readCommand_103
        · skip
          refine lv_aload_n hx hb dX1_readCommand_74 rfl (lv_at hl 1 rfl) ?_
          refine lv_iconst (v := nI 1) hx hb dX1_readCommand_75 (by decide) ?_
          refine wv_callMi (As := [.int (nI 1)]) (rest := []) (wr := []) (ws1 := CmdC co ba cB (tN tx) ln (ncP tx ln (ncP tx ln (skL tx ln nx) false) true) (ncA tx ln (ncP tx ln (skL tx ln nx) false) true (ncA tx ln (skL tx ln nx) false am)) (.ref (eW ea k)) (ncA tx ln (skL tx ln nx) false am) vl) ⟨hx, hb, hml, hown, hts⟩ (kX1_readAmount l D co ba cB tx ln (ncP tx ln (skL tx ln nx) false) (ncA tx ln (skL tx ln nx) false am) (.ref (eW ea k)) (ncA tx ln (skL tx ln nx) false am) vl true (by first | assumption | omega) (by first | assumption | omega) (by first | assumption | omega)) (cwV 1 hts gX1_readCommand_X1_readAmount rfl rfl rfl (by decide +kernel) ⟨Nat.le_of_ble_eq_true rfl, Nat.le_of_ble_eq_true rfl⟩) hK hN hP hD hS hA [0, 1] [] [0] [0, 1] rfl rfl (by decide) rfl (by decide) (by decide) rfl (by decide) rfl 0 0 rfl rfl rfl rfl hl.1 rfl (Nat.le_of_ble_eq_true rfl) dX1_readCommand_76 ⟨Nat.zero_le _, Nat.zero_le _⟩ (fun H locs hz9 hP hD hS => ?_)
          refine wv_ifneB (tgt := 84) hx hb dX1_readCommand_79 (by decide) (fun c79 => ?_) (fun c79 => ?_)
          · skip
            refine lv_aload_n hx hb dX1_readCommand_84 rfl (lv_at hl 1 rfl) ?_
            refine lv_aload_n hx hb dX1_readCommand_85 rfl (lv_at hl 1 rfl) ?_
            refine va_get (D := D) (ci := 0) (C := RX1) (T := TX1) (N := 7) hx hb hts hinX1 hown hK hP 0 rfl rfl 3 (by decide) (hts (.fieldLink RX1 59 "NearRanks$CommandText" "amount" "I") (by decide +kernel)) (fun _ h9 => h9) rfl dX1_readCommand_86 ?_
            refine lv_i2l (v := (ncA tx ln (ncP tx ln (skL tx ln nx) false) true (ncA tx ln (skL tx ln nx) false am)).toInt64) hx hb dX1_readCommand_89 rfl ?_
            refine va_put (D := D) (ci := 0) (v := .long ((ncA tx ln (ncP tx ln (skL tx ln nx) false) true (ncA tx ln (skL tx ln nx) false am)).toInt64)) (ty := .long) (C := RX1) (T := TX1) (N := 7) hx hb hts hinX1 tyX1 tyX1_ok nmX1 hown hK hP hD hS 0 rfl rfl 6 (by decide) (hts (.fieldLink RX1 68 "NearRanks$CommandText" "value" "J") (by decide +kernel)) (fun _ h9 => h9) rfl (by decide +kernel) rfl rfl (Nat.le_of_ble_eq_true rfl) dX1_readCommand_90 (fun H locs hP hD hS => ?_)
            have hP : va_P D vwCl (CmdC co ba cB (tN tx) ln (ncP tx ln (ncP tx ln (skL tx ln nx) false) true) (ncA tx ln (ncP tx ln (skL tx ln nx) false) true (ncA tx ln (skL tx ln nx) false am)) (.ref (eW ea k)) (ncA tx ln (skL tx ln nx) false am) ((ncA tx ln (ncP tx ln (skL tx ln nx) false) true (ncA tx ln (skL tx ln nx) false am)).toInt64)) H := hP
            have hD : va_D _ (CmdC co ba cB (tN tx) ln (ncP tx ln (ncP tx ln (skL tx ln nx) false) true) (ncA tx ln (ncP tx ln (skL tx ln nx) false) true (ncA tx ln (skL tx ln nx) false am)) (.ref (eW ea k)) (ncA tx ln (skL tx ln nx) false am) ((ncA tx ln (ncP tx ln (skL tx ln nx) false) true (ncA tx ln (skL tx ln nx) false am)).toInt64)) := hD
            refine lv_aload_n hx hb dX1_readCommand_93 rfl (lv_at hl 1 rfl) ?_
            refine wv_callMv (As := []) (rest := []) (wr := []) (ws1 := CmdC co ba cB (tN tx) ln (skS tx ln (ncP tx ln (ncP tx ln (skL tx ln nx) false) true)) (ncA tx ln (ncP tx ln (skL tx ln nx) false) true (ncA tx ln (skL tx ln nx) false am)) (.ref (eW ea k)) (ncA tx ln (skL tx ln nx) false am) ((ncA tx ln (ncP tx ln (skL tx ln nx) false) true (ncA tx ln (skL tx ln nx) false am)).toInt64)) ⟨hx, hb, hml, hown, hts⟩ (kX1_skipSpaces l D co ba cB tx ln (ncP tx ln (ncP tx ln (skL tx ln nx) false) true) (ncA tx ln (ncP tx ln (skL tx ln nx) false) true (ncA tx ln (skL tx ln nx) false am)) (.ref (eW ea k)) (ncA tx ln (skL tx ln nx) false am) ((ncA tx ln (ncP tx ln (skL tx ln nx) false) true (ncA tx ln (skL tx ln nx) false am)).toInt64) (by first | assumption | omega) (by first | assumption | omega) (by first | assumption | omega)) (cwV 0 hts gX1_readCommand_X1_skipSpaces rfl rfl rfl (by decide +kernel) ⟨Nat.le_of_ble_eq_true rfl, Nat.le_of_ble_eq_true rfl⟩) hK hN hP hD hS hA [0, 1] [] [0] [0, 1] rfl rfl (by decide) rfl (by decide) (by decide) rfl (by decide) rfl 0 0 rfl rfl rfl rfl hl.1 rfl (Nat.le_of_ble_eq_true rfl) dX1_readCommand_94 ⟨Nat.zero_le _, Nat.zero_le _⟩ (fun H locs hz9 hP hD hS => ?_)
            refine lv_aload_n hx hb dX1_readCommand_97 rfl (lv_at hl 1 rfl) ?_
            refine lv_bipush (v := nI 59) hx hb dX1_readCommand_98 (by decide) ?_
            refine wv_callMi (As := [.int (nI 59)]) (rest := []) (wr := []) (ws1 := CmdC co ba cB (tN tx) ln (if isA tx ln 59 59 (skS tx ln (ncP tx ln (ncP tx ln (skL tx ln nx) false) true)) then (skS tx ln (ncP tx ln (ncP tx ln (skL tx ln nx) false) true)) + 1 else (skS tx ln (ncP tx ln (ncP tx ln (skL tx ln nx) false) true))) (ncA tx ln (ncP tx ln (skL tx ln nx) false) true (ncA tx ln (skL tx ln nx) false am)) (.ref (eW ea k)) (ncA tx ln (skL tx ln nx) false am) ((ncA tx ln (ncP tx ln (skL tx ln nx) false) true (ncA tx ln (skL tx ln nx) false am)).toInt64)) ⟨hx, hb, hml, hown, hts⟩ (kX1_readByte l D co ba cB tx ln (skS tx ln (ncP tx ln (ncP tx ln (skL tx ln nx) false) true)) (ncA tx ln (ncP tx ln (skL tx ln nx) false) true (ncA tx ln (skL tx ln nx) false am)) (.ref (eW ea k)) (ncA tx ln (skL tx ln nx) false am) ((ncA tx ln (ncP tx ln (skL tx ln nx) false) true (ncA tx ln (skL tx ln nx) false am)).toInt64) 59 (by first | assumption | omega) (by first | assumption | omega) (by first | assumption | omega) (by first | assumption | omega)) (cwV 1 hts gX1_readCommand_X1_readByte rfl rfl rfl (by decide +kernel) ⟨Nat.le_of_ble_eq_true rfl, Nat.le_of_ble_eq_true rfl⟩) hK hN hP hD hS hA [0, 1] [] [0] [0, 1] rfl rfl (by decide) rfl (by decide) (by decide) rfl (by decide) rfl 0 0 rfl rfl rfl rfl hl.1 rfl (Nat.le_of_ble_eq_true rfl) dX1_readCommand_100 ⟨Nat.zero_le _, Nat.zero_le _⟩ (fun H locs hz9 hP hD hS => ?_)
            rcases Bool.eq_false_or_eq_true (isA tx ln 59 59 (skS tx ln (ncP tx ln (ncP tx ln (skL tx ln nx) false) true))) with hb9 | hb9
            · skip
              have ew0_nx : (crS tx ln (nx, am, wo, nb, vl)).2.1 = (if isA tx ln 59 59 (skS tx ln (ncP tx ln (ncP tx ln (skL tx ln nx) false) true)) then (skS tx ln (ncP tx ln (ncP tx ln (skL tx ln nx) false) true)) + 1 else (skS tx ln (ncP tx ln (ncP tx ln (skL tx ln nx) false) true))) := by first | (simp [crS, crV, crE, hw, wdV, va_rf, *]; done) | (simp [crS, crV, crE, hw, wdV, va_rf, *]; rfl)
              have ew0_am : (crS tx ln (nx, am, wo, nb, vl)).2.2.1 = ncA tx ln (ncP tx ln (skL tx ln nx) false) true (ncA tx ln (skL tx ln nx) false am) := by first | (simp [crS, crV, crE, hw, wdV, va_rf, *]; done) | (simp [crS, crV, crE, hw, wdV, va_rf, *]; rfl)
              have ew0_wd : wdV ea (crS tx ln (nx, am, wo, nb, vl)).2.2.2.1 = .ref (eW ea k) := by first | (simp [crS, crV, crE, hw, wdV, va_rf, *]; done) | (simp [crS, crV, crE, hw, wdV, va_rf, *]; rfl)
              have ew0_nb : (crS tx ln (nx, am, wo, nb, vl)).2.2.2.2.1 = ncA tx ln (skL tx ln nx) false am := by first | (simp [crS, crV, crE, hw, wdV, va_rf, *]; done) | (simp [crS, crV, crE, hw, wdV, va_rf, *]; rfl)
              have ew0_vl : (crS tx ln (nx, am, wo, nb, vl)).2.2.2.2.2 = (ncA tx ln (ncP tx ln (skL tx ln nx) false) true (ncA tx ln (skL tx ln nx) false am)).toInt64 := by first | (simp [crS, crV, crE, hw, wdV, va_rf, *]; done) | (simp [crS, crV, crE, hw, wdV, va_rf, *]; rfl)
              exact wv_zretM (b := isA tx ln 59 59 (skS tx ln (ncP tx ln (ncP tx ln (skL tx ln nx) false) true))) hx hb hr hlocks hP hD hS rfl (by first | (simp [crS, crV, crE, hw, wdV, va_rf, *]; done) | (simp [crS, crV, crE, hw, wdV, va_rf, *]; rfl)) (by rw [ew0_wd, ew0_nb, ew0_vl, ew0_am, ew0_nx]) dX1_readCommand_103
            · skip
              have ew0_nx : (crS tx ln (nx, am, wo, nb, vl)).2.1 = (if isA tx ln 59 59 (skS tx ln (ncP tx ln (ncP tx ln (skL tx ln nx) false) true)) then (skS tx ln (ncP tx ln (ncP tx ln (skL tx ln nx) false) true)) + 1 else (skS tx ln (ncP tx ln (ncP tx ln (skL tx ln nx) false) true))) := by first | (simp [crS, crV, crE, hw, wdV, va_rf, *]; done) | (simp [crS, crV, crE, hw, wdV, va_rf, *]; rfl)
              have ew0_am : (crS tx ln (nx, am, wo, nb, vl)).2.2.1 = ncA tx ln (ncP tx ln (skL tx ln nx) false) true (ncA tx ln (skL tx ln nx) false am) := by first | (simp [crS, crV, crE, hw, wdV, va_rf, *]; done) | (simp [crS, crV, crE, hw, wdV, va_rf, *]; rfl)
              have ew0_wd : wdV ea (crS tx ln (nx, am, wo, nb, vl)).2.2.2.1 = .ref (eW ea k) := by first | (simp [crS, crV, crE, hw, wdV, va_rf, *]; done) | (simp [crS, crV, crE, hw, wdV, va_rf, *]; rfl)
              have ew0_nb : (crS tx ln (nx, am, wo, nb, vl)).2.2.2.2.1 = ncA tx ln (skL tx ln nx) false am := by first | (simp [crS, crV, crE, hw, wdV, va_rf, *]; done) | (simp [crS, crV, crE, hw, wdV, va_rf, *]; rfl)
              have ew0_vl : (crS tx ln (nx, am, wo, nb, vl)).2.2.2.2.2 = (ncA tx ln (ncP tx ln (skL tx ln nx) false) true (ncA tx ln (skL tx ln nx) false am)).toInt64 := by first | (simp [crS, crV, crE, hw, wdV, va_rf, *]; done) | (simp [crS, crV, crE, hw, wdV, va_rf, *]; rfl)
              exact wv_zretM (b := isA tx ln 59 59 (skS tx ln (ncP tx ln (ncP tx ln (skL tx ln nx) false) true))) hx hb hr hlocks hP hD hS rfl (by first | (simp [crS, crV, crE, hw, wdV, va_rf, *]; done) | (simp [crS, crV, crE, hw, wdV, va_rf, *]; rfl)) (by rw [ew0_wd, ew0_nb, ew0_vl, ew0_am, ew0_nx]) dX1_readCommand_103
          · skip
            refine lv_iconst (v := nI 0) hx hb dX1_readCommand_82 (by decide) ?_
            have ew0_nx : (crS tx ln (nx, am, wo, nb, vl)).2.1 = ncP tx ln (ncP tx ln (skL tx ln nx) false) true := by first | (simp [crS, crV, crE, hw, wdV, va_rf, *]; done) | (simp [crS, crV, crE, hw, wdV, va_rf, *]; rfl)
            have ew0_am : (crS tx ln (nx, am, wo, nb, vl)).2.2.1 = ncA tx ln (ncP tx ln (skL tx ln nx) false) true (ncA tx ln (skL tx ln nx) false am) := by first | (simp [crS, crV, crE, hw, wdV, va_rf, *]; done) | (simp [crS, crV, crE, hw, wdV, va_rf, *]; rfl)
            have ew0_wd : wdV ea (crS tx ln (nx, am, wo, nb, vl)).2.2.2.1 = .ref (eW ea k) := by first | (simp [crS, crV, crE, hw, wdV, va_rf, *]; done) | (simp [crS, crV, crE, hw, wdV, va_rf, *]; rfl)
            have ew0_nb : (crS tx ln (nx, am, wo, nb, vl)).2.2.2.2.1 = ncA tx ln (skL tx ln nx) false am := by first | (simp [crS, crV, crE, hw, wdV, va_rf, *]; done) | (simp [crS, crV, crE, hw, wdV, va_rf, *]; rfl)
            have ew0_vl : (crS tx ln (nx, am, wo, nb, vl)).2.2.2.2.2 = vl := by first | (simp [crS, crV, crE, hw, wdV, va_rf, *]; done) | (simp [crS, crV, crE, hw, wdV, va_rf, *]; rfl)
            exact wv_zretM (b := false) hx hb hr hlocks hP hD hS rfl (by first | (simp [crS, crV, crE, hw, wdV, va_rf, *]; done) | (simp [crS, crV, crE, hw, wdV, va_rf, *]; rfl)) (by rw [ew0_wd, ew0_nb, ew0_vl, ew0_am, ew0_nx]) dX1_readCommand_83
      · skip
        refine lv_iconst (v := nI 0) hx hb dX1_readCommand_54 (by decide) ?_
        have ew0_nx : (crS tx ln (nx, am, wo, nb, vl)).2.1 = ncP tx ln (skL tx ln nx) false := by first | (simp [crS, crV, crE, hw, wdV, va_rf, *]; done) | (simp [crS, crV, crE, hw, wdV, va_rf, *]; rfl)
        have ew0_am : (crS tx ln (nx, am, wo, nb, vl)).2.2.1 = ncA tx ln (skL tx ln nx) false am := by first | (simp [crS, crV, crE, hw, wdV, va_rf, *]; done) | (simp [crS, crV, crE, hw, wdV, va_rf, *]; rfl)
        have ew0_wd : wdV ea (crS tx ln (nx, am, wo, nb, vl)).2.2.2.1 = .ref (eW ea k) := by first | (simp [crS, crV, crE, hw, wdV, va_rf, *]; done) | (simp [crS, crV, crE, hw, wdV, va_rf, *]; rfl)
        have ew0_nb : (crS tx ln (nx, am, wo, nb, vl)).2.2.2.2.1 = nb := by first | (simp [crS, crV, crE, hw, wdV, va_rf, *]; done) | (simp [crS, crV, crE, hw, wdV, va_rf, *]; rfl)
        have ew0_vl : (crS tx ln (nx, am, wo, nb, vl)).2.2.2.2.2 = vl := by first | (simp [crS, crV, crE, hw, wdV, va_rf, *]; done) | (simp [crS, crV, crE, hw, wdV, va_rf, *]; rfl)
        exact wv_zretM (b := false) hx hb hr hlocks hP hD hS rfl (by first | (simp [crS, crV, crE, hw, wdV, va_rf, *]; done) | (simp [crS, crV, crE, hw, wdV, va_rf, *]; rfl)) (by rw [ew0_wd, ew0_nb, ew0_vl, ew0_am, ew0_nx]) dX1_readCommand_55

set_option maxHeartbeats 4000000 in
set_option maxRecDepth 100000 in
theorem kX1_findFault (l : Launch) (D : va_G) (ea : EA) (co : Nat) (ba : Nat) (cB : ClassId) (tx : Nat → Nat) (ln : Nat) (nx : Nat) (am : Int32) (wo : Option Nat) (nb : Int32) (vl : Int64) (hln : ln ≤ 150) (htx : ∀ k, tx k < 128) : MEi l yX1_findFault wsX1_findFault ({ frames := 7, cells := 0, slots := 0, locals := 153 } : Room) [.ref co] D (CmdC co ba cB (tN tx) ln nx am (wdV ea wo) nb vl) [(cB, .byte)] ea (oI (ffS tx ln 150 (0, am, wo, nb, vl)).1) (CmdC co ba cB (tN tx) ln ((ffS tx ln 150 (0, am, wo, nb, vl)).2.1) ((ffS tx ln 150 (0, am, wo, nb, vl)).2.2.1) (wdV ea (ffS tx ln 150 (0, am, wo, nb, vl)).2.2.2.1) ((ffS tx ln 150 (0, am, wo, nb, vl)).2.2.2.2.1) ((ffS tx ln 150 (0, am, wo, nb, vl)).2.2.2.2.2)) := by
  refine MEi_of (cc := cX1_findFault) (maxL := 2) (ret := some .int) (by decide +kernel) rfl (Nat.le_of_ble_eq_true rfl) ?_
  intro p e s m args below meth c hx hb hr hts hown hlocks hml hP hK hN hD hE ls hl
  have hown : s.vm.findClass RX1 = some m.cls := hown
  have hl : lv_has ls 2 [(0, .ref co)] := hl
  have hS : va_S (va_A (CmdC co ba cB (tN tx) ln nx am (wdV ea wo) nb vl) s.heap.size) s.heap s.heap [] := va_S.rf
  have hA := wk_hA (CmdC co ba cB (tN tx) ln nx am (wdV ea wo) nb vl) s.heap.size
  have hD9 : True := trivial
  have hinX1 : ∀ w ∈ wsX10, w ∈ wsX1_findFault := by decide +kernel
  refine lv_aload_n hx hb dX1_findFault_0 rfl (lv_at hl 0 rfl) ?_
  refine wv_callMv (As := []) (rest := []) (wr := []) (ws1 := CmdC co ba cB (tN tx) ln 0 am (wdV ea wo) nb vl) ⟨hx, hb, hml, hown, hts⟩ (kX1_rewind l D co ba cB tx ln nx am (wdV ea wo) nb vl) (cwV 0 hts gX1_findFault_X1_rewind rfl rfl rfl (by decide +kernel) ⟨Nat.le_of_ble_eq_true rfl, Nat.le_of_ble_eq_true rfl⟩) hK hN hP hD hS hA [0, 1] [] [0] [0, 1] rfl rfl (by decide) rfl (by decide) (by decide) rfl (by decide) rfl 0 0 rfl rfl rfl rfl hl.1 rfl (Nat.le_of_ble_eq_true rfl) dX1_findFault_1 ⟨Nat.zero_le _, Nat.zero_le _⟩ (fun H locs hz9 hP hD hS => ?_)
  refine lv_iconst (v := nI 0) hx hb dX1_findFault_4 (by decide) ?_
  refine lv_istore_n (lv' := [(1, .int (nI 0)), (0, .ref co)]) hx hb dX1_findFault_5 rfl hl (by decide) rfl (fun ls hl => ?_)
  have el_w0_nx : (0, am, wo, nb, vl).1 = 0 := by first | rfl | omega | (simp [*]; done)
  have el_w0_am : (0, am, wo, nb, vl).2.1 = am := by first | rfl | omega | (simp [*]; done)
  have el_w0_wd : wdV ea (0, am, wo, nb, vl).2.2.1 = wdV ea wo := by first | rfl | omega | (simp [*]; done)
  have el_w0_nb : (0, am, wo, nb, vl).2.2.2.1 = nb := by first | rfl | omega | (simp [*]; done)
  have el_w0_vl : (0, am, wo, nb, vl).2.2.2.2 = vl := by first | rfl | omega | (simp [*]; done)
  have loop6 : ∀ (K : Nat) (i : Nat) (q : PS), 150 - i < K → i ≤ 150 → q.1 ≤ ln → (ffS tx ln 150 (0, am, wo, nb, vl)) = ffS tx ln (150 - i) q → ∀ (H : Heap) (locs : List Loc), va_P D vwCl (CmdC co ba cB (tN tx) ln q.1 q.2.1 (wdV ea q.2.2.1) q.2.2.2.1 q.2.2.2.2) H → va_D (va_A (CmdC co ba cB (tN tx) ln nx am (wdV ea wo) nb vl) s.heap.size) (CmdC co ba cB (tN tx) ln q.1 q.2.1 (wdV ea q.2.2.1) q.2.2.2.1 q.2.2.2.2) → va_S (va_A (CmdC co ba cB (tN tx) ln nx am (wdV ea wo) nb vl) s.heap.size) s.heap H locs → ∀ ls : Array Slot, lv_has ls 2 [(0, .ref co), (1, .int (nI i))] → W p l e ({ frames := 7, cells := 0, slots := 0, locals := 153 } : Room) s m args below meth c H locs 0 0 (ZMi below args s D (CmdC co ba cB (tN tx) ln nx am (wdV ea wo) nb vl) (oI (ffS tx ln 150 (0, am, wo, nb, vl)).1) (CmdC co ba cB (tN tx) ln ((ffS tx ln 150 (0, am, wo, nb, vl)).2.1) ((ffS tx ln 150 (0, am, wo, nb, vl)).2.2.1) (wdV ea (ffS tx ln 150 (0, am, wo, nb, vl)).2.2.2.1) ((ffS tx ln 150 (0, am, wo, nb, vl)).2.2.2.2.1) ((ffS tx ln 150 (0, am, wo, nb, vl)).2.2.2.2.2))) (F0 m 6 ls []) := by
    intro K
    induction K with
    | zero => intro i q hK0; exact absurd hK0 (Nat.not_lt_zero _)
    | succ K ih6 =>
      intro i q hKm hi hq hff H locs hP hD hS ls hl
      have hs9 := skS_le (c := tx) hq
      refine lv_iload_n hx hb dX1_findFault_6 rfl (lv_at hl 1 rfl) ?_
      refine lv_sipush (v := nI 150) hx hb dX1_findFault_7 (by decide) ?_
      refine wv_icmp_ge (tgt := 38) hx hb (by omega) (by omega) dX1_findFault_10 (by decide) (fun c10 => ?_) (fun c10 => ?_)
      · skip
        refine lv_sipush (v := (-1000)) hx hb dX1_findFault_38 (by decide) ?_
        have ew0_nx : (ffS tx ln 150 (0, am, wo, nb, vl)).2.1 = q.1 := by first | (rw [hff, show 150 - i = (150 - (i + 1)) + 1 by omega, ffS_e (by simpa using c17)]; done) | (rw [hff, show 150 - i = 0 by omega]; rfl)
        have ew0_am : (ffS tx ln 150 (0, am, wo, nb, vl)).2.2.1 = q.2.1 := by first | (rw [hff, show 150 - i = (150 - (i + 1)) + 1 by omega, ffS_e (by simpa using c17)]; done) | (rw [hff, show 150 - i = 0 by omega]; rfl)
        have ew0_wd : wdV ea (ffS tx ln 150 (0, am, wo, nb, vl)).2.2.2.1 = wdV ea q.2.2.1 := by first | (rw [hff, show 150 - i = (150 - (i + 1)) + 1 by omega, ffS_e (by simpa using c17)]; done) | (rw [hff, show 150 - i = 0 by omega]; rfl)
        have ew0_nb : (ffS tx ln 150 (0, am, wo, nb, vl)).2.2.2.2.1 = q.2.2.2.1 := by first | (rw [hff, show 150 - i = (150 - (i + 1)) + 1 by omega, ffS_e (by simpa using c17)]; done) | (rw [hff, show 150 - i = 0 by omega]; rfl)
        have ew0_vl : (ffS tx ln 150 (0, am, wo, nb, vl)).2.2.2.2.2 = q.2.2.2.2 := by first | (rw [hff, show 150 - i = (150 - (i + 1)) + 1 by omega, ffS_e (by simpa using c17)]; done) | (rw [hff, show 150 - i = 0 by omega]; rfl)
        exact wv_iretM hx hb hr hlocks hP hD hS (by first | (rw [hff, show 150 - i = (150 - (i + 1)) + 1 by omega, ffS_e (by simpa using c17)]; rfl) | (rw [hff, show 150 - i = 0 by omega]; rfl)) (by rw [ew0_wd, ew0_nb, ew0_vl, ew0_am, ew0_nx]) dX1_findFault_41
      · skip
        refine lv_aload_n hx hb dX1_findFault_13 rfl (lv_at hl 0 rfl) ?_
        refine wv_callMi (As := []) (rest := []) (wr := []) (ws1 := CmdC co ba cB (tN tx) ln (skS tx ln q.1) q.2.1 (wdV ea q.2.2.1) q.2.2.2.1 q.2.2.2.2) ⟨hx, hb, hml, hown, hts⟩ (kX1_hasMore l D co ba cB tx ln q.1 q.2.1 (wdV ea q.2.2.1) q.2.2.2.1 q.2.2.2.2 (by first | assumption | omega) (by first | assumption | omega) (by first | assumption | omega)) (cwV 0 hts gX1_findFault_X1_hasMore rfl rfl rfl (by decide +kernel) ⟨Nat.le_of_ble_eq_true rfl, Nat.le_of_ble_eq_true rfl⟩) hK hN hP hD hS hA [0, 1] [] [0] [0, 1] rfl rfl (by decide) rfl (by decide) (by decide) rfl (by decide) rfl 0 0 rfl rfl rfl rfl hl.1 rfl (Nat.le_of_ble_eq_true rfl) dX1_findFault_14 ⟨Nat.zero_le _, Nat.zero_le _⟩ (fun H locs hz9 hP hD hS => ?_)
        refine wv_ifeqD (tgt := 38) hx hb dX1_findFault_17 (by decide) (fun c17 => ?_) (fun c17 => ?_)
        · skip
          refine lv_sipush (v := (-1000)) hx hb dX1_findFault_38 (by decide) ?_
          have ew0_nx : (ffS tx ln 150 (0, am, wo, nb, vl)).2.1 = skS tx ln q.1 := by first | (rw [hff, show 150 - i = (150 - (i + 1)) + 1 by omega, ffS_e (by simpa using c17)]; done) | (rw [hff, show 150 - i = 0 by omega]; rfl)
          have ew0_am : (ffS tx ln 150 (0, am, wo, nb, vl)).2.2.1 = q.2.1 := by first | (rw [hff, show 150 - i = (150 - (i + 1)) + 1 by omega, ffS_e (by simpa using c17)]; done) | (rw [hff, show 150 - i = 0 by omega]; rfl)
          have ew0_wd : wdV ea (ffS tx ln 150 (0, am, wo, nb, vl)).2.2.2.1 = wdV ea q.2.2.1 := by first | (rw [hff, show 150 - i = (150 - (i + 1)) + 1 by omega, ffS_e (by simpa using c17)]; done) | (rw [hff, show 150 - i = 0 by omega]; rfl)
          have ew0_nb : (ffS tx ln 150 (0, am, wo, nb, vl)).2.2.2.2.1 = q.2.2.2.1 := by first | (rw [hff, show 150 - i = (150 - (i + 1)) + 1 by omega, ffS_e (by simpa using c17)]; done) | (rw [hff, show 150 - i = 0 by omega]; rfl)
          have ew0_vl : (ffS tx ln 150 (0, am, wo, nb, vl)).2.2.2.2.2 = q.2.2.2.2 := by first | (rw [hff, show 150 - i = (150 - (i + 1)) + 1 by omega, ffS_e (by simpa using c17)]; done) | (rw [hff, show 150 - i = 0 by omega]; rfl)
          exact wv_iretM hx hb hr hlocks hP hD hS (by first | (rw [hff, show 150 - i = (150 - (i + 1)) + 1 by omega, ffS_e (by simpa using c17)]; rfl) | (rw [hff, show 150 - i = 0 by omega]; rfl)) (by rw [ew0_wd, ew0_nb, ew0_vl, ew0_am, ew0_nx]) dX1_findFault_41
        · skip
          refine lv_aload_n hx hb dX1_findFault_20 rfl (lv_at hl 0 rfl) ?_
          refine wv_callMEi (As := []) (rest := []) (wr := []) (ws1 := CmdC co ba cB (tN tx) ln ((crS tx ln ((skS tx ln q.1), q.2.1, q.2.2.1, q.2.2.2.1, q.2.2.2.2)).2.1) ((crS tx ln ((skS tx ln q.1), q.2.1, q.2.2.1, q.2.2.2.1, q.2.2.2.2)).2.2.1) (wdV ea (crS tx ln ((skS tx ln q.1), q.2.1, q.2.2.1, q.2.2.2.1, q.2.2.2.2)).2.2.2.1) ((crS tx ln ((skS tx ln q.1), q.2.1, q.2.2.1, q.2.2.2.1, q.2.2.2.2)).2.2.2.2.1) ((crS tx ln ((skS tx ln q.1), q.2.1, q.2.2.1, q.2.2.2.1, q.2.2.2.2)).2.2.2.2.2)) ⟨hx, hb, hml, hown, hts⟩ (kX1_readCommand l D ea co ba cB tx ln (skS tx ln q.1) q.2.1 q.2.2.1 q.2.2.2.1 q.2.2.2.2 (by first | assumption | omega) (by first | assumption | omega) (by first | assumption | omega)) (cwV 0 hts gX1_findFault_X1_readCommand rfl rfl rfl (by decide +kernel) ⟨Nat.le_of_ble_eq_true rfl, Nat.le_of_ble_eq_true rfl⟩) hK hN hE hP hD hS hA [0, 1] [] [0] [0, 1] rfl rfl (by decide) rfl (by decide) (by decide) rfl (by decide) rfl 0 0 rfl rfl rfl rfl hl.1 rfl (Nat.le_of_ble_eq_true rfl) dX1_findFault_21 ⟨Nat.zero_le _, Nat.zero_le _⟩ (fun H locs hz9 hP hD hS => ?_)
          refine wv_ifneB (tgt := 32) hx hb dX1_findFault_24 (by decide) (fun c24 => ?_) (fun c24 => ?_)
          · skip
            refine lv_iinc (v := nI (i + 1)) (lv' := [(1, .int (nI (i + 1))), (0, .ref co)]) hx hb dX1_findFault_32 hl (k := 1) rfl (nI_1 _) (by decide) rfl (fun ls hl => ?_)
            refine lv_goto (tgt := 6) hx hb dX1_findFault_35 (by decide) ?_
            have el_w0_nx : ((crS tx ln (skS tx ln q.1, q.2)).2).1 = (crS tx ln ((skS tx ln q.1), q.2.1, q.2.2.1, q.2.2.2.1, q.2.2.2.2)).2.1 := by first | rfl | omega | (simp [*]; done)
            have el_w0_am : ((crS tx ln (skS tx ln q.1, q.2)).2).2.1 = (crS tx ln ((skS tx ln q.1), q.2.1, q.2.2.1, q.2.2.2.1, q.2.2.2.2)).2.2.1 := by first | rfl | omega | (simp [*]; done)
            have el_w0_wd : wdV ea ((crS tx ln (skS tx ln q.1, q.2)).2).2.2.1 = wdV ea (crS tx ln ((skS tx ln q.1), q.2.1, q.2.2.1, q.2.2.2.1, q.2.2.2.2)).2.2.2.1 := by first | rfl | omega | (simp [*]; done)
            have el_w0_nb : ((crS tx ln (skS tx ln q.1, q.2)).2).2.2.2.1 = (crS tx ln ((skS tx ln q.1), q.2.1, q.2.2.1, q.2.2.2.1, q.2.2.2.2)).2.2.2.2.1 := by first | rfl | omega | (simp [*]; done)
            have el_w0_vl : ((crS tx ln (skS tx ln q.1, q.2)).2).2.2.2.2 = (crS tx ln ((skS tx ln q.1), q.2.1, q.2.2.1, q.2.2.2.1, q.2.2.2.2)).2.2.2.2.2 := by first | rfl | omega | (simp [*]; done)
            exact ih6 (i + 1) ((crS tx ln (skS tx ln q.1, q.2)).2) (by omega) (by first | assumption | omega) (by exact crS_le (s := (skS tx ln q.1, q.2)) (skS_le hq).2) (by rw [hff, show 150 - i = (150 - (i + 1)) + 1 by omega]; exact ffS_t (by simpa using c17) c24) _ _ (by first | (rw [el_w0_wd, el_w0_nb, el_w0_vl, el_w0_am, el_w0_nx]; exact hP) | (simp only [el_w0_wd, el_w0_nb, el_w0_vl, el_w0_am, el_w0_nx]; exact hP) | exact hP) (by first | (rw [el_w0_wd, el_w0_nb, el_w0_vl, el_w0_am, el_w0_nx]; exact hD) | (simp only [el_w0_wd, el_w0_nb, el_w0_vl, el_w0_am, el_w0_nx]; exact hD) | exact hD) hS ls (by first | (rw [el_w0_wd, el_w0_nb, el_w0_vl, el_w0_am, el_w0_nx]; exact lv_sub hl [1, 0] rfl) | (simp only [el_w0_wd, el_w0_nb, el_w0_vl, el_w0_am, el_w0_nx]; exact lv_sub hl [1, 0] rfl) | exact lv_sub hl [1, 0] rfl)
          · skip
            refine lv_aload_n hx hb dX1_findFault_27 rfl (lv_at hl 0 rfl) ?_
            refine va_get (D := D) (ci := 0) (C := RX1) (T := TX1) (N := 7) hx hb hts hinX1 hown hK hP 0 rfl rfl 2 (by decide) (hts (.fieldLink RX1 32 "NearRanks$CommandText" "next" "I") (by decide +kernel)) (fun _ h9 => h9) rfl dX1_findFault_28 ?_
            have ew0_nx : (ffS tx ln 150 (0, am, wo, nb, vl)).2.1 = (crS tx ln ((skS tx ln q.1), q.2.1, q.2.2.1, q.2.2.2.1, q.2.2.2.2)).2.1 := by rw [hff, show 150 - i = (150 - (i + 1)) + 1 by omega, ffS_n (by simpa using c17) c24]
            have ew0_am : (ffS tx ln 150 (0, am, wo, nb, vl)).2.2.1 = (crS tx ln ((skS tx ln q.1), q.2.1, q.2.2.1, q.2.2.2.1, q.2.2.2.2)).2.2.1 := by rw [hff, show 150 - i = (150 - (i + 1)) + 1 by omega, ffS_n (by simpa using c17) c24]
            have ew0_wd : wdV ea (ffS tx ln 150 (0, am, wo, nb, vl)).2.2.2.1 = wdV ea (crS tx ln ((skS tx ln q.1), q.2.1, q.2.2.1, q.2.2.2.1, q.2.2.2.2)).2.2.2.1 := by rw [hff, show 150 - i = (150 - (i + 1)) + 1 by omega, ffS_n (by simpa using c17) c24]
            have ew0_nb : (ffS tx ln 150 (0, am, wo, nb, vl)).2.2.2.2.1 = (crS tx ln ((skS tx ln q.1), q.2.1, q.2.2.1, q.2.2.2.1, q.2.2.2.2)).2.2.2.2.1 := by rw [hff, show 150 - i = (150 - (i + 1)) + 1 by omega, ffS_n (by simpa using c17) c24]
            have ew0_vl : (ffS tx ln 150 (0, am, wo, nb, vl)).2.2.2.2.2 = (crS tx ln ((skS tx ln q.1), q.2.1, q.2.2.1, q.2.2.2.1, q.2.2.2.2)).2.2.2.2.2 := by rw [hff, show 150 - i = (150 - (i + 1)) + 1 by omega, ffS_n (by simpa using c17) c24]
            exact wv_iretM hx hb hr hlocks hP hD hS (by rw [hff, show 150 - i = (150 - (i + 1)) + 1 by omega, ffS_n (by simpa using c17) c24]; rfl) (by rw [ew0_wd, ew0_nb, ew0_vl, ew0_am, ew0_nx]) dX1_findFault_31
  exact loop6 (150 - 0 + 1) 0 (0, am, wo, nb, vl) (by omega) (by first | assumption | omega) (by exact Nat.zero_le _) (by rfl) _ _ (by first | (rw [el_w0_wd, el_w0_nb, el_w0_vl, el_w0_am, el_w0_nx]; exact hP) | (simp only [el_w0_wd, el_w0_nb, el_w0_vl, el_w0_am, el_w0_nx]; exact hP) | exact hP) (by first | (rw [el_w0_wd, el_w0_nb, el_w0_vl, el_w0_am, el_w0_nx]; exact hD) | (simp only [el_w0_wd, el_w0_nb, el_w0_vl, el_w0_am, el_w0_nx]; exact hD) | exact hD) hS ls (by first | (rw [el_w0_wd, el_w0_nb, el_w0_vl, el_w0_am, el_w0_nx]; exact lv_sub hl [1, 0] rfl) | (simp only [el_w0_wd, el_w0_nb, el_w0_vl, el_w0_am, el_w0_nx]; exact lv_sub hl [1, 0] rfl) | exact lv_sub hl [1, 0] rfl)
