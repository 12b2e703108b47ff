/-! The model: the command text. -/
theorem wk_in_n {a b c : Nat} (ha : a < 2 ^ 31) (hb : b < 2 ^ 31) (hc : c < 2 ^ 31) : (decide (lN a ≤ lN b) && decide (lN b ≤ lN c)) = (decide (a ≤ b) && decide (b ≤ c)) := by
  rw [decide_eq_decide.mpr (lN_le ha hb), decide_eq_decide.mpr (lN_le hb hc)]
theorem nk_ne {k : Nat} (h : k < 2 ^ 31) (z : nI k = (-1000 : Int32)) : False := by
  have := congrArg Int32.toInt z
  rw [nI_toInt h] at this
  have e : (-1000 : Int32).toInt = -1000 := by decide
  omega
/-- the model: words as numbers -/
def w27 (c : Nat → Nat) (p : Nat) : Nat → Nat
  | 0 => 0
  | d + 1 => 27 * w27 c p d + c (p + d) - 97 + 1
def wrd (c : Nat → Nat) (f t : Nat) : Nat := if 5 < t - f then 0 else w27 c f (t - f)
def cod (a b c d e : Nat) : Nat :=
  (fun v => if 0 < e then 27 * v + e - 97 + 1 else v) ((fun v => if 0 < d then 27 * v + d - 97 + 1 else v) (27 * (27 * (a - 97 + 1) + b - 97 + 1) + c - 97 + 1))
def cmdO (w : Nat) : Option Nat :=
  if w = cod 97 100 100 0 0 then some 0 else if w = cod 112 117 116 0 0 then some 1 else if w = cod 100 101 108 0 0 then some 2 else if w = cod 115 101 116 0 0 then some 3
  else if w = cod 115 119 97 112 0 then some 4 else if w = cod 98 111 117 110 100 then some 5 else if w = cod 109 101 110 100 0 then some 6 else none
theorem cmdO_lt {w k : Nat} (h : cmdO w = some k) : k < 7 := by
  unfold cmdO at h
  split at h
  · cases h; decide
  split at h
  · cases h; decide
  split at h
  · cases h; decide
  split at h
  · cases h; decide
  split at h
  · cases h; decide
  split at h
  · cases h; decide
  split at h
  · cases h; decide
  · cases h
theorem w27_le {c : Nat → Nat} {p : Nat} (h : ∀ k, c k < 128) : ∀ d, w27 c p d + 1 ≤ 60 ^ d
  | 0 => Nat.le_refl _
  | d + 1 => by
    have h1 := w27_le h (p := p) d
    have h2 := h (p + d)
    have h3 : 60 ^ (d + 1) = 60 * 60 ^ d := by rw [Nat.pow_succ, Nat.mul_comm]
    have h4 : 0 < 60 ^ d := Nat.pow_pos (by decide)
    show 27 * w27 c p d + c (p + d) - 97 + 1 + 1 ≤ _
    omega
theorem wrd_lt {c : Nat → Nat} {f t : Nat} (h : ∀ k, c k < 128) : wrd c f t < 2 ^ 31 := by
  unfold wrd
  split
  · decide
  · have h1 := w27_le h (p := f) (t - f)
    have h2 : 60 ^ (t - f) ≤ 60 ^ 5 := Nat.pow_le_pow_right (by decide) (by omega)
    have h3 : (60 : Nat) ^ 5 < 2 ^ 31 := by decide
    omega
theorem ncP_ge {c : Nat → Nat} {n p : Nat} (sg : Bool) (h : p ≤ n) : p ≤ ncP c n p sg := by
  have h1 := nuQ_le (c := c) sg h
  have h2 := nuE_le (c := c) sg h
  unfold ncP
  split <;> omega
/-- the model: a number -/
def nmO (c : Nat → Nat) (n p : Nat) (vb : Bool) : Bool := ncC c n p vb && !isA c n 48 57 (nuE c n p vb)
def nmG (c : Nat → Nat) (n p : Nat) (vb : Bool) (gv : Int64) : Int64 := if isA c n 32 32 p then (if vb then (if nuN c n p vb then -(lN (nuV c n p vb)) else lN (nuV c n p vb)) else gv) else gv
def nmL (c : Nat → Nat) (n p : Nat) (vb : Bool) (pl : Int32) : Int32 := if isA c n 32 32 p then (if vb then pl else nI (nuV c n p vb)) else pl
/-- the model: a command. The state: spot, command, place, given. -/
abbrev MS : Type := Nat × Int32 × Int32 × Int64
def mdE (c : Nat → Nat) (n k q : Nat) (pl : Int32) (gv : Int64) : Bool × MS :=
  if isA c n 59 59 (skS c n q) then (true, skS c n (skS c n q + 1), nI k, pl, gv) else (false, skS c n q, nI k, pl, gv)
def mdV (c : Nat → Nat) (n k q : Nat) (pl : Int32) (gv : Int64) : Bool × MS :=
  if wva k then (if nmO c n q true then mdE c n k (ncP c n q true) (nmL c n q true pl) (nmG c n q true gv) else (false, ncP c n q true, nI k, nmL c n q true pl, nmG c n q true gv))
  else mdE c n k q pl gv
def mdS (c : Nat → Nat) (n : Nat) (s : MS) : Bool × MS := match cmdO (wrd c s.1 (skL c n s.1)) with
  | none => (false, s.1, (-1000), s.2.2.1, s.2.2.2)
  | some k => if wnu k then (if nmO c n (skL c n s.1) false then mdV c n k (ncP c n (skL c n s.1) false) (nmL c n (skL c n s.1) false s.2.2.1) (nmG c n (skL c n s.1) false s.2.2.2) else (false, ncP c n (skL c n s.1) false, nI k, nmL c n (skL c n s.1) false s.2.2.1, nmG c n (skL c n s.1) false s.2.2.2))
    else mdV c n k (skL c n s.1) s.2.2.1 s.2.2.2
section MDL
variable {c : Nat → Nat} {n k q : Nat} {pl : Int32} {gv : Int64} {s : MS}
theorem mdE_le (h : q ≤ n) : (mdE c n k q pl gv).2.1 ≤ n ∧ ((mdE c n k q pl gv).1 = true → q < (mdE c n k q pl gv).2.1) := by
  have h1 := skS_le (c := c) h
  unfold mdE
  split
  · rename_i h2
    have h3 := isA_i h2
    have h4 := skS_le (c := c) (n := n) (p := skS c n q + 1) (by omega)
    exact ⟨h4.2, fun _ => by show q < skS c n (skS c n q + 1); omega⟩
  · exact ⟨h1.2, fun z => by cases z⟩
theorem mdV_le (h : q ≤ n) : (mdV c n k q pl gv).2.1 ≤ n ∧ ((mdV c n k q pl gv).1 = true → q < (mdV c n k q pl gv).2.1) := by
  have h1 := ncP_ge (c := c) true h
  have h2 := ncP_le (c := c) true h
  unfold mdV
  split
  · split
    · have h3 := mdE_le (c := c) (k := k) (pl := nmL c n q true pl) (gv := nmG c n q true gv) h2
      exact ⟨h3.1, fun z => Nat.lt_of_le_of_lt h1 (h3.2 z)⟩
    · exact ⟨h2, fun z => by cases z⟩
  · exact mdE_le h
theorem mdS_le (h : s.1 ≤ n) : (mdS c n s).2.1 ≤ n ∧ ((mdS c n s).1 = true → s.1 < (mdS c n s).2.1) := by
  have h0 := skL_le (c := c) h
  have h1 := ncP_ge (c := c) false h0.2
  have h2 := ncP_le (c := c) false h0.2
  unfold mdS
  split
  · exact ⟨h, fun z => by cases z⟩
  · rename_i k hw
    split
    · split
      · have h3 := mdV_le (c := c) (k := k) (pl := nmL c n (skL c n s.1) false s.2.2.1) (gv := nmG c n (skL c n s.1) false s.2.2.2) h2
        exact ⟨h3.1, fun z => Nat.lt_of_le_of_lt (Nat.le_trans h0.1 h1) (h3.2 z)⟩
      · exact ⟨h2, fun z => by cases z⟩
    · have h3 := mdV_le (c := c) (k := k) (pl := s.2.2.1) (gv := s.2.2.2) h0.2
      exact ⟨h3.1, fun z => Nat.lt_of_le_of_lt h0.1 (h3.2 z)⟩
end MDL
/-- the model: all commands, up to a fault -/
def ffM (c : Nat → Nat) (n : Nat) : Nat → MS → Option Nat × MS
  | 0, s => (none, s)
  | f + 1, s => if s.1 < n then (if (mdS c n s).1 then ffM c n f (mdS c n s).2 else (some (mdS c n s).2.1, (mdS c n s).2)) else (none, s)
section FFM
variable {c : Nat → Nat} {n f : Nat} {s : MS}
theorem ffM_t (h : s.1 < n) (h2 : (mdS c n s).1 = true) : ffM c n (f + 1) s = ffM c n f (mdS c n s).2 := by rw [ffM, if_pos h, if_pos h2]
theorem ffM_n (h : s.1 < n) (h2 : (mdS c n s).1 = false) : ffM c n (f + 1) s = (some (mdS c n s).2.1, (mdS c n s).2) := by rw [ffM, if_pos h, if_neg (by rw [h2]; decide)]
theorem ffM_e (h : ¬ s.1 < n) : ffM c n (f + 1) s = (none, s) := by rw [ffM, if_neg h]
end FFM
theorem cmdO_e (w : Nat) : cmdO w = if w = 841 then some 0 else if w = 12251 then some 1 else if w = 3063 then some 2 else if w = 14006 then some 3 else if w = 390787 then some 4 else if w = 1373818 then some 5 else if w = 259906 then some 6 else none := rfl
set_option maxHeartbeats 4000000 in
set_option maxRecDepth 100000 in
theorem kX7_isAt (l : Launch) (D : va_G) (mo : Nat) (sa : Nat) (pa : Nat) (ha : Nat) (ta : Nat) (cJ : ClassId) (cI : ClassId) (n : Nat) (b : Nat) (fl : Bool) (me : Bool) (st : Int64) (lk : Int64) (cm : Int64) (v : Nat → Int64) (nu : Nat → Int64) (pt : Nat → Int64) (hd : Nat → Int64) (t9 : Nat → Nat) (ps : Nat) (ru : Bool) (ty : Nat) (rf : Nat) (lks : Nat) (lo1 : Int32) (hi1 : Int32) (sp : Nat) (cd : Int32) (pl : Int32) (gv : Int64) (lo : Nat) (hi : Nat) (hty : ty ≤ 150) (hsp : sp ≤ ty) (htx : ∀ k, t9 k < 128) (hlo : lo < 128) (hhi : hi < 128) : PMi l yX7_isAt wsX7_isAt ({ frames := 1, cells := 0, slots := 0, locals := 25 } : Room) [.ref mo, .int (nI lo), .int (nI hi)] D (ModC mo sa pa ha ta cJ cI (sM n b fl me st lk cm v nu) pt hd (tN t9) ps ru ty rf lks lo1 hi1 sp cd pl gv) [(cJ, .long), (cI, .int)] (bI (isA t9 ty lo hi sp)) := by
  refine PMi_of (cc := cX7_isAt) (maxL := 3) (ret := some .boolean) (by decide +kernel) rfl (Nat.le_of_ble_eq_true rfl) ?_
  intro p e s m args below meth c hx hb hr hts hown hlocks hml hP hK hN ls hl
  have hown : s.vm.findClass RX7 = some m.cls := hown
  have hl : lv_has ls 3 [(0, .ref mo), (1, .int (nI lo)), (2, .int (nI hi))] := hl
  have hS : va_S (va_A [] s.heap.size) s.heap s.heap [] := va_S.rf
  have hA := wk_hA [] s.heap.size
  have hD9 : True := trivial
  have hinX7 : ∀ w ∈ wsX70, w ∈ wsX7_isAt := by decide +kernel
  have ht9 := htx sp
  refine lv_aload_n hx hb dX7_isAt_0 rfl (lv_at hl 0 rfl) ?_
  refine va_get (D := D) (ci := 5) (C := RX7) (T := TX7) (N := 15) hx hb hts hinX7 hown hK hP 0 rfl rfl 11 (by decide) (hts (.fieldLink RX7 160 "NearRanksModel" "spot" "I") (by decide +kernel)) (fun _ h9 => h9) rfl dX7_isAt_1 ?_
  refine lv_aload_n hx hb dX7_isAt_4 rfl (lv_at hl 0 rfl) ?_
  refine va_get (D := D) (ci := 5) (C := RX7) (T := TX7) (N := 15) hx hb hts hinX7 hown hK hP 0 rfl rfl 6 (by decide) (hts (.fieldLink RX7 136 "NearRanksModel" "typed" "I") (by decide +kernel)) (fun _ h9 => h9) rfl dX7_isAt_5 ?_
  refine wv_icmp_ge (tgt := 35) hx hb (by omega) (by omega) dX7_isAt_8 (by decide) (fun c8 => ?_) (fun c8 => ?_)
  · skip
    refine lv_iconst (v := nI 0) hx hb dX7_isAt_35 (by decide) ?_
    exact wv_zretP (b := false) hx hb hr hlocks hS (rfl : nI 0 = bI false) (by unfold isA; first | (rw [decide_eq_false (show ¬ sp < ty by omega)]; rfl) | (rw [decide_eq_true (show sp < ty by omega), c28]; rfl)) dX7_isAt_36
  · skip
    refine lv_aload_n hx hb dX7_isAt_11 rfl (lv_at hl 0 rfl) ?_
    refine va_get (D := D) (ci := 5) (C := RX7) (T := TX7) (N := 15) hx hb hts hinX7 hown hK hP 0 rfl rfl 5 (by decide) (hts (.fieldLink RX7 19 "NearRanksModel" "text" "[I") (by decide +kernel)) (fun _ h9 => h9) rfl dX7_isAt_12 ?_
    refine lv_aload_n hx hb dX7_isAt_15 rfl (lv_at hl 0 rfl) ?_
    refine va_get (D := D) (ci := 5) (C := RX7) (T := TX7) (N := 15) hx hb hts hinX7 hown hK hP 0 rfl rfl 11 (by decide) (hts (.fieldLink RX7 160 "NearRanksModel" "spot" "I") (by decide +kernel)) (fun _ h9 => h9) rfl dX7_isAt_16 ?_
    refine wv_iald hx hb hK hP 4 1 rfl rfl (k := sp) (by omega) (by decide) dX7_isAt_19 ?_
    refine wv_ti (y := nI (t9 sp)) rfl ?_
    refine lv_i2l (v := lN (t9 sp)) hx hb dX7_isAt_20 (nI_l (by omega)) ?_
    refine lv_iload_n hx hb dX7_isAt_21 rfl (lv_at hl 1 rfl) ?_
    refine lv_i2l (v := lN lo) hx hb dX7_isAt_22 (nI_l (by omega)) ?_
    refine lv_iload_n hx hb dX7_isAt_23 rfl (lv_at hl 2 rfl) ?_
    refine lv_i2l (v := lN hi) hx hb dX7_isAt_24 (nI_l (by omega)) ?_
    refine wv_callSi (As := [.long (lN (t9 sp)), .long (lN lo), .long (lN hi)]) (rest := []) ⟨hx, hb, hml, hown, hts⟩ (kX7_in l D (lN (t9 sp)) (lN lo) (lN hi)) (va_cwS 3 hts gX7_isAt_X7_in rfl rfl rfl (by decide +kernel) ⟨Nat.le_of_ble_eq_true rfl, Nat.le_of_ble_eq_true rfl⟩) hK hN hP hS hA [] [] rfl rfl rfl hl.1 rfl (Nat.le_of_ble_eq_true rfl) dX7_isAt_25 ⟨Nat.zero_le _, Nat.zero_le _⟩ (fun H locs hz9 hP hS => ?_)
    refine wv_ti (y := bI (decide (lo ≤ t9 sp) && decide (t9 sp ≤ hi))) (by rw [wk_in_n (by omega) (by omega) (by omega)]) ?_
    refine wv_ifeqB (tgt := 35) hx hb dX7_isAt_28 (by decide) (fun c28 => ?_) (fun c28 => ?_)
    · skip
      refine lv_iconst (v := nI 0) hx hb dX7_isAt_35 (by decide) ?_
      exact wv_zretP (b := false) hx hb hr hlocks hS (rfl : nI 0 = bI false) (by unfold isA; first | (rw [decide_eq_false (show ¬ sp < ty by omega)]; rfl) | (rw [decide_eq_true (show sp < ty by omega), c28]; rfl)) dX7_isAt_36
    · skip
      refine lv_iconst (v := nI 1) hx hb dX7_isAt_31 (by decide) ?_
      refine lv_goto (tgt := 36) hx hb dX7_isAt_32 (by decide) ?_
      exact wv_zretP (b := true) hx hb hr hlocks hS (rfl : nI 1 = bI true) (by unfold isA; first | (rw [decide_eq_false (show ¬ sp < ty by omega)]; rfl) | (rw [decide_eq_true (show sp < ty by omega), c28]; rfl)) dX7_isAt_36

set_option maxHeartbeats 4000000 in
set_option maxRecDepth 100000 in
theorem kX7_skips (l : Launch) (D : va_G) (mo : Nat) (sa : Nat) (pa : Nat) (ha : Nat) (ta : Nat) (cJ : ClassId) (cI : ClassId) (n : Nat) (b : Nat) (fl : Bool) (me : Bool) (st : Int64) (lk : Int64) (cm : Int64) (v : Nat → Int64) (nu : Nat → Int64) (pt : Nat → Int64) (hd : Nat → Int64) (t9 : Nat → Nat) (ps : Nat) (ru : Bool) (ty : Nat) (rf : Nat) (lks : Nat) (lo1 : Int32) (hi1 : Int32) (sp : Nat) (cd : Int32) (pl : Int32) (gv : Int64) (hty : ty ≤ 150) (hsp : sp ≤ ty) (htx : ∀ k, t9 k < 128) : MMv l yX7_skips wsX7_skips ({ frames := 2, cells := 0, slots := 0, locals := 47 } : Room) [.ref mo] D (ModC mo sa pa ha ta cJ cI (sM n b fl me st lk cm v nu) pt hd (tN t9) ps ru ty rf lks lo1 hi1 sp cd pl gv) [(cJ, .long), (cI, .int)] (ModC mo sa pa ha ta cJ cI (sM n b fl me st lk cm v nu) pt hd (tN t9) ps ru ty rf lks lo1 hi1 (skS t9 ty sp) cd pl gv) := by
  refine MMv_of (cc := cX7_skips) (maxL := 1) (ret := none) (by decide +kernel) rfl (Nat.le_of_ble_eq_true rfl) ?_
  intro p e s m args below meth c hx hb hr hts hown hlocks hml hP hK hN hD ls hl
  have hown : s.vm.findClass RX7 = some m.cls := hown
  have hl : lv_has ls 1 [(0, .ref mo)] := hl
  have hS : va_S (va_A (ModC mo sa pa ha ta cJ cI (sM n b fl me st lk cm v nu) pt hd (tN t9) ps ru ty rf lks lo1 hi1 sp cd pl gv) s.heap.size) s.heap s.heap [] := va_S.rf
  have hA := wk_hA (ModC mo sa pa ha ta cJ cI (sM n b fl me st lk cm v nu) pt hd (tN t9) ps ru ty rf lks lo1 hi1 sp cd pl gv) s.heap.size
  have hD9 : True := trivial
  have hinX7 : ∀ w ∈ wsX70, w ∈ wsX7_skips := by decide +kernel
  have loop0 : ∀ (K : Nat) (p1 : Nat), ty - p1 < K → p1 ≤ ty → skS t9 ty sp = skS t9 ty p1 → ∀ (H : Heap) (locs : List Loc), va_P D vwCl (ModC mo sa pa ha ta cJ cI (sM n b fl me st lk cm v nu) pt hd (tN t9) ps ru ty rf lks lo1 hi1 p1 cd pl gv) H → va_D (va_A (ModC mo sa pa ha ta cJ cI (sM n b fl me st lk cm v nu) pt hd (tN t9) ps ru ty rf lks lo1 hi1 sp cd pl gv) s.heap.size) (ModC mo sa pa ha ta cJ cI (sM n b fl me st lk cm v nu) pt hd (tN t9) ps ru ty rf lks lo1 hi1 p1 cd pl gv) → va_S (va_A (ModC mo sa pa ha ta cJ cI (sM n b fl me st lk cm v nu) pt hd (tN t9) ps ru ty rf lks lo1 hi1 sp cd pl gv) s.heap.size) s.heap H locs → ∀ ls : Array Slot, lv_has ls 1 [(0, .ref mo)] → W p l e ({ frames := 2, cells := 0, slots := 0, locals := 47 } : Room) s m args below meth c H locs 0 0 (ZMv below args s D (ModC mo sa pa ha ta cJ cI (sM n b fl me st lk cm v nu) pt hd (tN t9) ps ru ty rf lks lo1 hi1 sp cd pl gv) (ModC mo sa pa ha ta cJ cI (sM n b fl me st lk cm v nu) pt hd (tN t9) ps ru ty rf lks lo1 hi1 (skS t9 ty sp) cd pl gv)) (F0 m 0 ls []) := by
    intro K
    induction K with
    | zero => intro p1 hK0; exact absurd hK0 (Nat.not_lt_zero _)
    | succ K ih0 =>
      intro p1 hKm hp1 hsk H locs hP hD hS ls hl
      refine lv_aload_n hx hb dX7_skips_0 rfl (lv_at hl 0 rfl) ?_
      refine lv_bipush (v := nI 32) hx hb dX7_skips_1 (by decide) ?_
      refine lv_bipush (v := nI 32) hx hb dX7_skips_3 (by decide) ?_
      refine wv_callPi (As := [.int (nI 32), .int (nI 32)]) (rest := []) ⟨hx, hb, hml, hown, hts⟩ (kX7_isAt l D mo sa pa ha ta cJ cI n b fl me st lk cm v nu pt hd t9 ps ru ty rf lks lo1 hi1 p1 cd pl gv 32 32 (by first | assumption | omega) (by first | assumption | omega) (by first | assumption | omega) (by first | assumption | omega) (by first | assumption | omega)) (cwV 2 hts gX7_skips_X7_isAt rfl rfl rfl (by decide +kernel) ⟨Nat.le_of_ble_eq_true rfl, Nat.le_of_ble_eq_true rfl⟩) hK hN hP hS hA [0, 1, 2, 3, 4] [0, 1] rfl rfl 0 5 rfl rfl rfl rfl hl.1 rfl (Nat.le_of_ble_eq_true rfl) dX7_skips_5 ⟨Nat.zero_le _, Nat.zero_le _⟩ (fun H locs hz9 hP hS => ?_)
      refine wv_ifeqB (tgt := 24) hx hb dX7_skips_8 (by decide) (fun c8 => ?_) (fun c8 => ?_)
      · skip
        have ew0_sp : skS t9 ty sp = p1 := by rw [hsk, skS_f c8]
        exact wv_vretM hx hb hr hlocks hP hD hS (by rw [ew0_sp]) dX7_skips_24
      · skip
        have hti := isA_i c8
        refine lv_aload_n hx hb dX7_skips_11 rfl (lv_at hl 0 rfl) ?_
        refine lv_dup hx hb dX7_skips_12 rfl ?_
        refine va_get (D := D) (ci := 5) (C := RX7) (T := TX7) (N := 15) hx hb hts hinX7 hown hK hP 0 rfl rfl 11 (by decide) (hts (.fieldLink RX7 160 "NearRanksModel" "spot" "I") (by decide +kernel)) (fun _ h9 => h9) rfl dX7_skips_13 ?_
        refine lv_iconst (v := nI 1) hx hb dX7_skips_16 (by decide) ?_
        refine lv_iadd hx hb dX7_skips_17 ?_
        refine wv_ti (nI_add _ _) ?_
        refine va_put (D := D) (ci := 5) (v := .int (nI (p1 + 1))) (ty := .int) (C := RX7) (T := TX7) (N := 15) hx hb hts hinX7 tyX7 tyX7_ok nmX7 hown hK hP hD hS 0 rfl rfl 11 (by decide) (hts (.fieldLink RX7 160 "NearRanksModel" "spot" "I") (by decide +kernel)) (fun _ h9 => h9) rfl (by decide +kernel) rfl rfl (Nat.le_of_ble_eq_true rfl) dX7_skips_18 (fun H locs hP hD hS => ?_)
        have hP : va_P D vwCl (ModC mo sa pa ha ta cJ cI (sM n b fl me st lk cm v nu) pt hd (tN t9) ps ru ty rf lks lo1 hi1 (p1 + 1) cd pl gv) H := hP
        have hD : va_D _ (ModC mo sa pa ha ta cJ cI (sM n b fl me st lk cm v nu) pt hd (tN t9) ps ru ty rf lks lo1 hi1 (p1 + 1) cd pl gv) := hD
        refine lv_goto (tgt := 0) hx hb dX7_skips_21 (by decide) ?_
        exact ih0 (p1 + 1) (by omega) (by omega) (by rw [hsk]; exact skS_t hti.1 c8) _ _ hP hD hS ls (lv_sub hl [0] rfl)
  exact loop0 (ty - sp + 1) sp (by omega) (by omega) (by rfl) _ _ hP hD hS ls (lv_sub hl [0] rfl)

set_option maxHeartbeats 4000000 in
set_option maxRecDepth 100000 in
theorem kX7_wordOf (l : Launch) (D : va_G) (mo : Nat) (sa : Nat) (pa : Nat) (ha : Nat) (ta : Nat) (cJ : ClassId) (cI : ClassId) (n : Nat) (b : Nat) (fl : Bool) (me : Bool) (st : Int64) (lk : Int64) (cm : Int64) (v : Nat → Int64) (nu : Nat → Int64) (pt : Nat → Int64) (hd : Nat → Int64) (t9 : Nat → Nat) (ps : Nat) (ru : Bool) (ty : Nat) (rf : Nat) (lks : Nat) (lo1 : Int32) (hi1 : Int32) (sp : Nat) (cd : Int32) (pl : Int32) (gv : Int64) (f1 : Nat) (t1 : Nat) (hty : ty ≤ 150) (hft : f1 ≤ t1) (htt : t1 ≤ ty) (hlt : ∀ k, f1 ≤ k → k < t1 → 97 ≤ t9 k ∧ t9 k ≤ 122) (htx : ∀ k, t9 k < 128) : PMl l yX7_wordOf wsX7_wordOf ({ frames := 0, cells := 0, slots := 0, locals := 0 } : Room) [.ref mo, .int (nI f1), .int (nI t1)] D (ModC mo sa pa ha ta cJ cI (sM n b fl me st lk cm v nu) pt hd (tN t9) ps ru ty rf lks lo1 hi1 sp cd pl gv) [(cJ, .long), (cI, .int)] (lN (wrd t9 f1 t1)) := by
  refine PMl_of (cc := cX7_wordOf) (maxL := 6) (ret := some .long) (by decide +kernel) rfl (Nat.le_of_ble_eq_true rfl) ?_
  intro p e s m args below meth c hx hb hr hts hown hlocks hml hP hK hN ls hl
  have hown : s.vm.findClass RX7 = some m.cls := hown
  have hl : lv_has ls 6 [(0, .ref mo), (1, .int (nI f1)), (2, .int (nI t1))] := hl
  have hS : va_S (va_A [] s.heap.size) s.heap s.heap [] := va_S.rf
  have hA := wk_hA [] s.heap.size
  have hD9 : True := trivial
  have hinX7 : ∀ w ∈ wsX70, w ∈ wsX7_wordOf := by decide +kernel
  refine lv_lconst (v := lN 0) hx hb dX7_wordOf_0 rfl ?_
  refine lv_lstore_n (lv' := [(3, .long (lN 0)), (0, .ref mo), (1, .int (nI f1)), (2, .int (nI t1))]) hx hb dX7_wordOf_1 rfl hl (by decide) rfl (fun ls hl => ?_)
  refine lv_iload_n hx hb dX7_wordOf_2 rfl (lv_at hl 2 rfl) ?_
  refine lv_istore (lv' := [(5, .int (nI f1)), (3, .long (lN 0)), (0, .ref mo), (1, .int (nI f1)), (2, .int (nI t1))]) hx hb dX7_wordOf_3 hl (by decide) rfl (fun ls hl => ?_)
  have el_l3 : w27 t9 f1 0 = 0 := by rfl
  have el_l5 : f1 + 0 = f1 := by rfl
  have loop5 : ∀ (K : Nat) (d : Nat), t1 - (f1 + d) < K → f1 + d ≤ t1 → ∀ (H : Heap) (locs : List Loc), va_P D vwCl (ModC mo sa pa ha ta cJ cI (sM n b fl me st lk cm v nu) pt hd (tN t9) ps ru ty rf lks lo1 hi1 sp cd pl gv) H → va_S (va_A [] s.heap.size) s.heap H locs → ∀ ls : Array Slot, lv_has ls 6 [(0, .ref mo), (1, .int (nI f1)), (2, .int (nI t1)), (3, .long (lN (w27 t9 f1 d))), (5, .int (nI (f1 + d)))] → W p l e ({ frames := 0, cells := 0, slots := 0, locals := 0 } : Room) s m args below meth c H locs 0 0 (ZPl below args s (lN (wrd t9 f1 t1))) (F0 m 5 ls []) := by
    intro K
    induction K with
    | zero => intro d hK0; exact absurd hK0 (Nat.not_lt_zero _)
    | succ K ih5 =>
      intro d hKm hd H locs hP hS ls hl
      refine lv_iload hx hb dX7_wordOf_5 (lv_at hl 4 rfl) ?_
      refine lv_iload_n hx hb dX7_wordOf_7 rfl (lv_at hl 2 rfl) ?_
      refine wv_icmp_ge (tgt := 38) hx hb (by omega) (by omega) dX7_wordOf_8 (by decide) (fun c8 => ?_) (fun c8 => ?_)
      · skip
        refine lv_iload_n hx hb dX7_wordOf_38 rfl (lv_at hl 2 rfl) ?_
        refine lv_iload_n hx hb dX7_wordOf_39 rfl (lv_at hl 1 rfl) ?_
        refine lv_isub hx hb dX7_wordOf_40 ?_
        refine wv_ti (pk_sub (by omega)) ?_
        refine lv_iconst (v := nI 5) hx hb dX7_wordOf_41 (by decide) ?_
        refine wv_icmp_le (tgt := 49) hx hb (by omega) (by omega) dX7_wordOf_42 (by decide) (fun c42 => ?_) (fun c42 => ?_)
        · skip
          refine lv_lload_n hx hb dX7_wordOf_49 rfl (lv_at hl 3 rfl) ?_
          exact wv_lretP hx hb hr hlocks hS (by unfold wrd; first | (rw [if_pos (by omega)]; done) | (rw [if_neg (by omega), show t1 - f1 = d by omega]; done) | (rw [if_pos (by omega)]; rfl) | (rw [if_neg (by omega), show t1 - f1 = d by omega]; rfl)) dX7_wordOf_50
        · skip
          refine lv_lconst (v := lN 0) hx hb dX7_wordOf_45 rfl ?_
          refine lv_goto (tgt := 50) hx hb dX7_wordOf_46 (by decide) ?_
          exact wv_lretP hx hb hr hlocks hS (by unfold wrd; first | (rw [if_pos (by omega)]; done) | (rw [if_neg (by omega), show t1 - f1 = d by omega]; done) | (rw [if_pos (by omega)]; rfl) | (rw [if_neg (by omega), show t1 - f1 = d by omega]; rfl)) dX7_wordOf_50
      · skip
        have hc9 := hlt (f1 + d) (by omega) (by omega)
        refine lv_ldc2 (v := lN 27) hx hb hown (hts (.constantLong RX7 167 (27)) (by decide +kernel)) dX7_wordOf_11 ?_
        refine lv_lload_n hx hb dX7_wordOf_14 rfl (lv_at hl 3 rfl) ?_
        refine lv_lmul hx hb dX7_wordOf_15 ?_
        refine wv_tl (lN_mul _ _) ?_
        refine lv_aload_n hx hb dX7_wordOf_16 rfl (lv_at hl 0 rfl) ?_
        refine va_get (D := D) (ci := 5) (C := RX7) (T := TX7) (N := 15) hx hb hts hinX7 hown hK hP 0 rfl rfl 5 (by decide) (hts (.fieldLink RX7 19 "NearRanksModel" "text" "[I") (by decide +kernel)) (fun _ h9 => h9) rfl dX7_wordOf_17 ?_
        refine lv_iload hx hb dX7_wordOf_20 (lv_at hl 4 rfl) ?_
        refine wv_iald hx hb hK hP 4 1 rfl rfl (k := f1 + d) (by omega) (by decide) dX7_wordOf_22 ?_
        refine wv_ti (y := nI (t9 (f1 + d))) rfl ?_
        refine lv_i2l (v := lN (t9 (f1 + d))) hx hb dX7_wordOf_23 (nI_l (by omega)) ?_
        refine lv_ladd hx hb dX7_wordOf_24 ?_
        refine wv_tl (lN_add _ _) ?_
        refine lv_ldc2 (v := lN 97) hx hb hown (hts (.constantLong RX7 169 (97)) (by decide +kernel)) dX7_wordOf_25 ?_
        refine lv_lsub hx hb dX7_wordOf_28 ?_
        refine wv_tl (lN_sub (by omega)) ?_
        refine lv_lconst (v := lN 1) hx hb dX7_wordOf_29 rfl ?_
        refine lv_ladd hx hb dX7_wordOf_30 ?_
        refine wv_tl (lN_add _ _) ?_
        refine lv_lstore_n (lv' := [(3, .long (lN ((((27 * (w27 t9 f1 d)) + (t9 (f1 + d))) - 97) + 1))), (0, .ref mo), (1, .int (nI f1)), (2, .int (nI t1)), (5, .int (nI (f1 + d)))]) hx hb dX7_wordOf_31 rfl hl (by decide) rfl (fun ls hl => ?_)
        refine lv_iinc (v := nI (f1 + d + 1)) (lv' := [(5, .int (nI (f1 + d + 1))), (3, .long (lN ((((27 * (w27 t9 f1 d)) + (t9 (f1 + d))) - 97) + 1))), (0, .ref mo), (1, .int (nI f1)), (2, .int (nI t1))]) hx hb dX7_wordOf_32 hl (k := 4) rfl (nI_1 _) (by decide) rfl (fun ls hl => ?_)
        refine lv_goto (tgt := 5) hx hb dX7_wordOf_35 (by decide) ?_
        have el_l3 : w27 t9 f1 (d + 1) = (((27 * (w27 t9 f1 d)) + (t9 (f1 + d))) - 97) + 1 := by rfl
        have el_l5 : f1 + (d + 1) = f1 + d + 1 := by rfl
        exact ih5 (d + 1) (by omega) (by first | assumption | omega) _ _ (by first | (rw [el_l3, el_l5]; exact hP) | (simp only [el_l3, el_l5]; exact hP) | exact hP) hS ls (by first | (rw [el_l3, el_l5]; exact lv_sub hl [2, 3, 4, 1, 0] rfl) | (simp only [el_l3, el_l5]; exact lv_sub hl [2, 3, 4, 1, 0] rfl) | exact lv_sub hl [2, 3, 4, 1, 0] rfl)
  exact loop5 (t1 - (f1 + 0) + 1) 0 (by omega) (by first | assumption | omega) _ _ (by first | (rw [el_l3, el_l5]; exact hP) | (simp only [el_l3, el_l5]; exact hP) | exact hP) hS ls (by first | (rw [el_l3, el_l5]; exact lv_sub hl [2, 3, 4, 1, 0] rfl) | (simp only [el_l3, el_l5]; exact lv_sub hl [2, 3, 4, 1, 0] rfl) | exact lv_sub hl [2, 3, 4, 1, 0] rfl)

set_option maxHeartbeats 4000000 in
set_option maxRecDepth 100000 in
theorem kX7_code (l : Launch) (D : va_G) (a1 : Nat) (a2 : Nat) (a3 : Nat) (a4 : Nat) (a5 : Nat) (h1 : 97 ≤ a1 ∧ a1 < 128) (h2 : 97 ≤ a2 ∧ a2 < 128) (h3 : 97 ≤ a3 ∧ a3 < 128) (h4 : a4 = 0 ∨ 97 ≤ a4 ∧ a4 < 128) (h5 : a5 = 0 ∨ 97 ≤ a5 ∧ a5 < 128) : PMl l yX7_code wsX7_code ({ frames := 0, cells := 0, slots := 0, locals := 0 } : Room) [.int (nI a1), .int (nI a2), .int (nI a3), .int (nI a4), .int (nI a5)] D ([]) [] (lN (cod a1 a2 a3 a4 a5)) := by
  refine PMl_of (cc := cX7_code) (maxL := 7) (ret := some .long) (by decide +kernel) rfl (Nat.le_of_ble_eq_true rfl) ?_
  intro p e s m args below meth c hx hb hr hts hown hlocks hml hP hK hN ls hl
  have hown : s.vm.findClass RX7 = some m.cls := hown
  have hl : lv_has ls 7 [(0, .int (nI a1)), (1, .int (nI a2)), (2, .int (nI a3)), (3, .int (nI a4)), (4, .int (nI a5))] := hl
  have hS : va_S (va_A [] s.heap.size) s.heap s.heap [] := va_S.rf
  have hA := wk_hA [] s.heap.size
  have hD9 : True := trivial
  refine lv_ldc2 (v := lN 27) hx hb hown (hts (.constantLong RX7 167 (27)) (by decide +kernel)) dX7_code_0 ?_
  refine lv_ldc2 (v := lN 27) hx hb hown (hts (.constantLong RX7 167 (27)) (by decide +kernel)) dX7_code_3 ?_
  refine lv_iload_n hx hb dX7_code_6 rfl (lv_at hl 0 rfl) ?_
  refine lv_bipush (v := nI 97) hx hb dX7_code_7 (by decide) ?_
  refine lv_isub hx hb dX7_code_9 ?_
  refine wv_ti (pk_sub (by omega)) ?_
  refine lv_iconst (v := nI 1) hx hb dX7_code_10 (by decide) ?_
  refine lv_iadd hx hb dX7_code_11 ?_
  refine wv_ti (nI_add _ _) ?_
  refine lv_i2l (v := lN ((a1 - 97) + 1)) hx hb dX7_code_12 (nI_l (by omega)) ?_
  refine lv_lmul hx hb dX7_code_13 ?_
  refine wv_tl (lN_mul _ _) ?_
  refine lv_iload_n hx hb dX7_code_14 rfl (lv_at hl 1 rfl) ?_
  refine lv_i2l (v := lN a2) hx hb dX7_code_15 (nI_l (by omega)) ?_
  refine lv_ladd hx hb dX7_code_16 ?_
  refine wv_tl (lN_add _ _) ?_
  refine lv_ldc2 (v := lN 97) hx hb hown (hts (.constantLong RX7 169 (97)) (by decide +kernel)) dX7_code_17 ?_
  refine lv_lsub hx hb dX7_code_20 ?_
  refine wv_tl (lN_sub (by omega)) ?_
  refine lv_lconst (v := lN 1) hx hb dX7_code_21 rfl ?_
  refine lv_ladd hx hb dX7_code_22 ?_
  refine wv_tl (lN_add _ _) ?_
  refine lv_lmul hx hb dX7_code_23 ?_
  refine wv_tl (lN_mul _ _) ?_
  refine lv_iload_n hx hb dX7_code_24 rfl (lv_at hl 2 rfl) ?_
  refine lv_i2l (v := lN a3) hx hb dX7_code_25 (nI_l (by omega)) ?_
  refine lv_ladd hx hb dX7_code_26 ?_
  refine wv_tl (lN_add _ _) ?_
  refine lv_ldc2 (v := lN 97) hx hb hown (hts (.constantLong RX7 169 (97)) (by decide +kernel)) dX7_code_27 ?_
  refine lv_lsub hx hb dX7_code_30 ?_
  refine wv_tl (lN_sub (by omega)) ?_
  refine lv_lconst (v := lN 1) hx hb dX7_code_31 rfl ?_
  refine lv_ladd hx hb dX7_code_32 ?_
  refine wv_tl (lN_add _ _) ?_
  refine lv_lstore (lv' := [(5, .long (lN ((((27 * ((((27 * ((a1 - 97) + 1)) + a2) - 97) + 1)) + a3) - 97) + 1))), (0, .int (nI a1)), (1, .int (nI a2)), (2, .int (nI a3)), (3, .int (nI a4)), (4, .int (nI a5))]) hx hb dX7_code_33 hl (by decide) rfl (fun ls hl => ?_)
  refine lv_iload_n hx hb dX7_code_35 rfl (lv_at hl 4 rfl) ?_
  refine wv_if_le (tgt := 57) hx hb (by omega) dX7_code_36 (by decide) (fun c36 => ?_) (fun c36 => ?_)
  · skip
    refine lv_lload hx hb dX7_code_57 (lv_at hl 0 rfl) ?_
    refine lv_lstore (lv' := [(5, .long (lN ((((27 * ((((27 * ((a1 - 97) + 1)) + a2) - 97) + 1)) + a3) - 97) + 1))), (0, .int (nI a1)), (1, .int (nI a2)), (2, .int (nI a3)), (3, .int (nI a4)), (4, .int (nI a5))]) hx hb dX7_code_59 hl (by decide) rfl (fun ls hl => ?_)
    refine lv_iload hx hb dX7_code_61 (lv_at hl 5 rfl) ?_
    refine wv_if_le (tgt := 85) hx hb (by omega) dX7_code_63 (by decide) (fun c63 => ?_) (fun c63 => ?_)
    · skip
      refine lv_lload hx hb dX7_code_85 (lv_at hl 0 rfl) ?_
      exact wv_lretP hx hb hr hlocks hS (by first | (simp [cod, *]; done) | (unfold cod; dsimp only; first | rw [if_pos (show 0 < a5 by omega)] | rw [if_neg (show ¬ 0 < a5 by omega)]; first | rw [if_pos (show 0 < a4 by omega)] | rw [if_neg (show ¬ 0 < a4 by omega)])) dX7_code_87
    · skip
      refine lv_ldc2 (v := lN 27) hx hb hown (hts (.constantLong RX7 167 (27)) (by decide +kernel)) dX7_code_66 ?_
      refine lv_lload hx hb dX7_code_69 (lv_at hl 0 rfl) ?_
      refine lv_lmul hx hb dX7_code_71 ?_
      refine wv_tl (lN_mul _ _) ?_
      refine lv_iload hx hb dX7_code_72 (lv_at hl 5 rfl) ?_
      refine lv_i2l (v := lN a5) hx hb dX7_code_74 (nI_l (by omega)) ?_
      refine lv_ladd hx hb dX7_code_75 ?_
      refine wv_tl (lN_add _ _) ?_
      refine lv_ldc2 (v := lN 97) hx hb hown (hts (.constantLong RX7 169 (97)) (by decide +kernel)) dX7_code_76 ?_
      refine lv_lsub hx hb dX7_code_79 ?_
      refine wv_tl (lN_sub (by omega)) ?_
      refine lv_lconst (v := lN 1) hx hb dX7_code_80 rfl ?_
      refine lv_ladd hx hb dX7_code_81 ?_
      refine wv_tl (lN_add _ _) ?_
      refine lv_goto (tgt := 87) hx hb dX7_code_82 (by decide) ?_
      exact wv_lretP hx hb hr hlocks hS (by first | (simp [cod, *]; done) | (unfold cod; dsimp only; first | rw [if_pos (show 0 < a5 by omega)] | rw [if_neg (show ¬ 0 < a5 by omega)]; first | rw [if_pos (show 0 < a4 by omega)] | rw [if_neg (show ¬ 0 < a4 by omega)])) dX7_code_87
  · skip
    refine lv_ldc2 (v := lN 27) hx hb hown (hts (.constantLong RX7 167 (27)) (by decide +kernel)) dX7_code_39 ?_
    refine lv_lload hx hb dX7_code_42 (lv_at hl 0 rfl) ?_
    refine lv_lmul hx hb dX7_code_44 ?_
    refine wv_tl (lN_mul _ _) ?_
    refine lv_iload_n hx hb dX7_code_45 rfl (lv_at hl 4 rfl) ?_
    refine lv_i2l (v := lN a4) hx hb dX7_code_46 (nI_l (by omega)) ?_
    refine lv_ladd hx hb dX7_code_47 ?_
    refine wv_tl (lN_add _ _) ?_
    refine lv_ldc2 (v := lN 97) hx hb hown (hts (.constantLong RX7 169 (97)) (by decide +kernel)) dX7_code_48 ?_
    refine lv_lsub hx hb dX7_code_51 ?_
    refine wv_tl (lN_sub (by omega)) ?_
    refine lv_lconst (v := lN 1) hx hb dX7_code_52 rfl ?_
    refine lv_ladd hx hb dX7_code_53 ?_
    refine wv_tl (lN_add _ _) ?_
    refine lv_goto (tgt := 59) hx hb dX7_code_54 (by decide) ?_
    refine lv_lstore (lv' := [(5, .long (lN ((((27 * ((((27 * ((((27 * ((a1 - 97) + 1)) + a2) - 97) + 1)) + a3) - 97) + 1)) + a4) - 97) + 1))), (0, .int (nI a1)), (1, .int (nI a2)), (2, .int (nI a3)), (3, .int (nI a4)), (4, .int (nI a5))]) hx hb dX7_code_59 hl (by decide) rfl (fun ls hl => ?_)
    refine lv_iload hx hb dX7_code_61 (lv_at hl 5 rfl) ?_
    refine wv_if_le (tgt := 85) hx hb (by omega) dX7_code_63 (by decide) (fun c63 => ?_) (fun c63 => ?_)
    · skip
      refine lv_lload hx hb dX7_code_85 (lv_at hl 0 rfl) ?_
      exact wv_lretP hx hb hr hlocks hS (by first | (simp [cod, *]; done) | (unfold cod; dsimp only; first | rw [if_pos (show 0 < a5 by omega)] | rw [if_neg (show ¬ 0 < a5 by omega)]; first | rw [if_pos (show 0 < a4 by omega)] | rw [if_neg (show ¬ 0 < a4 by omega)])) dX7_code_87
    · skip
      refine lv_ldc2 (v := lN 27) hx hb hown (hts (.constantLong RX7 167 (27)) (by decide +kernel)) dX7_code_66 ?_
      refine lv_lload hx hb dX7_code_69 (lv_at hl 0 rfl) ?_
      refine lv_lmul hx hb dX7_code_71 ?_
      refine wv_tl (lN_mul _ _) ?_
      refine lv_iload hx hb dX7_code_72 (lv_at hl 5 rfl) ?_
      refine lv_i2l (v := lN a5) hx hb dX7_code_74 (nI_l (by omega)) ?_
      refine lv_ladd hx hb dX7_code_75 ?_
      refine wv_tl (lN_add _ _) ?_
      refine lv_ldc2 (v := lN 97) hx hb hown (hts (.constantLong RX7 169 (97)) (by decide +kernel)) dX7_code_76 ?_
      refine lv_lsub hx hb dX7_code_79 ?_
      refine wv_tl (lN_sub (by omega)) ?_
      refine lv_lconst (v := lN 1) hx hb dX7_code_80 rfl ?_
      refine lv_ladd hx hb dX7_code_81 ?_
      refine wv_tl (lN_add _ _) ?_
      refine lv_goto (tgt := 87) hx hb dX7_code_82 (by decide) ?_
      exact wv_lretP hx hb hr hlocks hS (by first | (simp [cod, *]; done) | (unfold cod; dsimp only; first | rw [if_pos (show 0 < a5 by omega)] | rw [if_neg (show ¬ 0 < a5 by omega)]; first | rw [if_pos (show 0 < a4 by omega)] | rw [if_neg (show ¬ 0 < a4 by omega)])) dX7_code_87

set_option maxHeartbeats 4000000 in
set_option maxRecDepth 100000 in
theorem kX7_commandOf (l : Launch) (D : va_G) (w9 : Nat) (hw9 : w9 < 2 ^ 31) : PMi l yX7_commandOf wsX7_commandOf ({ frames := 1, cells := 0, slots := 0, locals := 26 } : Room) [.long (lN w9)] D ([]) [] (oI (cmdO w9)) := by
  refine PMi_of (cc := cX7_commandOf) (maxL := 2) (ret := some .int) (by decide +kernel) rfl (Nat.le_of_ble_eq_true rfl) ?_
  intro p e s m args below meth c hx hb hr hts hown hlocks hml hP hK hN ls hl
  have hown : s.vm.findClass RX7 = some m.cls := hown
  have hl : lv_has ls 2 [(0, .long (lN w9))] := hl
  have hS : va_S (va_A [] s.heap.size) s.heap s.heap [] := va_S.rf
  have hA := wk_hA [] s.heap.size
  have hD9 : True := trivial
  refine lv_lload_n hx hb dX7_commandOf_0 rfl (lv_at hl 0 rfl) ?_
  refine lv_bipush (v := nI 97) hx hb dX7_commandOf_1 (by decide) ?_
  refine lv_bipush (v := nI 100) hx hb dX7_commandOf_3 (by decide) ?_
  refine lv_bipush (v := nI 100) hx hb dX7_commandOf_5 (by decide) ?_
  refine lv_iconst (v := nI 0) hx hb dX7_commandOf_7 (by decide) ?_
  refine lv_iconst (v := nI 0) hx hb dX7_commandOf_8 (by decide) ?_
  refine wv_callSl (As := [.int (nI 97), .int (nI 100), .int (nI 100), .int (nI 0), .int (nI 0)]) (rest := [.long (lN w9)]) ⟨hx, hb, hml, hown, hts⟩ (kX7_code l D 97 100 100 0 0 (by first | assumption | omega) (by first | assumption | omega) (by first | assumption | omega) (by first | assumption | omega) (by first | assumption | omega)) (va_cwS 5 hts gX7_commandOf_X7_code rfl rfl rfl (by decide +kernel) ⟨Nat.le_of_ble_eq_true rfl, Nat.le_of_ble_eq_true rfl⟩) hK hN hP hS hA [] [] rfl rfl rfl hl.1 rfl (Nat.le_of_ble_eq_true rfl) dX7_commandOf_9 ⟨Nat.zero_le _, Nat.zero_le _⟩ (fun H locs hz9 hP hS => ?_)
  refine wv_tl (y := lN 841) (congrArg lN (by decide)) ?_
  refine wv_lcN_ne (tgt := 18) hx hb (by omega) (by omega) dX7_commandOf_12 dX7_commandOf_13 (by decide) (fun c13 => ?_) (fun c13 => ?_)
  · skip
    refine lv_lload_n hx hb dX7_commandOf_18 rfl (lv_at hl 0 rfl) ?_
    refine lv_bipush (v := nI 112) hx hb dX7_commandOf_19 (by decide) ?_
    refine lv_bipush (v := nI 117) hx hb dX7_commandOf_21 (by decide) ?_
    refine lv_bipush (v := nI 116) hx hb dX7_commandOf_23 (by decide) ?_
    refine lv_iconst (v := nI 0) hx hb dX7_commandOf_25 (by decide) ?_
    refine lv_iconst (v := nI 0) hx hb dX7_commandOf_26 (by decide) ?_
    refine wv_callSl (As := [.int (nI 112), .int (nI 117), .int (nI 116), .int (nI 0), .int (nI 0)]) (rest := [.long (lN w9)]) ⟨hx, hb, hml, hown, hts⟩ (kX7_code l D 112 117 116 0 0 (by first | assumption | omega) (by first | assumption | omega) (by first | assumption | omega) (by first | assumption | omega) (by first | assumption | omega)) (va_cwS 5 hts gX7_commandOf_X7_code rfl rfl rfl (by decide +kernel) ⟨Nat.le_of_ble_eq_true rfl, Nat.le_of_ble_eq_true rfl⟩) hK hN hP hS hA [] [] rfl rfl rfl hl.1 rfl (Nat.le_of_ble_eq_true rfl) dX7_commandOf_27 ⟨Nat.zero_le _, Nat.zero_le _⟩ (fun H locs hz9 hP hS => ?_)
    refine wv_tl (y := lN 12251) (congrArg lN (by decide)) ?_
    refine wv_lcN_ne (tgt := 36) hx hb (by omega) (by omega) dX7_commandOf_30 dX7_commandOf_31 (by decide) (fun c31 => ?_) (fun c31 => ?_)
    · skip
      refine lv_lload_n hx hb dX7_commandOf_36 rfl (lv_at hl 0 rfl) ?_
      refine lv_bipush (v := nI 100) hx hb dX7_commandOf_37 (by decide) ?_
      refine lv_bipush (v := nI 101) hx hb dX7_commandOf_39 (by decide) ?_
      refine lv_bipush (v := nI 108) hx hb dX7_commandOf_41 (by decide) ?_
      refine lv_iconst (v := nI 0) hx hb dX7_commandOf_43 (by decide) ?_
      refine lv_iconst (v := nI 0) hx hb dX7_commandOf_44 (by decide) ?_
      refine wv_callSl (As := [.int (nI 100), .int (nI 101), .int (nI 108), .int (nI 0), .int (nI 0)]) (rest := [.long (lN w9)]) ⟨hx, hb, hml, hown, hts⟩ (kX7_code l D 100 101 108 0 0 (by first | assumption | omega) (by first | assumption | omega) (by first | assumption | omega) (by first | assumption | omega) (by first | assumption | omega)) (va_cwS 5 hts gX7_commandOf_X7_code rfl rfl rfl (by decide +kernel) ⟨Nat.le_of_ble_eq_true rfl, Nat.le_of_ble_eq_true rfl⟩) hK hN hP hS hA [] [] rfl rfl rfl hl.1 rfl (Nat.le_of_ble_eq_true rfl) dX7_commandOf_45 ⟨Nat.zero_le _, Nat.zero_le _⟩ (fun H locs hz9 hP hS => ?_)
      refine wv_tl (y := lN 3063) (congrArg lN (by decide)) ?_
      refine wv_lcN_ne (tgt := 54) hx hb (by omega) (by omega) dX7_commandOf_48 dX7_commandOf_49 (by decide) (fun c49 => ?_) (fun c49 => ?_)
      · skip
        refine lv_lload_n hx hb dX7_commandOf_54 rfl (lv_at hl 0 rfl) ?_
        refine lv_bipush (v := nI 115) hx hb dX7_commandOf_55 (by decide) ?_
        refine lv_bipush (v := nI 101) hx hb dX7_commandOf_57 (by decide) ?_
        refine lv_bipush (v := nI 116) hx hb dX7_commandOf_59 (by decide) ?_
        refine lv_iconst (v := nI 0) hx hb dX7_commandOf_61 (by decide) ?_
        refine lv_iconst (v := nI 0) hx hb dX7_commandOf_62 (by decide) ?_
        refine wv_callSl (As := [.int (nI 115), .int (nI 101), .int (nI 116), .int (nI 0), .int (nI 0)]) (rest := [.long (lN w9)]) ⟨hx, hb, hml, hown, hts⟩ (kX7_code l D 115 101 116 0 0 (by first | assumption | omega) (by first | assumption | omega) (by first | assumption | omega) (by first | assumption | omega) (by first | assumption | omega)) (va_cwS 5 hts gX7_commandOf_X7_code rfl rfl rfl (by decide +kernel) ⟨Nat.le_of_ble_eq_true rfl, Nat.le_of_ble_eq_true rfl⟩) hK hN hP hS hA [] [] rfl rfl rfl hl.1 rfl (Nat.le_of_ble_eq_true rfl) dX7_commandOf_63 ⟨Nat.zero_le _, Nat.zero_le _⟩ (fun H locs hz9 hP hS => ?_)
        refine wv_tl (y := lN 14006) (congrArg lN (by decide)) ?_
        refine wv_lcN_ne (tgt := 72) hx hb (by omega) (by omega) dX7_commandOf_66 dX7_commandOf_67 (by decide) (fun c67 => ?_) (fun c67 => ?_)
        · skip
          refine lv_lload_n hx hb dX7_commandOf_72 rfl (lv_at hl 0 rfl) ?_
          refine lv_bipush (v := nI 115) hx hb dX7_commandOf_73 (by decide) ?_
          refine lv_bipush (v := nI 119) hx hb dX7_commandOf_75 (by decide) ?_
          refine lv_bipush (v := nI 97) hx hb dX7_commandOf_77 (by decide) ?_
          refine lv_bipush (v := nI 112) hx hb dX7_commandOf_79 (by decide) ?_
          refine lv_iconst (v := nI 0) hx hb dX7_commandOf_81 (by decide) ?_
          refine wv_callSl (As := [.int (nI 115), .int (nI 119), .int (nI 97), .int (nI 112), .int (nI 0)]) (rest := [.long (lN w9)]) ⟨hx, hb, hml, hown, hts⟩ (kX7_code l D 115 119 97 112 0 (by first | assumption | omega) (by first | assumption | omega) (by first | assumption | omega) (by first | assumption | omega) (by first | assumption | omega)) (va_cwS 5 hts gX7_commandOf_X7_code rfl rfl rfl (by decide +kernel) ⟨Nat.le_of_ble_eq_true rfl, Nat.le_of_ble_eq_true rfl⟩) hK hN hP hS hA [] [] rfl rfl rfl hl.1 rfl (Nat.le_of_ble_eq_true rfl) dX7_commandOf_82 ⟨Nat.zero_le _, Nat.zero_le _⟩ (fun H locs hz9 hP hS => ?_)
          refine wv_tl (y := lN 390787) (congrArg lN (by decide)) ?_
          refine wv_lcN_ne (tgt := 91) hx hb (by omega) (by omega) dX7_commandOf_85 dX7_commandOf_86 (by decide) (fun c86 => ?_) (fun c86 => ?_)
          · skip
            refine lv_lload_n hx hb dX7_commandOf_91 rfl (lv_at hl 0 rfl) ?_
            refine lv_bipush (v := nI 98) hx hb dX7_commandOf_92 (by decide) ?_
            refine lv_bipush (v := nI 111) hx hb dX7_commandOf_94 (by decide) ?_
            refine lv_bipush (v := nI 117) hx hb dX7_commandOf_96 (by decide) ?_
            refine lv_bipush (v := nI 110) hx hb dX7_commandOf_98 (by decide) ?_
            refine lv_bipush (v := nI 100) hx hb dX7_commandOf_100 (by decide) ?_
            refine wv_callSl (As := [.int (nI 98), .int (nI 111), .int (nI 117), .int (nI 110), .int (nI 100)]) (rest := [.long (lN w9)]) ⟨hx, hb, hml, hown, hts⟩ (kX7_code l D 98 111 117 110 100 (by first | assumption | omega) (by first | assumption | omega) (by first | assumption | omega) (by first | assumption | omega) (by first | assumption | omega)) (va_cwS 5 hts gX7_commandOf_X7_code rfl rfl rfl (by decide +kernel) ⟨Nat.le_of_ble_eq_true rfl, Nat.le_of_ble_eq_true rfl⟩) hK hN hP hS hA [] [] rfl rfl rfl hl.1 rfl (Nat.le_of_ble_eq_true rfl) dX7_commandOf_102 ⟨Nat.zero_le _, Nat.zero_le _⟩ (fun H locs hz9 hP hS => ?_)
            refine wv_tl (y := lN 1373818) (congrArg lN (by decide)) ?_
            refine wv_lcN_ne (tgt := 113) hx hb (by omega) (by omega) dX7_commandOf_105 dX7_commandOf_106 (by decide) (fun c106 => ?_) (fun c106 => ?_)
            · skip
              refine lv_lload_n hx hb dX7_commandOf_113 rfl (lv_at hl 0 rfl) ?_
              refine lv_bipush (v := nI 109) hx hb dX7_commandOf_114 (by decide) ?_
              refine lv_bipush (v := nI 101) hx hb dX7_commandOf_116 (by decide) ?_
              refine lv_bipush (v := nI 110) hx hb dX7_commandOf_118 (by decide) ?_
              refine lv_bipush (v := nI 100) hx hb dX7_commandOf_120 (by decide) ?_
              refine lv_iconst (v := nI 0) hx hb dX7_commandOf_122 (by decide) ?_
              refine wv_callSl (As := [.int (nI 109), .int (nI 101), .int (nI 110), .int (nI 100), .int (nI 0)]) (rest := [.long (lN w9)]) ⟨hx, hb, hml, hown, hts⟩ (kX7_code l D 109 101 110 100 0 (by first | assumption | omega) (by first | assumption | omega) (by first | assumption | omega) (by first | assumption | omega) (by first | assumption | omega)) (va_cwS 5 hts gX7_commandOf_X7_code rfl rfl rfl (by decide +kernel) ⟨Nat.le_of_ble_eq_true rfl, Nat.le_of_ble_eq_true rfl⟩) hK hN hP hS hA [] [] rfl rfl rfl hl.1 rfl (Nat.le_of_ble_eq_true rfl) dX7_commandOf_123 ⟨Nat.zero_le _, Nat.zero_le _⟩ (fun H locs hz9 hP hS => ?_)
              refine wv_tl (y := lN 259906) (congrArg lN (by decide)) ?_
              refine wv_lcN_ne (tgt := 135) hx hb (by omega) (by omega) dX7_commandOf_126 dX7_commandOf_127 (by decide) (fun c127 => ?_) (fun c127 => ?_)
              · skip
                refine lv_sipush (v := (-1000)) hx hb dX7_commandOf_135 (by decide) ?_
                exact wv_iretP hx hb hr hlocks hS (by rw [cmdO_e]; first | (rw [if_pos (by omega)]; rfl) | (rw [if_neg (by omega), if_pos (by omega)]; rfl) | (rw [if_neg (by omega), if_neg (by omega), if_pos (by omega)]; rfl) | (rw [if_neg (by omega), if_neg (by omega), if_neg (by omega), if_pos (by omega)]; rfl) | (rw [if_neg (by omega), if_neg (by omega), if_neg (by omega), if_neg (by omega), if_pos (by omega)]; rfl) | (rw [if_neg (by omega), if_neg (by omega), if_neg (by omega), if_neg (by omega), if_neg (by omega), if_pos (by omega)]; rfl) | (rw [if_neg (by omega), if_neg (by omega), if_neg (by omega), if_neg (by omega), if_neg (by omega), if_neg (by omega), if_pos (by omega)]; rfl) | (rw [if_neg (by omega), if_neg (by omega), if_neg (by omega), if_neg (by omega), if_neg (by omega), if_neg (by omega), if_neg (by omega)]; rfl)) dX7_commandOf_138
              · skip
                refine lv_bipush (v := nI 6) hx hb dX7_commandOf_130 (by decide) ?_
                refine lv_goto (tgt := 138) hx hb dX7_commandOf_132 (by decide) ?_
                exact wv_iretP hx hb hr hlocks hS (by rw [cmdO_e]; first | (rw [if_pos (by omega)]; rfl) | (rw [if_neg (by omega), if_pos (by omega)]; rfl) | (rw [if_neg (by omega), if_neg (by omega), if_pos (by omega)]; rfl) | (rw [if_neg (by omega), if_neg (by omega), if_neg (by omega), if_pos (by omega)]; rfl) | (rw [if_neg (by omega), if_neg (by omega), if_neg (by omega), if_neg (by omega), if_pos (by omega)]; rfl) | (rw [if_neg (by omega), if_neg (by omega), if_neg (by omega), if_neg (by omega), if_neg (by omega), if_pos (by omega)]; rfl) | (rw [if_neg (by omega), if_neg (by omega), if_neg (by omega), if_neg (by omega), if_neg (by omega), if_neg (by omega), if_pos (by omega)]; rfl) | (rw [if_neg (by omega), if_neg (by omega), if_neg (by omega), if_neg (by omega), if_neg (by omega), if_neg (by omega), if_neg (by omega)]; rfl)) dX7_commandOf_138
            · skip
              refine lv_iconst (v := nI 5) hx hb dX7_commandOf_109 (by decide) ?_
              refine lv_goto (tgt := 138) hx hb dX7_commandOf_110 (by decide) ?_
              exact wv_iretP hx hb hr hlocks hS (by rw [cmdO_e]; first | (rw [if_pos (by omega)]; rfl) | (rw [if_neg (by omega), if_pos (by omega)]; rfl) | (rw [if_neg (by omega), if_neg (by omega), if_pos (by omega)]; rfl) | (rw [if_neg (by omega), if_neg (by omega), if_neg (by omega), if_pos (by omega)]; rfl) | (rw [if_neg (by omega), if_neg (by omega), if_neg (by omega), if_neg (by omega), if_pos (by omega)]; rfl) | (rw [if_neg (by omega), if_neg (by omega), if_neg (by omega), if_neg (by omega), if_neg (by omega), if_pos (by omega)]; rfl) | (rw [if_neg (by omega), if_neg (by omega), if_neg (by omega), if_neg (by omega), if_neg (by omega), if_neg (by omega), if_pos (by omega)]; rfl) | (rw [if_neg (by omega), if_neg (by omega), if_neg (by omega), if_neg (by omega), if_neg (by omega), if_neg (by omega), if_neg (by omega)]; rfl)) dX7_commandOf_138
          · skip
            refine lv_iconst (v := nI 4) hx hb dX7_commandOf_89 (by decide) ?_
            exact wv_iretP hx hb hr hlocks hS (by rw [cmdO_e]; first | (rw [if_pos (by omega)]; rfl) | (rw [if_neg (by omega), if_pos (by omega)]; rfl) | (rw [if_neg (by omega), if_neg (by omega), if_pos (by omega)]; rfl) | (rw [if_neg (by omega), if_neg (by omega), if_neg (by omega), if_pos (by omega)]; rfl) | (rw [if_neg (by omega), if_neg (by omega), if_neg (by omega), if_neg (by omega), if_pos (by omega)]; rfl) | (rw [if_neg (by omega), if_neg (by omega), if_neg (by omega), if_neg (by omega), if_neg (by omega), if_pos (by omega)]; rfl) | (rw [if_neg (by omega), if_neg (by omega), if_neg (by omega), if_neg (by omega), if_neg (by omega), if_neg (by omega), if_pos (by omega)]; rfl) | (rw [if_neg (by omega), if_neg (by omega), if_neg (by omega), if_neg (by omega), if_neg (by omega), if_neg (by omega), if_neg (by omega)]; rfl)) dX7_commandOf_90
        · skip
          refine lv_iconst (v := nI 3) hx hb dX7_commandOf_70 (by decide) ?_
          exact wv_iretP hx hb hr hlocks hS (by rw [cmdO_e]; first | (rw [if_pos (by omega)]; rfl) | (rw [if_neg (by omega), if_pos (by omega)]; rfl) | (rw [if_neg (by omega), if_neg (by omega), if_pos (by omega)]; rfl) | (rw [if_neg (by omega), if_neg (by omega), if_neg (by omega), if_pos (by omega)]; rfl) | (rw [if_neg (by omega), if_neg (by omega), if_neg (by omega), if_neg (by omega), if_pos (by omega)]; rfl) | (rw [if_neg (by omega), if_neg (by omega), if_neg (by omega), if_neg (by omega), if_neg (by omega), if_pos (by omega)]; rfl) | (rw [if_neg (by omega), if_neg (by omega), if_neg (by omega), if_neg (by omega), if_neg (by omega), if_neg (by omega), if_pos (by omega)]; rfl) | (rw [if_neg (by omega), if_neg (by omega), if_neg (by omega), if_neg (by omega), if_neg (by omega), if_neg (by omega), if_neg (by omega)]; rfl)) dX7_commandOf_71
      · skip
        refine lv_iconst (v := nI 2) hx hb dX7_commandOf_52 (by decide) ?_
        exact wv_iretP hx hb hr hlocks hS (by rw [cmdO_e]; first | (rw [if_pos (by omega)]; rfl) | (rw [if_neg (by omega), if_pos (by omega)]; rfl) | (rw [if_neg (by omega), if_neg (by omega), if_pos (by omega)]; rfl) | (rw [if_neg (by omega), if_neg (by omega), if_neg (by omega), if_pos (by omega)]; rfl) | (rw [if_neg (by omega), if_neg (by omega), if_neg (by omega), if_neg (by omega), if_pos (by omega)]; rfl) | (rw [if_neg (by omega), if_neg (by omega), if_neg (by omega), if_neg (by omega), if_neg (by omega), if_pos (by omega)]; rfl) | (rw [if_neg (by omega), if_neg (by omega), if_neg (by omega), if_neg (by omega), if_neg (by omega), if_neg (by omega), if_pos (by omega)]; rfl) | (rw [if_neg (by omega), if_neg (by omega), if_neg (by omega), if_neg (by omega), if_neg (by omega), if_neg (by omega), if_neg (by omega)]; rfl)) dX7_commandOf_53
    · skip
      refine lv_iconst (v := nI 1) hx hb dX7_commandOf_34 (by decide) ?_
      exact wv_iretP hx hb hr hlocks hS (by rw [cmdO_e]; first | (rw [if_pos (by omega)]; rfl) | (rw [if_neg (by omega), if_pos (by omega)]; rfl) | (rw [if_neg (by omega), if_neg (by omega), if_pos (by omega)]; rfl) | (rw [if_neg (by omega), if_neg (by omega), if_neg (by omega), if_pos (by omega)]; rfl) | (rw [if_neg (by omega), if_neg (by omega), if_neg (by omega), if_neg (by omega), if_pos (by omega)]; rfl) | (rw [if_neg (by omega), if_neg (by omega), if_neg (by omega), if_neg (by omega), if_neg (by omega), if_pos (by omega)]; rfl) | (rw [if_neg (by omega), if_neg (by omega), if_neg (by omega), if_neg (by omega), if_neg (by omega), if_neg (by omega), if_pos (by omega)]; rfl) | (rw [if_neg (by omega), if_neg (by omega), if_neg (by omega), if_neg (by omega), if_neg (by omega), if_neg (by omega), if_neg (by omega)]; rfl)) dX7_commandOf_35
  · skip
    refine lv_iconst (v := nI 0) hx hb dX7_commandOf_16 (by decide) ?_
    exact wv_iretP hx hb hr hlocks hS (by rw [cmdO_e]; first | (rw [if_pos (by omega)]; rfl) | (rw [if_neg (by omega), if_pos (by omega)]; rfl) | (rw [if_neg (by omega), if_neg (by omega), if_pos (by omega)]; rfl) | (rw [if_neg (by omega), if_neg (by omega), if_neg (by omega), if_pos (by omega)]; rfl) | (rw [if_neg (by omega), if_neg (by omega), if_neg (by omega), if_neg (by omega), if_pos (by omega)]; rfl) | (rw [if_neg (by omega), if_neg (by omega), if_neg (by omega), if_neg (by omega), if_neg (by omega), if_pos (by omega)]; rfl) | (rw [if_neg (by omega), if_neg (by omega), if_neg (by omega), if_neg (by omega), if_neg (by omega), if_neg (by omega), if_pos (by omega)]; rfl) | (rw [if_neg (by omega), if_neg (by omega), if_neg (by omega), if_neg (by omega), if_neg (by omega), if_neg (by omega), if_neg (by omega)]; rfl)) dX7_commandOf_17

set_option maxHeartbeats 4000000 in
set_option maxRecDepth 100000 in
theorem kX7_number (l : Launch) (D : va_G) (mo : Nat) (sa : Nat) (pa : Nat) (ha : Nat) (ta : Nat) (cJ : ClassId) (cI : ClassId) (n : Nat) (b : Nat) (fl : Bool) (me : Bool) (st : Int64) (lk : Int64) (cm : Int64) (v : Nat → Int64) (nu : Nat → Int64) (pt : Nat → Int64) (hd : Nat → Int64) (t9 : Nat → Nat) (ps : Nat) (ru : Bool) (ty : Nat) (rf : Nat) (lks : Nat) (lo1 : Int32) (hi1 : Int32) (sp : Nat) (cd : Int32) (pl : Int32) (gv : Int64) (vb : Bool) (hty : ty ≤ 150) (hsp : sp ≤ ty) (htx : ∀ k, t9 k < 128) : MMi l yX7_number wsX7_number ({ frames := 3, cells := 0, slots := 0, locals := 67 } : Room) [.ref mo, .int (bI vb)] D (ModC mo sa pa ha ta cJ cI (sM n b fl me st lk cm v nu) pt hd (tN t9) ps ru ty rf lks lo1 hi1 sp cd pl gv) [(cJ, .long), (cI, .int)] (bI (nmO t9 ty sp vb)) (ModC mo sa pa ha ta cJ cI (sM n b fl me st lk cm v nu) pt hd (tN t9) ps ru ty rf lks lo1 hi1 (ncP t9 ty sp vb) cd (nmL t9 ty sp vb pl) (nmG t9 ty sp vb gv)) := by
  refine MMi_of (cc := cX7_number) (maxL := 6) (ret := some .boolean) (by decide +kernel) rfl (Nat.le_of_ble_eq_true rfl) ?_
  intro p e s m args below meth c hx hb hr hts hown hlocks hml hP hK hN hD ls hl
  have hown : s.vm.findClass RX7 = some m.cls := hown
  have hl : lv_has ls 6 [(0, .ref mo), (1, .int (bI vb))] := hl
  have hS : va_S (va_A (ModC mo sa pa ha ta cJ cI (sM n b fl me st lk cm v nu) pt hd (tN t9) ps ru ty rf lks lo1 hi1 sp cd pl gv) s.heap.size) s.heap s.heap [] := va_S.rf
  have hA := wk_hA (ModC mo sa pa ha ta cJ cI (sM n b fl me st lk cm v nu) pt hd (tN t9) ps ru ty rf lks lo1 hi1 sp cd pl gv) s.heap.size
  have hD9 : True := trivial
  have hinX7 : ∀ w ∈ wsX70, w ∈ wsX7_number := by decide +kernel
  have hs9 := skS_le (c := t9) hsp
  have hq9 := nuQ_le (c := t9) vb hsp
  refine lv_aload_n hx hb dX7_number_0 rfl (lv_at hl 0 rfl) ?_
  refine lv_bipush (v := nI 32) hx hb dX7_number_1 (by decide) ?_
  refine lv_bipush (v := nI 32) hx hb dX7_number_3 (by decide) ?_
  refine wv_callPi (As := [.int (nI 32), .int (nI 32)]) (rest := []) ⟨hx, hb, hml, hown, hts⟩ (kX7_isAt l D mo sa pa ha ta cJ cI n b fl me st lk cm v nu pt hd t9 ps ru ty rf lks lo1 hi1 sp cd pl gv 32 32 (by first | assumption | omega) (by first | assumption | omega) (by first | assumption | omega) (by first | assumption | omega) (by first | assumption | omega)) (cwV 2 hts gX7_number_X7_isAt rfl rfl rfl (by decide +kernel) ⟨Nat.le_of_ble_eq_true rfl, Nat.le_of_ble_eq_true rfl⟩) hK hN hP hS hA [0, 1, 2, 3, 4] [0, 1] rfl rfl 0 5 rfl rfl rfl rfl hl.1 rfl (Nat.le_of_ble_eq_true rfl) dX7_number_5 ⟨Nat.zero_le _, Nat.zero_le _⟩ (fun H locs hz9 hP hS => ?_)
  refine wv_ifneB (tgt := 13) hx hb dX7_number_8 (by decide) (fun c8 => ?_) (fun c8 => ?_)
  · skip
    have hs8 : isA t9 ty 32 32 sp = true := c8
    refine lv_aload_n hx hb dX7_number_13 rfl (lv_at hl 0 rfl) ?_
    refine wv_callMv (As := []) (rest := []) (wr := []) (ws1 := ModC mo sa pa ha ta cJ cI (sM n b fl me st lk cm v nu) pt hd (tN t9) ps ru ty rf lks lo1 hi1 (skS t9 ty sp) cd pl gv) ⟨hx, hb, hml, hown, hts⟩ (kX7_skips l D mo sa pa ha ta cJ cI n b fl me st lk cm v nu pt hd t9 ps ru ty rf lks lo1 hi1 sp cd pl gv (by first | assumption | omega) (by first | assumption | omega) (by first | assumption | omega)) (cwV 0 hts gX7_number_X7_skips rfl rfl rfl (by decide +kernel) ⟨Nat.le_of_ble_eq_true rfl, Nat.le_of_ble_eq_true rfl⟩) hK hN hP hD hS hA [0, 1, 2, 3, 4] [] [0, 1] [0, 1, 2, 3, 4] rfl rfl (by decide) rfl (by decide) (by decide) rfl (by decide) rfl 0 5 rfl rfl rfl rfl hl.1 rfl (Nat.le_of_ble_eq_true rfl) dX7_number_14 ⟨Nat.zero_le _, Nat.zero_le _⟩ (fun H locs hz9 hP hD hS => ?_)
    refine lv_iload_n hx hb dX7_number_17 rfl (lv_at hl 1 rfl) ?_
    refine wv_ifeqB (tgt := 36) hx hb dX7_number_18 (by decide) (fun c18 => ?_) (fun c18 => ?_)
    · skip
      have hng : nuN t9 ty sp vb = false := by unfold nuN; rw [c18]; rfl
      refine lv_iconst (v := nI 0) hx hb dX7_number_36 (by decide) ?_
      refine lv_istore_n (lv' := [(2, .int (nI 0)), (0, .ref mo), (1, .int (bI vb))]) hx hb dX7_number_37 rfl hl (by decide) rfl (fun ls hl => ?_)
      refine lv_aload_n hx hb dX7_number_38 rfl (lv_at hl 1 rfl) ?_
      refine lv_dup hx hb dX7_number_39 rfl ?_
      refine va_get (D := D) (ci := 5) (C := RX7) (T := TX7) (N := 15) hx hb hts hinX7 hown hK hP 0 rfl rfl 11 (by decide) (hts (.fieldLink RX7 160 "NearRanksModel" "spot" "I") (by decide +kernel)) (fun _ h9 => h9) rfl dX7_number_40 ?_
      refine lv_iload_n hx hb dX7_number_43 rfl (lv_at hl 0 rfl) ?_
      refine lv_if_eq (tgt := 51) hx hb dX7_number_44 (by decide) (fun _ => ?_) (fun h => absurd h (by decide))
      refine lv_iconst (v := nI 0) hx hb dX7_number_51 (by decide) ?_
      refine lv_iadd hx hb dX7_number_52 ?_
      refine wv_ti (nI_add _ _) ?_
      refine va_put (D := D) (ci := 5) (v := .int (nI ((skS t9 ty sp) + 0))) (ty := .int) (C := RX7) (T := TX7) (N := 15) hx hb hts hinX7 tyX7 tyX7_ok nmX7 hown hK hP hD hS 0 rfl rfl 11 (by decide) (hts (.fieldLink RX7 160 "NearRanksModel" "spot" "I") (by decide +kernel)) (fun _ h9 => h9) rfl (by decide +kernel) rfl rfl (Nat.le_of_ble_eq_true rfl) dX7_number_53 (fun H locs hP hD hS => ?_)
      have hP : va_P D vwCl (ModC mo sa pa ha ta cJ cI (sM n b fl me st lk cm v nu) pt hd (tN t9) ps ru ty rf lks lo1 hi1 ((skS t9 ty sp) + 0) cd pl gv) H := hP
      have hD : va_D _ (ModC mo sa pa ha ta cJ cI (sM n b fl me st lk cm v nu) pt hd (tN t9) ps ru ty rf lks lo1 hi1 ((skS t9 ty sp) + 0) cd pl gv) := hD
      refine lv_aload_n hx hb dX7_number_56 rfl (lv_at hl 1 rfl) ?_
      refine va_get (D := D) (ci := 5) (C := RX7) (T := TX7) (N := 15) hx hb hts hinX7 hown hK hP 0 rfl rfl 11 (by decide) (hts (.fieldLink RX7 160 "NearRanksModel" "spot" "I") (by decide +kernel)) (fun _ h9 => h9) rfl dX7_number_57 ?_
      refine lv_istore_n (lv' := [(3, .int (nI ((skS t9 ty sp) + 0))), (2, .int (nI 0)), (0, .ref mo), (1, .int (bI vb))]) hx hb dX7_number_60 rfl hl (by decide) rfl (fun ls hl => ?_)
      refine lv_lconst (v := lN 0) hx hb dX7_number_61 rfl ?_
      refine lv_lstore (lv' := [(4, .long (lN 0)), (3, .int (nI ((skS t9 ty sp) + 0))), (2, .int (nI 0)), (0, .ref mo), (1, .int (bI vb))]) hx hb dX7_number_62 hl (by decide) rfl (fun ls hl => ?_)
      have el_l2 : bI (nuN t9 ty sp vb) = nI 0 := by rw [hng]; rfl
      have el_l3 : nuQ t9 ty sp vb = (skS t9 ty sp) + 0 := by first | (simp [nuQ, hng]; done) | (simp [nuQ, hng, c29]; done)
      have el_l4 : dgv t9 (nuQ t9 ty sp vb) 0 = 0 := by rfl
      have el_w0_sp : nuQ t9 ty sp vb + 0 = (skS t9 ty sp) + 0 := by first | (simp [nuQ, hng]; done) | (simp [nuQ, hng, c29]; done)
      have loop64 : ∀ (K : Nat) (d : Nat), 9 - d < K → d ≤ 9 → nuQ t9 ty sp vb + d ≤ ty → nuE t9 ty sp vb = rn (isA t9 ty 48 57) (9 - d) (nuQ t9 ty sp vb + d) → ∀ (H : Heap) (locs : List Loc), va_P D vwCl (ModC mo sa pa ha ta cJ cI (sM n b fl me st lk cm v nu) pt hd (tN t9) ps ru ty rf lks lo1 hi1 (nuQ t9 ty sp vb + d) cd pl gv) H → va_D (va_A (ModC mo sa pa ha ta cJ cI (sM n b fl me st lk cm v nu) pt hd (tN t9) ps ru ty rf lks lo1 hi1 sp cd pl gv) s.heap.size) (ModC mo sa pa ha ta cJ cI (sM n b fl me st lk cm v nu) pt hd (tN t9) ps ru ty rf lks lo1 hi1 (nuQ t9 ty sp vb + d) cd pl gv) → va_S (va_A (ModC mo sa pa ha ta cJ cI (sM n b fl me st lk cm v nu) pt hd (tN t9) ps ru ty rf lks lo1 hi1 sp cd pl gv) s.heap.size) s.heap H locs → ∀ ls : Array Slot, lv_has ls 6 [(0, .ref mo), (1, .int (bI vb)), (2, .int (bI (nuN t9 ty sp vb))), (3, .int (nI (nuQ t9 ty sp vb))), (4, .long (lN (dgv t9 (nuQ t9 ty sp vb) d)))] → W p l e ({ frames := 3, cells := 0, slots := 0, locals := 67 } : Room) s m args below meth c H locs 0 0 (ZMi below args s D (ModC mo sa pa ha ta cJ cI (sM n b fl me st lk cm v nu) pt hd (tN t9) ps ru ty rf lks lo1 hi1 sp cd pl gv) (bI (nmO t9 ty sp vb)) (ModC mo sa pa ha ta cJ cI (sM n b fl me st lk cm v nu) pt hd (tN t9) ps ru ty rf lks lo1 hi1 (ncP t9 ty sp vb) cd (nmL t9 ty sp vb pl) (nmG t9 ty sp vb gv))) (F0 m 64 ls []) := by
        intro K
        induction K with
        | zero => intro d hK0; exact absurd hK0 (Nat.not_lt_zero _)
        | succ K ih64 =>
          intro d hKm hdd hpd hrn H locs hP hD hS ls hl
          refine lv_aload_n hx hb dX7_number_64 rfl (lv_at hl 0 rfl) ?_
          refine lv_bipush (v := nI 48) hx hb dX7_number_65 (by decide) ?_
          refine lv_bipush (v := nI 57) hx hb dX7_number_67 (by decide) ?_
          refine wv_callPi (As := [.int (nI 48), .int (nI 57)]) (rest := []) ⟨hx, hb, hml, hown, hts⟩ (kX7_isAt l D mo sa pa ha ta cJ cI n b fl me st lk cm v nu pt hd t9 ps ru ty rf lks lo1 hi1 (nuQ t9 ty sp vb + d) cd pl gv 48 57 (by first | assumption | omega) (by first | assumption | omega) (by first | assumption | omega) (by first | assumption | omega) (by first | assumption | omega)) (cwV 2 hts gX7_number_X7_isAt rfl rfl rfl (by decide +kernel) ⟨Nat.le_of_ble_eq_true rfl, Nat.le_of_ble_eq_true rfl⟩) hK hN hP hS hA [0, 1, 2, 3, 4] [0, 1] rfl rfl 0 5 rfl rfl rfl rfl hl.1 rfl (Nat.le_of_ble_eq_true rfl) dX7_number_69 ⟨Nat.zero_le _, Nat.zero_le _⟩ (fun H locs hz9 hP hS => ?_)
          refine wv_ifeqB (tgt := 122) hx hb dX7_number_72 (by decide) (fun c72 => ?_) (fun c72 => ?_)
          · skip
            have hE9 : nuE t9 ty sp vb = nuQ t9 ty sp vb + d := by rw [hrn, rn_f c72]
            refine lv_aload_n hx hb dX7_number_122 rfl (lv_at hl 0 rfl) ?_
            refine lv_iload_n hx hb dX7_number_123 rfl (lv_at hl 1 rfl) ?_
            refine wv_ifeqB (tgt := 142) hx hb dX7_number_124 (by decide) (fun c124 => ?_) (fun c124 => ?_)
            · skip
              refine lv_aload_n hx hb dX7_number_142 rfl (lv_at hl 0 rfl) ?_
              refine va_get (D := D) (ci := 5) (C := RX7) (T := TX7) (N := 15) hx hb hts hinX7 hown hK hP 0 rfl rfl 14 (by decide) (hts (.fieldLink RX7 182 "NearRanksModel" "given" "J") (by decide +kernel)) (fun _ h9 => h9) rfl dX7_number_143 ?_
              refine va_put (D := D) (ci := 5) (v := .long gv) (ty := .long) (C := RX7) (T := TX7) (N := 15) hx hb hts hinX7 tyX7 tyX7_ok nmX7 hown hK hP hD hS 0 rfl rfl 14 (by decide) (hts (.fieldLink RX7 182 "NearRanksModel" "given" "J") (by decide +kernel)) (fun _ h9 => h9) rfl (by decide +kernel) rfl rfl (Nat.le_of_ble_eq_true rfl) dX7_number_146 (fun H locs hP hD hS => ?_)
              have hP : va_P D vwCl (ModC mo sa pa ha ta cJ cI (sM n b fl me st lk cm v nu) pt hd (tN t9) ps ru ty rf lks lo1 hi1 (nuQ t9 ty sp vb + d) cd pl gv) H := hP
              have hD : va_D _ (ModC mo sa pa ha ta cJ cI (sM n b fl me st lk cm v nu) pt hd (tN t9) ps ru ty rf lks lo1 hi1 (nuQ t9 ty sp vb + d) cd pl gv) := hD
              refine lv_aload_n hx hb dX7_number_149 rfl (lv_at hl 0 rfl) ?_
              refine lv_iload_n hx hb dX7_number_150 rfl (lv_at hl 1 rfl) ?_
              refine wv_ifeqB (tgt := 161) hx hb dX7_number_151 (by decide) (fun c151 => ?_) (fun c151 => by exfalso; rw [c124] at c151; cases c151)
              refine lv_lload hx hb dX7_number_161 (lv_at hl 4 rfl) ?_
              refine lv_l2i (v := nI (dgv t9 (nuQ t9 ty sp vb) d)) hx hb dX7_number_163 (lN_i _) ?_
              refine va_put (D := D) (ci := 5) (v := .int (nI (dgv t9 (nuQ t9 ty sp vb) d))) (ty := .int) (C := RX7) (T := TX7) (N := 15) hx hb hts hinX7 tyX7 tyX7_ok nmX7 hown hK hP hD hS 0 rfl rfl 13 (by decide) (hts (.fieldLink RX7 186 "NearRanksModel" "place" "I") (by decide +kernel)) (fun _ h9 => h9) rfl (by decide +kernel) rfl rfl (Nat.le_of_ble_eq_true rfl) dX7_number_164 (fun H locs hP hD hS => ?_)
              have hP : va_P D vwCl (ModC mo sa pa ha ta cJ cI (sM n b fl me st lk cm v nu) pt hd (tN t9) ps ru ty rf lks lo1 hi1 (nuQ t9 ty sp vb + d) cd (nI (dgv t9 (nuQ t9 ty sp vb) d)) gv) H := hP
              have hD : va_D _ (ModC mo sa pa ha ta cJ cI (sM n b fl me st lk cm v nu) pt hd (tN t9) ps ru ty rf lks lo1 hi1 (nuQ t9 ty sp vb + d) cd (nI (dgv t9 (nuQ t9 ty sp vb) d)) gv) := hD
              refine lv_aload_n hx hb dX7_number_167 rfl (lv_at hl 0 rfl) ?_
              refine va_get (D := D) (ci := 5) (C := RX7) (T := TX7) (N := 15) hx hb hts hinX7 hown hK hP 0 rfl rfl 11 (by decide) (hts (.fieldLink RX7 160 "NearRanksModel" "spot" "I") (by decide +kernel)) (fun _ h9 => h9) rfl dX7_number_168 ?_
              refine lv_iload_n hx hb dX7_number_171 rfl (lv_at hl 3 rfl) ?_
              refine wv_icmp_le (tgt := 190) hx hb (by omega) (by omega) dX7_number_172 (by decide) (fun c172 => ?_) (fun c172 => ?_)
              · skip
                refine lv_iconst (v := nI 0) hx hb dX7_number_190 (by decide) ?_
                have ew0_sp : ncP t9 ty sp vb = nuQ t9 ty sp vb + d := by unfold ncP; first | (rw [if_pos hs8, hE9]; done) | (rw [if_neg (by rw [hs8]; decide)]; done)
                have ew0_pl : nmL t9 ty sp vb pl = nI (dgv t9 (nuQ t9 ty sp vb) d) := by unfold nmL; first | (rw [if_neg (by rw [hs8]; decide)]; done) | (rw [if_pos hs8, if_pos c124]; done) | (rw [if_pos hs8, if_neg (by rw [c124]; decide)]; unfold nuV; rw [hE9, Nat.add_sub_cancel_left]; done)
                have ew0_gv : nmG t9 ty sp vb gv = gv := by unfold nmG; first | (rw [if_neg (by rw [hs8]; decide)]; done) | (rw [if_pos hs8, if_neg (by rw [c124]; decide)]; done) | (rw [if_pos hs8, if_pos c124]; unfold nuV; rw [hE9, Nat.add_sub_cancel_left]; first | (rw [if_pos c128]; done) | (rw [if_neg (by rw [c128]; decide)]; done))
                exact wv_zretM (b := false) hx hb hr hlocks hP hD hS rfl (by first | (unfold nmO ncC; rw [hs8]; rfl) | (unfold nmO ncC; rw [hs8, hE9, decide_eq_false (by omega)]; rfl) | (unfold nmO ncC; rw [hs8, hE9, decide_eq_true (by omega), c183]; rfl)) (by rw [ew0_gv, ew0_pl, ew0_sp]) dX7_number_191
              · skip
                refine lv_aload_n hx hb dX7_number_175 rfl (lv_at hl 0 rfl) ?_
                refine lv_bipush (v := nI 48) hx hb dX7_number_176 (by decide) ?_
                refine lv_bipush (v := nI 57) hx hb dX7_number_178 (by decide) ?_
                refine wv_callPi (As := [.int (nI 48), .int (nI 57)]) (rest := []) ⟨hx, hb, hml, hown, hts⟩ (kX7_isAt l D mo sa pa ha ta cJ cI n b fl me st lk cm v nu pt hd t9 ps ru ty rf lks lo1 hi1 (nuQ t9 ty sp vb + d) cd (nI (dgv t9 (nuQ t9 ty sp vb) d)) gv 48 57 (by first | assumption | omega) (by first | assumption | omega) (by first | assumption | omega) (by first | assumption | omega) (by first | assumption | omega)) (cwV 2 hts gX7_number_X7_isAt rfl rfl rfl (by decide +kernel) ⟨Nat.le_of_ble_eq_true rfl, Nat.le_of_ble_eq_true rfl⟩) hK hN hP hS hA [0, 1, 2, 3, 4] [0, 1] rfl rfl 0 5 rfl rfl rfl rfl hl.1 rfl (Nat.le_of_ble_eq_true rfl) dX7_number_180 ⟨Nat.zero_le _, Nat.zero_le _⟩ (fun H locs hz9 hP hS => ?_)
                refine wv_ifneB (tgt := 190) hx hb dX7_number_183 (by decide) (fun c183 => ?_) (fun c183 => ?_)
                · skip
                  refine lv_iconst (v := nI 0) hx hb dX7_number_190 (by decide) ?_
                  have ew0_sp : ncP t9 ty sp vb = nuQ t9 ty sp vb + d := by unfold ncP; first | (rw [if_pos hs8, hE9]; done) | (rw [if_neg (by rw [hs8]; decide)]; done)
                  have ew0_pl : nmL t9 ty sp vb pl = nI (dgv t9 (nuQ t9 ty sp vb) d) := by unfold nmL; first | (rw [if_neg (by rw [hs8]; decide)]; done) | (rw [if_pos hs8, if_pos c124]; done) | (rw [if_pos hs8, if_neg (by rw [c124]; decide)]; unfold nuV; rw [hE9, Nat.add_sub_cancel_left]; done)
                  have ew0_gv : nmG t9 ty sp vb gv = gv := by unfold nmG; first | (rw [if_neg (by rw [hs8]; decide)]; done) | (rw [if_pos hs8, if_neg (by rw [c124]; decide)]; done) | (rw [if_pos hs8, if_pos c124]; unfold nuV; rw [hE9, Nat.add_sub_cancel_left]; first | (rw [if_pos c128]; done) | (rw [if_neg (by rw [c128]; decide)]; done))
                  exact wv_zretM (b := false) hx hb hr hlocks hP hD hS rfl (by first | (unfold nmO ncC; rw [hs8]; rfl) | (unfold nmO ncC; rw [hs8, hE9, decide_eq_false (by omega)]; rfl) | (unfold nmO ncC; rw [hs8, hE9, decide_eq_true (by omega), c183]; rfl)) (by rw [ew0_gv, ew0_pl, ew0_sp]) dX7_number_191
                · skip
                  refine lv_iconst (v := nI 1) hx hb dX7_number_186 (by decide) ?_
                  refine lv_goto (tgt := 191) hx hb dX7_number_187 (by decide) ?_
                  have ew0_sp : ncP t9 ty sp vb = nuQ t9 ty sp vb + d := by unfold ncP; first | (rw [if_pos hs8, hE9]; done) | (rw [if_neg (by rw [hs8]; decide)]; done)
                  have ew0_pl : nmL t9 ty sp vb pl = nI (dgv t9 (nuQ t9 ty sp vb) d) := by unfold nmL; first | (rw [if_neg (by rw [hs8]; decide)]; done) | (rw [if_pos hs8, if_pos c124]; done) | (rw [if_pos hs8, if_neg (by rw [c124]; decide)]; unfold nuV; rw [hE9, Nat.add_sub_cancel_left]; done)
                  have ew0_gv : nmG t9 ty sp vb gv = gv := by unfold nmG; first | (rw [if_neg (by rw [hs8]; decide)]; done) | (rw [if_pos hs8, if_neg (by rw [c124]; decide)]; done) | (rw [if_pos hs8, if_pos c124]; unfold nuV; rw [hE9, Nat.add_sub_cancel_left]; first | (rw [if_pos c128]; done) | (rw [if_neg (by rw [c128]; decide)]; done))
                  exact wv_zretM (b := true) hx hb hr hlocks hP hD hS rfl (by first | (unfold nmO ncC; rw [hs8]; rfl) | (unfold nmO ncC; rw [hs8, hE9, decide_eq_false (by omega)]; rfl) | (unfold nmO ncC; rw [hs8, hE9, decide_eq_true (by omega), c183]; rfl)) (by rw [ew0_gv, ew0_pl, ew0_sp]) dX7_number_191
            · skip
              refine lv_iload_n hx hb dX7_number_127 rfl (lv_at hl 2 rfl) ?_
              refine wv_ifeqB (tgt := 137) hx hb dX7_number_128 (by decide) (fun c128 => ?_) (fun c128 => ?_)
              · skip
                refine lv_lload hx hb dX7_number_137 (lv_at hl 4 rfl) ?_
                refine lv_goto (tgt := 146) hx hb dX7_number_139 (by decide) ?_
                refine va_put (D := D) (ci := 5) (v := .long (lN (dgv t9 (nuQ t9 ty sp vb) d))) (ty := .long) (C := RX7) (T := TX7) (N := 15) hx hb hts hinX7 tyX7 tyX7_ok nmX7 hown hK hP hD hS 0 rfl rfl 14 (by decide) (hts (.fieldLink RX7 182 "NearRanksModel" "given" "J") (by decide +kernel)) (fun _ h9 => h9) rfl (by decide +kernel) rfl rfl (Nat.le_of_ble_eq_true rfl) dX7_number_146 (fun H locs hP hD hS => ?_)
                have hP : va_P D vwCl (ModC mo sa pa ha ta cJ cI (sM n b fl me st lk cm v nu) pt hd (tN t9) ps ru ty rf lks lo1 hi1 (nuQ t9 ty sp vb + d) cd pl (lN (dgv t9 (nuQ t9 ty sp vb) d))) H := hP
                have hD : va_D _ (ModC mo sa pa ha ta cJ cI (sM n b fl me st lk cm v nu) pt hd (tN t9) ps ru ty rf lks lo1 hi1 (nuQ t9 ty sp vb + d) cd pl (lN (dgv t9 (nuQ t9 ty sp vb) d))) := hD
                refine lv_aload_n hx hb dX7_number_149 rfl (lv_at hl 0 rfl) ?_
                refine lv_iload_n hx hb dX7_number_150 rfl (lv_at hl 1 rfl) ?_
                refine wv_ifeqB (tgt := 161) hx hb dX7_number_151 (by decide) (fun c151 => by exfalso; rw [c124] at c151; cases c151) (fun c151 => ?_)
                refine lv_aload_n hx hb dX7_number_154 rfl (lv_at hl 0 rfl) ?_
                refine va_get (D := D) (ci := 5) (C := RX7) (T := TX7) (N := 15) hx hb hts hinX7 hown hK hP 0 rfl rfl 13 (by decide) (hts (.fieldLink RX7 186 "NearRanksModel" "place" "I") (by decide +kernel)) (fun _ h9 => h9) rfl dX7_number_155 ?_
                refine lv_goto (tgt := 164) hx hb dX7_number_158 (by decide) ?_
                refine va_put (D := D) (ci := 5) (v := .int pl) (ty := .int) (C := RX7) (T := TX7) (N := 15) hx hb hts hinX7 tyX7 tyX7_ok nmX7 hown hK hP hD hS 0 rfl rfl 13 (by decide) (hts (.fieldLink RX7 186 "NearRanksModel" "place" "I") (by decide +kernel)) (fun _ h9 => h9) rfl (by decide +kernel) rfl rfl (Nat.le_of_ble_eq_true rfl) dX7_number_164 (fun H locs hP hD hS => ?_)
                have hP : va_P D vwCl (ModC mo sa pa ha ta cJ cI (sM n b fl me st lk cm v nu) pt hd (tN t9) ps ru ty rf lks lo1 hi1 (nuQ t9 ty sp vb + d) cd pl (lN (dgv t9 (nuQ t9 ty sp vb) d))) H := hP
                have hD : va_D _ (ModC mo sa pa ha ta cJ cI (sM n b fl me st lk cm v nu) pt hd (tN t9) ps ru ty rf lks lo1 hi1 (nuQ t9 ty sp vb + d) cd pl (lN (dgv t9 (nuQ t9 ty sp vb) d))) := hD
                refine lv_aload_n hx hb dX7_number_167 rfl (lv_at hl 0 rfl) ?_
                refine va_get (D := D) (ci := 5) (C := RX7) (T := TX7) (N := 15) hx hb hts hinX7 hown hK hP 0 rfl rfl 11 (by decide) (hts (.fieldLink RX7 160 "NearRanksModel" "spot" "I") (by decide +kernel)) (fun _ h9 => h9) rfl dX7_number_168 ?_
                refine lv_iload_n hx hb dX7_number_171 rfl (lv_at hl 3 rfl) ?_
                refine wv_icmp_le (tgt := 190) hx hb (by omega) (by omega) dX7_number_172 (by decide) (fun c172 => ?_) (fun c172 => ?_)
                · skip
                  refine lv_iconst (v := nI 0) hx hb dX7_number_190 (by decide) ?_
                  have ew0_sp : ncP t9 ty sp vb = nuQ t9 ty sp vb + d := by unfold ncP; first | (rw [if_pos hs8, hE9]; done) | (rw [if_neg (by rw [hs8]; decide)]; done)
                  have ew0_pl : nmL t9 ty sp vb pl = pl := by unfold nmL; first | (rw [if_neg (by rw [hs8]; decide)]; done) | (rw [if_pos hs8, if_pos c124]; done) | (rw [if_pos hs8, if_neg (by rw [c124]; decide)]; unfold nuV; rw [hE9, Nat.add_sub_cancel_left]; done)
                  have ew0_gv : nmG t9 ty sp vb gv = lN (dgv t9 (nuQ t9 ty sp vb) d) := by unfold nmG; first | (rw [if_neg (by rw [hs8]; decide)]; done) | (rw [if_pos hs8, if_neg (by rw [c124]; decide)]; done) | (rw [if_pos hs8, if_pos c124]; unfold nuV; rw [hE9, Nat.add_sub_cancel_left]; first | (rw [if_pos c128]; done) | (rw [if_neg (by rw [c128]; decide)]; done))
                  exact wv_zretM (b := false) hx hb hr hlocks hP hD hS rfl (by first | (unfold nmO ncC; rw [hs8]; rfl) | (unfold nmO ncC; rw [hs8, hE9, decide_eq_false (by omega)]; rfl) | (unfold nmO ncC; rw [hs8, hE9, decide_eq_true (by omega), c183]; rfl)) (by rw [ew0_gv, ew0_pl, ew0_sp]) dX7_number_191
                · skip
                  refine lv_aload_n hx hb dX7_number_175 rfl (lv_at hl 0 rfl) ?_
                  refine lv_bipush (v := nI 48) hx hb dX7_number_176 (by decide) ?_
                  refine lv_bipush (v := nI 57) hx hb dX7_number_178 (by decide) ?_
                  refine wv_callPi (As := [.int (nI 48), .int (nI 57)]) (rest := []) ⟨hx, hb, hml, hown, hts⟩ (kX7_isAt l D mo sa pa ha ta cJ cI n b fl me st lk cm v nu pt hd t9 ps ru ty rf lks lo1 hi1 (nuQ t9 ty sp vb + d) cd pl (lN (dgv t9 (nuQ t9 ty sp vb) d)) 48 57 (by first | assumption | omega) (by first | assumption | omega) (by first | assumption | omega) (by first | assumption | omega) (by first | assumption | omega)) (cwV 2 hts gX7_number_X7_isAt rfl rfl rfl (by decide +kernel) ⟨Nat.le_of_ble_eq_true rfl, Nat.le_of_ble_eq_true rfl⟩) hK hN hP hS hA [0, 1, 2, 3, 4] [0, 1] rfl rfl 0 5 rfl rfl rfl rfl hl.1 rfl (Nat.le_of_ble_eq_true rfl) dX7_number_180 ⟨Nat.zero_le _, Nat.zero_le _⟩ (fun H locs hz9 hP hS => ?_)
                  refine wv_ifneB (tgt := 190) hx hb dX7_number_183 (by decide) (fun c183 => ?_) (fun c183 => ?_)
                  · skip
                    refine lv_iconst (v := nI 0) hx hb dX7_number_190 (by decide) ?_
                    have ew0_sp : ncP t9 ty sp vb = nuQ t9 ty sp vb + d := by unfold ncP; first | (rw [if_pos hs8, hE9]; done) | (rw [if_neg (by rw [hs8]; decide)]; done)
                    have ew0_pl : nmL t9 ty sp vb pl = pl := by unfold nmL; first | (rw [if_neg (by rw [hs8]; decide)]; done) | (rw [if_pos hs8, if_pos c124]; done) | (rw [if_pos hs8, if_neg (by rw [c124]; decide)]; unfold nuV; rw [hE9, Nat.add_sub_cancel_left]; done)
                    have ew0_gv : nmG t9 ty sp vb gv = lN (dgv t9 (nuQ t9 ty sp vb) d) := by unfold nmG; first | (rw [if_neg (by rw [hs8]; decide)]; done) | (rw [if_pos hs8, if_neg (by rw [c124]; decide)]; done) | (rw [if_pos hs8, if_pos c124]; unfold nuV; rw [hE9, Nat.add_sub_cancel_left]; first | (rw [if_pos c128]; done) | (rw [if_neg (by rw [c128]; decide)]; done))
                    exact wv_zretM (b := false) hx hb hr hlocks hP hD hS rfl (by first | (unfold nmO ncC; rw [hs8]; rfl) | (unfold nmO ncC; rw [hs8, hE9, decide_eq_false (by omega)]; rfl) | (unfold nmO ncC; rw [hs8, hE9, decide_eq_true (by omega), c183]; rfl)) (by rw [ew0_gv, ew0_pl, ew0_sp]) dX7_number_191
                  · skip
                    refine lv_iconst (v := nI 1) hx hb dX7_number_186 (by decide) ?_
                    refine lv_goto (tgt := 191) hx hb dX7_number_187 (by decide) ?_
                    have ew0_sp : ncP t9 ty sp vb = nuQ t9 ty sp vb + d := by unfold ncP; first | (rw [if_pos hs8, hE9]; done) | (rw [if_neg (by rw [hs8]; decide)]; done)
                    have ew0_pl : nmL t9 ty sp vb pl = pl := by unfold nmL; first | (rw [if_neg (by rw [hs8]; decide)]; done) | (rw [if_pos hs8, if_pos c124]; done) | (rw [if_pos hs8, if_neg (by rw [c124]; decide)]; unfold nuV; rw [hE9, Nat.add_sub_cancel_left]; done)
                    have ew0_gv : nmG t9 ty sp vb gv = lN (dgv t9 (nuQ t9 ty sp vb) d) := by unfold nmG; first | (rw [if_neg (by rw [hs8]; decide)]; done) | (rw [if_pos hs8, if_neg (by rw [c124]; decide)]; done) | (rw [if_pos hs8, if_pos c124]; unfold nuV; rw [hE9, Nat.add_sub_cancel_left]; first | (rw [if_pos c128]; done) | (rw [if_neg (by rw [c128]; decide)]; done))
                    exact wv_zretM (b := true) hx hb hr hlocks hP hD hS rfl (by first | (unfold nmO ncC; rw [hs8]; rfl) | (unfold nmO ncC; rw [hs8, hE9, decide_eq_false (by omega)]; rfl) | (unfold nmO ncC; rw [hs8, hE9, decide_eq_true (by omega), c183]; rfl)) (by rw [ew0_gv, ew0_pl, ew0_sp]) dX7_number_191
              · skip
                refine lv_lload hx hb dX7_number_131 (lv_at hl 4 rfl) ?_
                refine lv_lneg hx hb dX7_number_133 ?_
                refine lv_goto (tgt := 146) hx hb dX7_number_134 (by decide) ?_
                refine va_put (D := D) (ci := 5) (v := .long (-(lN (dgv t9 (nuQ t9 ty sp vb) d)))) (ty := .long) (C := RX7) (T := TX7) (N := 15) hx hb hts hinX7 tyX7 tyX7_ok nmX7 hown hK hP hD hS 0 rfl rfl 14 (by decide) (hts (.fieldLink RX7 182 "NearRanksModel" "given" "J") (by decide +kernel)) (fun _ h9 => h9) rfl (by decide +kernel) rfl rfl (Nat.le_of_ble_eq_true rfl) dX7_number_146 (fun H locs hP hD hS => ?_)
                have hP : va_P D vwCl (ModC mo sa pa ha ta cJ cI (sM n b fl me st lk cm v nu) pt hd (tN t9) ps ru ty rf lks lo1 hi1 (nuQ t9 ty sp vb + d) cd pl (-(lN (dgv t9 (nuQ t9 ty sp vb) d)))) H := hP
                have hD : va_D _ (ModC mo sa pa ha ta cJ cI (sM n b fl me st lk cm v nu) pt hd (tN t9) ps ru ty rf lks lo1 hi1 (nuQ t9 ty sp vb + d) cd pl (-(lN (dgv t9 (nuQ t9 ty sp vb) d)))) := hD
                refine lv_aload_n hx hb dX7_number_149 rfl (lv_at hl 0 rfl) ?_
                refine lv_iload_n hx hb dX7_number_150 rfl (lv_at hl 1 rfl) ?_
                refine wv_ifeqB (tgt := 161) hx hb dX7_number_151 (by decide) (fun c151 => by exfalso; rw [c124] at c151; cases c151) (fun c151 => ?_)
                refine lv_aload_n hx hb dX7_number_154 rfl (lv_at hl 0 rfl) ?_
                refine va_get (D := D) (ci := 5) (C := RX7) (T := TX7) (N := 15) hx hb hts hinX7 hown hK hP 0 rfl rfl 13 (by decide) (hts (.fieldLink RX7 186 "NearRanksModel" "place" "I") (by decide +kernel)) (fun _ h9 => h9) rfl dX7_number_155 ?_
                refine lv_goto (tgt := 164) hx hb dX7_number_158 (by decide) ?_
                refine va_put (D := D) (ci := 5) (v := .int pl) (ty := .int) (C := RX7) (T := TX7) (N := 15) hx hb hts hinX7 tyX7 tyX7_ok nmX7 hown hK hP hD hS 0 rfl rfl 13 (by decide) (hts (.fieldLink RX7 186 "NearRanksModel" "place" "I") (by decide +kernel)) (fun _ h9 => h9) rfl (by decide +kernel) rfl rfl (Nat.le_of_ble_eq_true rfl) dX7_number_164 (fun H locs hP hD hS => ?_)
                have hP : va_P D vwCl (ModC mo sa pa ha ta cJ cI (sM n b fl me st lk cm v nu) pt hd (tN t9) ps ru ty rf lks lo1 hi1 (nuQ t9 ty sp vb + d) cd pl (-(lN (dgv t9 (nuQ t9 ty sp vb) d)))) H := hP
                have hD : va_D _ (ModC mo sa pa ha ta cJ cI (sM n b fl me st lk cm v nu) pt hd (tN t9) ps ru ty rf lks lo1 hi1 (nuQ t9 ty sp vb + d) cd pl (-(lN (dgv t9 (nuQ t9 ty sp vb) d)))) := hD
                refine lv_aload_n hx hb dX7_number_167 rfl (lv_at hl 0 rfl) ?_
                refine va_get (D := D) (ci := 5) (C := RX7) (T := TX7) (N := 15) hx hb hts hinX7 hown hK hP 0 rfl rfl 11 (by decide) (hts (.fieldLink RX7 160 "NearRanksModel" "spot" "I") (by decide +kernel)) (fun _ h9 => h9) rfl dX7_number_168 ?_
                refine lv_iload_n hx hb dX7_number_171 rfl (lv_at hl 3 rfl) ?_
                refine wv_icmp_le (tgt := 190) hx hb (by omega) (by omega) dX7_number_172 (by decide) (fun c172 => ?_) (fun c172 => ?_)
                · skip
                  refine lv_iconst (v := nI 0) hx hb dX7_number_190 (by decide) ?_
                  have ew0_sp : ncP t9 ty sp vb = nuQ t9 ty sp vb + d := by unfold ncP; first | (rw [if_pos hs8, hE9]; done) | (rw [if_neg (by rw [hs8]; decide)]; done)
                  have ew0_pl : nmL t9 ty sp vb pl = pl := by unfold nmL; first | (rw [if_neg (by rw [hs8]; decide)]; done) | (rw [if_pos hs8, if_pos c124]; done) | (rw [if_pos hs8, if_neg (by rw [c124]; decide)]; unfold nuV; rw [hE9, Nat.add_sub_cancel_left]; done)
                  have ew0_gv : nmG t9 ty sp vb gv = -(lN (dgv t9 (nuQ t9 ty sp vb) d)) := by unfold nmG; first | (rw [if_neg (by rw [hs8]; decide)]; done) | (rw [if_pos hs8, if_neg (by rw [c124]; decide)]; done) | (rw [if_pos hs8, if_pos c124]; unfold nuV; rw [hE9, Nat.add_sub_cancel_left]; first | (rw [if_pos c128]; done) | (rw [if_neg (by rw [c128]; decide)]; done))
                  exact wv_zretM (b := false) hx hb hr hlocks hP hD hS rfl (by first | (unfold nmO ncC; rw [hs8]; rfl) | (unfold nmO ncC; rw [hs8, hE9, decide_eq_false (by omega)]; rfl) | (unfold nmO ncC; rw [hs8, hE9, decide_eq_true (by omega), c183]; rfl)) (by rw [ew0_gv, ew0_pl, ew0_sp]) dX7_number_191
                · skip
                  refine lv_aload_n hx hb dX7_number_175 rfl (lv_at hl 0 rfl) ?_
                  refine lv_bipush (v := nI 48) hx hb dX7_number_176 (by decide) ?_
                  refine lv_bipush (v := nI 57) hx hb dX7_number_178 (by decide) ?_
                  refine wv_callPi (As := [.int (nI 48), .int (nI 57)]) (rest := []) ⟨hx, hb, hml, hown, hts⟩ (kX7_isAt l D mo sa pa ha ta cJ cI n b fl me st lk cm v nu pt hd t9 ps ru ty rf lks lo1 hi1 (nuQ t9 ty sp vb + d) cd pl (-(lN (dgv t9 (nuQ t9 ty sp vb) d))) 48 57 (by first | assumption | omega) (by first | assumption | omega) (by first | assumption | omega) (by first | assumption | omega) (by first | assumption | omega)) (cwV 2 hts gX7_number_X7_isAt rfl rfl rfl (by decide +kernel) ⟨Nat.le_of_ble_eq_true rfl, Nat.le_of_ble_eq_true rfl⟩) hK hN hP hS hA [0, 1, 2, 3, 4] [0, 1] rfl rfl 0 5 rfl rfl rfl rfl hl.1 rfl (Nat.le_of_ble_eq_true rfl) dX7_number_180 ⟨Nat.zero_le _, Nat.zero_le _⟩ (fun H locs hz9 hP hS => ?_)
                  refine wv_ifneB (tgt := 190) hx hb dX7_number_183 (by decide) (fun c183 => ?_) (fun c183 => ?_)
                  · skip
                    refine lv_iconst (v := nI 0) hx hb dX7_number_190 (by decide) ?_
                    have ew0_sp : ncP t9 ty sp vb = nuQ t9 ty sp vb + d := by unfold ncP; first | (rw [if_pos hs8, hE9]; done) | (rw [if_neg (by rw [hs8]; decide)]; done)
                    have ew0_pl : nmL t9 ty sp vb pl = pl := by unfold nmL; first | (rw [if_neg (by rw [hs8]; decide)]; done) | (rw [if_pos hs8, if_pos c124]; done) | (rw [if_pos hs8, if_neg (by rw [c124]; decide)]; unfold nuV; rw [hE9, Nat.add_sub_cancel_left]; done)
                    have ew0_gv : nmG t9 ty sp vb gv = -(lN (dgv t9 (nuQ t9 ty sp vb) d)) := by unfold nmG; first | (rw [if_neg (by rw [hs8]; decide)]; done) | (rw [if_pos hs8, if_neg (by rw [c124]; decide)]; done) | (rw [if_pos hs8, if_pos c124]; unfold nuV; rw [hE9, Nat.add_sub_cancel_left]; first | (rw [if_pos c128]; done) | (rw [if_neg (by rw [c128]; decide)]; done))
                    exact wv_zretM (b := false) hx hb hr hlocks hP hD hS rfl (by first | (unfold nmO ncC; rw [hs8]; rfl) | (unfold nmO ncC; rw [hs8, hE9, decide_eq_false (by omega)]; rfl) | (unfold nmO ncC; rw [hs8, hE9, decide_eq_true (by omega), c183]; rfl)) (by rw [ew0_gv, ew0_pl, ew0_sp]) dX7_number_191
                  · skip
                    refine lv_iconst (v := nI 1) hx hb dX7_number_186 (by decide) ?_
                    refine lv_goto (tgt := 191) hx hb dX7_number_187 (by decide) ?_
                    have ew0_sp : ncP t9 ty sp vb = nuQ t9 ty sp vb + d := by unfold ncP; first | (rw [if_pos hs8, hE9]; done) | (rw [if_neg (by rw [hs8]; decide)]; done)
                    have ew0_pl : nmL t9 ty sp vb pl = pl := by unfold nmL; first | (rw [if_neg (by rw [hs8]; decide)]; done) | (rw [if_pos hs8, if_pos c124]; done) | (rw [if_pos hs8, if_neg (by rw [c124]; decide)]; unfold nuV; rw [hE9, Nat.add_sub_cancel_left]; done)
                    have ew0_gv : nmG t9 ty sp vb gv = -(lN (dgv t9 (nuQ t9 ty sp vb) d)) := by unfold nmG; first | (rw [if_neg (by rw [hs8]; decide)]; done) | (rw [if_pos hs8, if_neg (by rw [c124]; decide)]; done) | (rw [if_pos hs8, if_pos c124]; unfold nuV; rw [hE9, Nat.add_sub_cancel_left]; first | (rw [if_pos c128]; done) | (rw [if_neg (by rw [c128]; decide)]; done))
                    exact wv_zretM (b := true) hx hb hr hlocks hP hD hS rfl (by first | (unfold nmO ncC; rw [hs8]; rfl) | (unfold nmO ncC; rw [hs8, hE9, decide_eq_false (by omega)]; rfl) | (unfold nmO ncC; rw [hs8, hE9, decide_eq_true (by omega), c183]; rfl)) (by rw [ew0_gv, ew0_pl, ew0_sp]) dX7_number_191
          · skip
            have hdi := isA_i c72
            refine lv_aload_n hx hb dX7_number_75 rfl (lv_at hl 0 rfl) ?_
            refine va_get (D := D) (ci := 5) (C := RX7) (T := TX7) (N := 15) hx hb hts hinX7 hown hK hP 0 rfl rfl 11 (by decide) (hts (.fieldLink RX7 160 "NearRanksModel" "spot" "I") (by decide +kernel)) (fun _ h9 => h9) rfl dX7_number_76 ?_
            refine lv_iload_n hx hb dX7_number_79 rfl (lv_at hl 3 rfl) ?_
            refine lv_isub hx hb dX7_number_80 ?_
            refine wv_ti (pk_sub (by omega)) ?_
            refine lv_bipush (v := nI 9) hx hb dX7_number_81 (by decide) ?_
            refine wv_icmp_ge (tgt := 122) hx hb (by omega) (by omega) dX7_number_83 (by decide) (fun c83 => ?_) (fun c83 => ?_)
            · skip
              have hE9 : nuE t9 ty sp vb = nuQ t9 ty sp vb + d := by rw [hrn, show 9 - d = 0 by omega]; rfl
              refine lv_aload_n hx hb dX7_number_122 rfl (lv_at hl 0 rfl) ?_
              refine lv_iload_n hx hb dX7_number_123 rfl (lv_at hl 1 rfl) ?_
              refine wv_ifeqB (tgt := 142) hx hb dX7_number_124 (by decide) (fun c124 => ?_) (fun c124 => ?_)
              · skip
                refine lv_aload_n hx hb dX7_number_142 rfl (lv_at hl 0 rfl) ?_
                refine va_get (D := D) (ci := 5) (C := RX7) (T := TX7) (N := 15) hx hb hts hinX7 hown hK hP 0 rfl rfl 14 (by decide) (hts (.fieldLink RX7 182 "NearRanksModel" "given" "J") (by decide +kernel)) (fun _ h9 => h9) rfl dX7_number_143 ?_
                refine va_put (D := D) (ci := 5) (v := .long gv) (ty := .long) (C := RX7) (T := TX7) (N := 15) hx hb hts hinX7 tyX7 tyX7_ok nmX7 hown hK hP hD hS 0 rfl rfl 14 (by decide) (hts (.fieldLink RX7 182 "NearRanksModel" "given" "J") (by decide +kernel)) (fun _ h9 => h9) rfl (by decide +kernel) rfl rfl (Nat.le_of_ble_eq_true rfl) dX7_number_146 (fun H locs hP hD hS => ?_)
                have hP : va_P D vwCl (ModC mo sa pa ha ta cJ cI (sM n b fl me st lk cm v nu) pt hd (tN t9) ps ru ty rf lks lo1 hi1 (nuQ t9 ty sp vb + d) cd pl gv) H := hP
                have hD : va_D _ (ModC mo sa pa ha ta cJ cI (sM n b fl me st lk cm v nu) pt hd (tN t9) ps ru ty rf lks lo1 hi1 (nuQ t9 ty sp vb + d) cd pl gv) := hD
                refine lv_aload_n hx hb dX7_number_149 rfl (lv_at hl 0 rfl) ?_
                refine lv_iload_n hx hb dX7_number_150 rfl (lv_at hl 1 rfl) ?_
                refine wv_ifeqB (tgt := 161) hx hb dX7_number_151 (by decide) (fun c151 => ?_) (fun c151 => by exfalso; rw [c124] at c151; cases c151)
                refine lv_lload hx hb dX7_number_161 (lv_at hl 4 rfl) ?_
                refine lv_l2i (v := nI (dgv t9 (nuQ t9 ty sp vb) d)) hx hb dX7_number_163 (lN_i _) ?_
                refine va_put (D := D) (ci := 5) (v := .int (nI (dgv t9 (nuQ t9 ty sp vb) d))) (ty := .int) (C := RX7) (T := TX7) (N := 15) hx hb hts hinX7 tyX7 tyX7_ok nmX7 hown hK hP hD hS 0 rfl rfl 13 (by decide) (hts (.fieldLink RX7 186 "NearRanksModel" "place" "I") (by decide +kernel)) (fun _ h9 => h9) rfl (by decide +kernel) rfl rfl (Nat.le_of_ble_eq_true rfl) dX7_number_164 (fun H locs hP hD hS => ?_)
                have hP : va_P D vwCl (ModC mo sa pa ha ta cJ cI (sM n b fl me st lk cm v nu) pt hd (tN t9) ps ru ty rf lks lo1 hi1 (nuQ t9 ty sp vb + d) cd (nI (dgv t9 (nuQ t9 ty sp vb) d)) gv) H := hP
                have hD : va_D _ (ModC mo sa pa ha ta cJ cI (sM n b fl me st lk cm v nu) pt hd (tN t9) ps ru ty rf lks lo1 hi1 (nuQ t9 ty sp vb + d) cd (nI (dgv t9 (nuQ t9 ty sp vb) d)) gv) := hD
                refine lv_aload_n hx hb dX7_number_167 rfl (lv_at hl 0 rfl) ?_
                refine va_get (D := D) (ci := 5) (C := RX7) (T := TX7) (N := 15) hx hb hts hinX7 hown hK hP 0 rfl rfl 11 (by decide) (hts (.fieldLink RX7 160 "NearRanksModel" "spot" "I") (by decide +kernel)) (fun _ h9 => h9) rfl dX7_number_168 ?_
                refine lv_iload_n hx hb dX7_number_171 rfl (lv_at hl 3 rfl) ?_
                refine wv_icmp_le (tgt := 190) hx hb (by omega) (by omega) dX7_number_172 (by decide) (fun c172 => ?_) (fun c172 => ?_)
                · skip
                  refine lv_iconst (v := nI 0) hx hb dX7_number_190 (by decide) ?_
                  have ew0_sp : ncP t9 ty sp vb = nuQ t9 ty sp vb + d := by unfold ncP; first | (rw [if_pos hs8, hE9]; done) | (rw [if_neg (by rw [hs8]; decide)]; done)
                  have ew0_pl : nmL t9 ty sp vb pl = nI (dgv t9 (nuQ t9 ty sp vb) d) := by unfold nmL; first | (rw [if_neg (by rw [hs8]; decide)]; done) | (rw [if_pos hs8, if_pos c124]; done) | (rw [if_pos hs8, if_neg (by rw [c124]; decide)]; unfold nuV; rw [hE9, Nat.add_sub_cancel_left]; done)
                  have ew0_gv : nmG t9 ty sp vb gv = gv := by unfold nmG; first | (rw [if_neg (by rw [hs8]; decide)]; done) | (rw [if_pos hs8, if_neg (by rw [c124]; decide)]; done) | (rw [if_pos hs8, if_pos c124]; unfold nuV; rw [hE9, Nat.add_sub_cancel_left]; first | (rw [if_pos c128]; done) | (rw [if_neg (by rw [c128]; decide)]; done))
                  exact wv_zretM (b := false) hx hb hr hlocks hP hD hS rfl (by first | (unfold nmO ncC; rw [hs8]; rfl) | (unfold nmO ncC; rw [hs8, hE9, decide_eq_false (by omega)]; rfl) | (unfold nmO ncC; rw [hs8, hE9, decide_eq_true (by omega), c183]; rfl)) (by rw [ew0_gv, ew0_pl, ew0_sp]) dX7_number_191
                · skip
                  refine lv_aload_n hx hb dX7_number_175 rfl (lv_at hl 0 rfl) ?_
                  refine lv_bipush (v := nI 48) hx hb dX7_number_176 (by decide) ?_
                  refine lv_bipush (v := nI 57) hx hb dX7_number_178 (by decide) ?_
                  refine wv_callPi (As := [.int (nI 48), .int (nI 57)]) (rest := []) ⟨hx, hb, hml, hown, hts⟩ (kX7_isAt l D mo sa pa ha ta cJ cI n b fl me st lk cm v nu pt hd t9 ps ru ty rf lks lo1 hi1 (nuQ t9 ty sp vb + d) cd (nI (dgv t9 (nuQ t9 ty sp vb) d)) gv 48 57 (by first | assumption | omega) (by first | assumption | omega) (by first | assumption | omega) (by first | assumption | omega) (by first | assumption | omega)) (cwV 2 hts gX7_number_X7_isAt rfl rfl rfl (by decide +kernel) ⟨Nat.le_of_ble_eq_true rfl, Nat.le_of_ble_eq_true rfl⟩) hK hN hP hS hA [0, 1, 2, 3, 4] [0, 1] rfl rfl 0 5 rfl rfl rfl rfl hl.1 rfl (Nat.le_of_ble_eq_true rfl) dX7_number_180 ⟨Nat.zero_le _, Nat.zero_le _⟩ (fun H locs hz9 hP hS => ?_)
                  refine wv_ifneB (tgt := 190) hx hb dX7_number_183 (by decide) (fun c183 => ?_) (fun c183 => ?_)
                  · skip
                    refine lv_iconst (v := nI 0) hx hb dX7_number_190 (by decide) ?_
                    have ew0_sp : ncP t9 ty sp vb = nuQ t9 ty sp vb + d := by unfold ncP; first | (rw [if_pos hs8, hE9]; done) | (rw [if_neg (by rw [hs8]; decide)]; done)
                    have ew0_pl : nmL t9 ty sp vb pl = nI (dgv t9 (nuQ t9 ty sp vb) d) := by unfold nmL; first | (rw [if_neg (by rw [hs8]; decide)]; done) | (rw [if_pos hs8, if_pos c124]; done) | (rw [if_pos hs8, if_neg (by rw [c124]; decide)]; unfold nuV; rw [hE9, Nat.add_sub_cancel_left]; done)
                    have ew0_gv : nmG t9 ty sp vb gv = gv := by unfold nmG; first | (rw [if_neg (by rw [hs8]; decide)]; done) | (rw [if_pos hs8, if_neg (by rw [c124]; decide)]; done) | (rw [if_pos hs8, if_pos c124]; unfold nuV; rw [hE9, Nat.add_sub_cancel_left]; first | (rw [if_pos c128]; done) | (rw [if_neg (by rw [c128]; decide)]; done))
                    exact wv_zretM (b := false) hx hb hr hlocks hP hD hS rfl (by first | (unfold nmO ncC; rw [hs8]; rfl) | (unfold nmO ncC; rw [hs8, hE9, decide_eq_false (by omega)]; rfl) | (unfold nmO ncC; rw [hs8, hE9, decide_eq_true (by omega), c183]; rfl)) (by rw [ew0_gv, ew0_pl, ew0_sp]) dX7_number_191
                  · skip
                    refine lv_iconst (v := nI 1) hx hb dX7_number_186 (by decide) ?_
                    refine lv_goto (tgt := 191) hx hb dX7_number_187 (by decide) ?_
                    have ew0_sp : ncP t9 ty sp vb = nuQ t9 ty sp vb + d := by unfold ncP; first | (rw [if_pos hs8, hE9]; done) | (rw [if_neg (by rw [hs8]; decide)]; done)
                    have ew0_pl : nmL t9 ty sp vb pl = nI (dgv t9 (nuQ t9 ty sp vb) d) := by unfold nmL; first | (rw [if_neg (by rw [hs8]; decide)]; done) | (rw [if_pos hs8, if_pos c124]; done) | (rw [if_pos hs8, if_neg (by rw [c124]; decide)]; unfold nuV; rw [hE9, Nat.add_sub_cancel_left]; done)
                    have ew0_gv : nmG t9 ty sp vb gv = gv := by unfold nmG; first | (rw [if_neg (by rw [hs8]; decide)]; done) | (rw [if_pos hs8, if_neg (by rw [c124]; decide)]; done) | (rw [if_pos hs8, if_pos c124]; unfold nuV; rw [hE9, Nat.add_sub_cancel_left]; first | (rw [if_pos c128]; done) | (rw [if_neg (by rw [c128]; decide)]; done))
                    exact wv_zretM (b := true) hx hb hr hlocks hP hD hS rfl (by first | (unfold nmO ncC; rw [hs8]; rfl) | (unfold nmO ncC; rw [hs8, hE9, decide_eq_false (by omega)]; rfl) | (unfold nmO ncC; rw [hs8, hE9, decide_eq_true (by omega), c183]; rfl)) (by rw [ew0_gv, ew0_pl, ew0_sp]) dX7_number_191
              · skip
                refine lv_iload_n hx hb dX7_number_127 rfl (lv_at hl 2 rfl) ?_
                refine wv_ifeqB (tgt := 137) hx hb dX7_number_128 (by decide) (fun c128 => ?_) (fun c128 => ?_)
                · skip
                  refine lv_lload hx hb dX7_number_137 (lv_at hl 4 rfl) ?_
                  refine lv_goto (tgt := 146) hx hb dX7_number_139 (by decide) ?_
                  refine va_put (D := D) (ci := 5) (v := .long (lN (dgv t9 (nuQ t9 ty sp vb) d))) (ty := .long) (C := RX7) (T := TX7) (N := 15) hx hb hts hinX7 tyX7 tyX7_ok nmX7 hown hK hP hD hS 0 rfl rfl 14 (by decide) (hts (.fieldLink RX7 182 "NearRanksModel" "given" "J") (by decide +kernel)) (fun _ h9 => h9) rfl (by decide +kernel) rfl rfl (Nat.le_of_ble_eq_true rfl) dX7_number_146 (fun H locs hP hD hS => ?_)
                  have hP : va_P D vwCl (ModC mo sa pa ha ta cJ cI (sM n b fl me st lk cm v nu) pt hd (tN t9) ps ru ty rf lks lo1 hi1 (nuQ t9 ty sp vb + d) cd pl (lN (dgv t9 (nuQ t9 ty sp vb) d))) H := hP
                  have hD : va_D _ (ModC mo sa pa ha ta cJ cI (sM n b fl me st lk cm v nu) pt hd (tN t9) ps ru ty rf lks lo1 hi1 (nuQ t9 ty sp vb + d) cd pl (lN (dgv t9 (nuQ t9 ty sp vb) d))) := hD
                  refine lv_aload_n hx hb dX7_number_149 rfl (lv_at hl 0 rfl) ?_
                  refine lv_iload_n hx hb dX7_number_150 rfl (lv_at hl 1 rfl) ?_
                  refine wv_ifeqB (tgt := 161) hx hb dX7_number_151 (by decide) (fun c151 => by exfalso; rw [c124] at c151; cases c151) (fun c151 => ?_)
                  refine lv_aload_n hx hb dX7_number_154 rfl (lv_at hl 0 rfl) ?_
                  refine va_get (D := D) (ci := 5) (C := RX7) (T := TX7) (N := 15) hx hb hts hinX7 hown hK hP 0 rfl rfl 13 (by decide) (hts (.fieldLink RX7 186 "NearRanksModel" "place" "I") (by decide +kernel)) (fun _ h9 => h9) rfl dX7_number_155 ?_
                  refine lv_goto (tgt := 164) hx hb dX7_number_158 (by decide) ?_
                  refine va_put (D := D) (ci := 5) (v := .int pl) (ty := .int) (C := RX7) (T := TX7) (N := 15) hx hb hts hinX7 tyX7 tyX7_ok nmX7 hown hK hP hD hS 0 rfl rfl 13 (by decide) (hts (.fieldLink RX7 186 "NearRanksModel" "place" "I") (by decide +kernel)) (fun _ h9 => h9) rfl (by decide +kernel) rfl rfl (Nat.le_of_ble_eq_true rfl) dX7_number_164 (fun H locs hP hD hS => ?_)
                  have hP : va_P D vwCl (ModC mo sa pa ha ta cJ cI (sM n b fl me st lk cm v nu) pt hd (tN t9) ps ru ty rf lks lo1 hi1 (nuQ t9 ty sp vb + d) cd pl (lN (dgv t9 (nuQ t9 ty sp vb) d))) H := hP
                  have hD : va_D _ (ModC mo sa pa ha ta cJ cI (sM n b fl me st lk cm v nu) pt hd (tN t9) ps ru ty rf lks lo1 hi1 (nuQ t9 ty sp vb + d) cd pl (lN (dgv t9 (nuQ t9 ty sp vb) d))) := hD
                  refine lv_aload_n hx hb dX7_number_167 rfl (lv_at hl 0 rfl) ?_
                  refine va_get (D := D) (ci := 5) (C := RX7) (T := TX7) (N := 15) hx hb hts hinX7 hown hK hP 0 rfl rfl 11 (by decide) (hts (.fieldLink RX7 160 "NearRanksModel" "spot" "I") (by decide +kernel)) (fun _ h9 => h9) rfl dX7_number_168 ?_
                  refine lv_iload_n hx hb dX7_number_171 rfl (lv_at hl 3 rfl) ?_
                  refine wv_icmp_le (tgt := 190) hx hb (by omega) (by omega) dX7_number_172 (by decide) (fun c172 => ?_) (fun c172 => ?_)
                  · skip
                    refine lv_iconst (v := nI 0) hx hb dX7_number_190 (by decide) ?_
                    have ew0_sp : ncP t9 ty sp vb = nuQ t9 ty sp vb + d := by unfold ncP; first | (rw [if_pos hs8, hE9]; done) | (rw [if_neg (by rw [hs8]; decide)]; done)
                    have ew0_pl : nmL t9 ty sp vb pl = pl := by unfold nmL; first | (rw [if_neg (by rw [hs8]; decide)]; done) | (rw [if_pos hs8, if_pos c124]; done) | (rw [if_pos hs8, if_neg (by rw [c124]; decide)]; unfold nuV; rw [hE9, Nat.add_sub_cancel_left]; done)
                    have ew0_gv : nmG t9 ty sp vb gv = lN (dgv t9 (nuQ t9 ty sp vb) d) := by unfold nmG; first | (rw [if_neg (by rw [hs8]; decide)]; done) | (rw [if_pos hs8, if_neg (by rw [c124]; decide)]; done) | (rw [if_pos hs8, if_pos c124]; unfold nuV; rw [hE9, Nat.add_sub_cancel_left]; first | (rw [if_pos c128]; done) | (rw [if_neg (by rw [c128]; decide)]; done))
                    exact wv_zretM (b := false) hx hb hr hlocks hP hD hS rfl (by first | (unfold nmO ncC; rw [hs8]; rfl) | (unfold nmO ncC; rw [hs8, hE9, decide_eq_false (by omega)]; rfl) | (unfold nmO ncC; rw [hs8, hE9, decide_eq_true (by omega), c183]; rfl)) (by rw [ew0_gv, ew0_pl, ew0_sp]) dX7_number_191
                  · skip
                    refine lv_aload_n hx hb dX7_number_175 rfl (lv_at hl 0 rfl) ?_
                    refine lv_bipush (v := nI 48) hx hb dX7_number_176 (by decide) ?_
                    refine lv_bipush (v := nI 57) hx hb dX7_number_178 (by decide) ?_
                    refine wv_callPi (As := [.int (nI 48), .int (nI 57)]) (rest := []) ⟨hx, hb, hml, hown, hts⟩ (kX7_isAt l D mo sa pa ha ta cJ cI n b fl me st lk cm v nu pt hd t9 ps ru ty rf lks lo1 hi1 (nuQ t9 ty sp vb + d) cd pl (lN (dgv t9 (nuQ t9 ty sp vb) d)) 48 57 (by first | assumption | omega) (by first | assumption | omega) (by first | assumption | omega) (by first | assumption | omega) (by first | assumption | omega)) (cwV 2 hts gX7_number_X7_isAt rfl rfl rfl (by decide +kernel) ⟨Nat.le_of_ble_eq_true rfl, Nat.le_of_ble_eq_true rfl⟩) hK hN hP hS hA [0, 1, 2, 3, 4] [0, 1] rfl rfl 0 5 rfl rfl rfl rfl hl.1 rfl (Nat.le_of_ble_eq_true rfl) dX7_number_180 ⟨Nat.zero_le _, Nat.zero_le _⟩ (fun H locs hz9 hP hS => ?_)
                    refine wv_ifneB (tgt := 190) hx hb dX7_number_183 (by decide) (fun c183 => ?_) (fun c183 => ?_)
                    · skip
                      refine lv_iconst (v := nI 0) hx hb dX7_number_190 (by decide) ?_
                      have ew0_sp : ncP t9 ty sp vb = nuQ t9 ty sp vb + d := by unfold ncP; first | (rw [if_pos hs8, hE9]; done) | (rw [if_neg (by rw [hs8]; decide)]; done)
                      have ew0_pl : nmL t9 ty sp vb pl = pl := by unfold nmL; first | (rw [if_neg (by rw [hs8]; decide)]; done) | (rw [if_pos hs8, if_pos c124]; done) | (rw [if_pos hs8, if_neg (by rw [c124]; decide)]; unfold nuV; rw [hE9, Nat.add_sub_cancel_left]; done)
                      have ew0_gv : nmG t9 ty sp vb gv = lN (dgv t9 (nuQ t9 ty sp vb) d) := by unfold nmG; first | (rw [if_neg (by rw [hs8]; decide)]; done) | (rw [if_pos hs8, if_neg (by rw [c124]; decide)]; done) | (rw [if_pos hs8, if_pos c124]; unfold nuV; rw [hE9, Nat.add_sub_cancel_left]; first | (rw [if_pos c128]; done) | (rw [if_neg (by rw [c128]; decide)]; done))
                      exact wv_zretM (b := false) hx hb hr hlocks hP hD hS rfl (by first | (unfold nmO ncC; rw [hs8]; rfl) | (unfold nmO ncC; rw [hs8, hE9, decide_eq_false (by omega)]; rfl) | (unfold nmO ncC; rw [hs8, hE9, decide_eq_true (by omega), c183]; rfl)) (by rw [ew0_gv, ew0_pl, ew0_sp]) dX7_number_191
                    · skip
                      refine lv_iconst (v := nI 1) hx hb dX7_number_186 (by decide) ?_
                      refine lv_goto (tgt := 191) hx hb dX7_number_187 (by decide) ?_
                      have ew0_sp : ncP t9 ty sp vb = nuQ t9 ty sp vb + d := by unfold ncP; first | (rw [if_pos hs8, hE9]; done) | (rw [if_neg (by rw [hs8]; decide)]; done)
                      have ew0_pl : nmL t9 ty sp vb pl = pl := by unfold nmL; first | (rw [if_neg (by rw [hs8]; decide)]; done) | (rw [if_pos hs8, if_pos c124]; done) | (rw [if_pos hs8, if_neg (by rw [c124]; decide)]; unfold nuV; rw [hE9, Nat.add_sub_cancel_left]; done)
                      have ew0_gv : nmG t9 ty sp vb gv = lN (dgv t9 (nuQ t9 ty sp vb) d) := by unfold nmG; first | (rw [if_neg (by rw [hs8]; decide)]; done) | (rw [if_pos hs8, if_neg (by rw [c124]; decide)]; done) | (rw [if_pos hs8, if_pos c124]; unfold nuV; rw [hE9, Nat.add_sub_cancel_left]; first | (rw [if_pos c128]; done) | (rw [if_neg (by rw [c128]; decide)]; done))
                      exact wv_zretM (b := true) hx hb hr hlocks hP hD hS rfl (by first | (unfold nmO ncC; rw [hs8]; rfl) | (unfold nmO ncC; rw [hs8, hE9, decide_eq_false (by omega)]; rfl) | (unfold nmO ncC; rw [hs8, hE9, decide_eq_true (by omega), c183]; rfl)) (by rw [ew0_gv, ew0_pl, ew0_sp]) dX7_number_191
                · skip
                  refine lv_lload hx hb dX7_number_131 (lv_at hl 4 rfl) ?_
                  refine lv_lneg hx hb dX7_number_133 ?_
                  refine lv_goto (tgt := 146) hx hb dX7_number_134 (by decide) ?_
                  refine va_put (D := D) (ci := 5) (v := .long (-(lN (dgv t9 (nuQ t9 ty sp vb) d)))) (ty := .long) (C := RX7) (T := TX7) (N := 15) hx hb hts hinX7 tyX7 tyX7_ok nmX7 hown hK hP hD hS 0 rfl rfl 14 (by decide) (hts (.fieldLink RX7 182 "NearRanksModel" "given" "J") (by decide +kernel)) (fun _ h9 => h9) rfl (by decide +kernel) rfl rfl (Nat.le_of_ble_eq_true rfl) dX7_number_146 (fun H locs hP hD hS => ?_)
                  have hP : va_P D vwCl (ModC mo sa pa ha ta cJ cI (sM n b fl me st lk cm v nu) pt hd (tN t9) ps ru ty rf lks lo1 hi1 (nuQ t9 ty sp vb + d) cd pl (-(lN (dgv t9 (nuQ t9 ty sp vb) d)))) H := hP
                  have hD : va_D _ (ModC mo sa pa ha ta cJ cI (sM n b fl me st lk cm v nu) pt hd (tN t9) ps ru ty rf lks lo1 hi1 (nuQ t9 ty sp vb + d) cd pl (-(lN (dgv t9 (nuQ t9 ty sp vb) d)))) := hD
                  refine lv_aload_n hx hb dX7_number_149 rfl (lv_at hl 0 rfl) ?_
                  refine lv_iload_n hx hb dX7_number_150 rfl (lv_at hl 1 rfl) ?_
                  refine wv_ifeqB (tgt := 161) hx hb dX7_number_151 (by decide) (fun c151 => by exfalso; rw [c124] at c151; cases c151) (fun c151 => ?_)
                  refine lv_aload_n hx hb dX7_number_154 rfl (lv_at hl 0 rfl) ?_
                  refine va_get (D := D) (ci := 5) (C := RX7) (T := TX7) (N := 15) hx hb hts hinX7 hown hK hP 0 rfl rfl 13 (by decide) (hts (.fieldLink RX7 186 "NearRanksModel" "place" "I") (by decide +kernel)) (fun _ h9 => h9) rfl dX7_number_155 ?_
                  refine lv_goto (tgt := 164) hx hb dX7_number_158 (by decide) ?_
                  refine va_put (D := D) (ci := 5) (v := .int pl) (ty := .int) (C := RX7) (T := TX7) (N := 15) hx hb hts hinX7 tyX7 tyX7_ok nmX7 hown hK hP hD hS 0 rfl rfl 13 (by decide) (hts (.fieldLink RX7 186 "NearRanksModel" "place" "I") (by decide +kernel)) (fun _ h9 => h9) rfl (by decide +kernel) rfl rfl (Nat.le_of_ble_eq_true rfl) dX7_number_164 (fun H locs hP hD hS => ?_)
                  have hP : va_P D vwCl (ModC mo sa pa ha ta cJ cI (sM n b fl me st lk cm v nu) pt hd (tN t9) ps ru ty rf lks lo1 hi1 (nuQ t9 ty sp vb + d) cd pl (-(lN (dgv t9 (nuQ t9 ty sp vb) d)))) H := hP
                  have hD : va_D _ (ModC mo sa pa ha ta cJ cI (sM n b fl me st lk cm v nu) pt hd (tN t9) ps ru ty rf lks lo1 hi1 (nuQ t9 ty sp vb + d) cd pl (-(lN (dgv t9 (nuQ t9 ty sp vb) d)))) := hD
                  refine lv_aload_n hx hb dX7_number_167 rfl (lv_at hl 0 rfl) ?_
                  refine va_get (D := D) (ci := 5) (C := RX7) (T := TX7) (N := 15) hx hb hts hinX7 hown hK hP 0 rfl rfl 11 (by decide) (hts (.fieldLink RX7 160 "NearRanksModel" "spot" "I") (by decide +kernel)) (fun _ h9 => h9) rfl dX7_number_168 ?_
                  refine lv_iload_n hx hb dX7_number_171 rfl (lv_at hl 3 rfl) ?_
                  refine wv_icmp_le (tgt := 190) hx hb (by omega) (by omega) dX7_number_172 (by decide) (fun c172 => ?_) (fun c172 => ?_)
                  · skip
                    refine lv_iconst (v := nI 0) hx hb dX7_number_190 (by decide) ?_
                    have ew0_sp : ncP t9 ty sp vb = nuQ t9 ty sp vb + d := by unfold ncP; first | (rw [if_pos hs8, hE9]; done) | (rw [if_neg (by rw [hs8]; decide)]; done)
                    have ew0_pl : nmL t9 ty sp vb pl = pl := by unfold nmL; first | (rw [if_neg (by rw [hs8]; decide)]; done) | (rw [if_pos hs8, if_pos c124]; done) | (rw [if_pos hs8, if_neg (by rw [c124]; decide)]; unfold nuV; rw [hE9, Nat.add_sub_cancel_left]; done)
                    have ew0_gv : nmG t9 ty sp vb gv = -(lN (dgv t9 (nuQ t9 ty sp vb) d)) := by unfold nmG; first | (rw [if_neg (by rw [hs8]; decide)]; done) | (rw [if_pos hs8, if_neg (by rw [c124]; decide)]; done) | (rw [if_pos hs8, if_pos c124]; unfold nuV; rw [hE9, Nat.add_sub_cancel_left]; first | (rw [if_pos c128]; done) | (rw [if_neg (by rw [c128]; decide)]; done))
                    exact wv_zretM (b := false) hx hb hr hlocks hP hD hS rfl (by first | (unfold nmO ncC; rw [hs8]; rfl) | (unfold nmO ncC; rw [hs8, hE9, decide_eq_false (by omega)]; rfl) | (unfold nmO ncC; rw [hs8, hE9, decide_eq_true (by omega), c183]; rfl)) (by rw [ew0_gv, ew0_pl, ew0_sp]) dX7_number_191
                  · skip
                    refine lv_aload_n hx hb dX7_number_175 rfl (lv_at hl 0 rfl) ?_
                    refine lv_bipush (v := nI 48) hx hb dX7_number_176 (by decide) ?_
                    refine lv_bipush (v := nI 57) hx hb dX7_number_178 (by decide) ?_
                    refine wv_callPi (As := [.int (nI 48), .int (nI 57)]) (rest := []) ⟨hx, hb, hml, hown, hts⟩ (kX7_isAt l D mo sa pa ha ta cJ cI n b fl me st lk cm v nu pt hd t9 ps ru ty rf lks lo1 hi1 (nuQ t9 ty sp vb + d) cd pl (-(lN (dgv t9 (nuQ t9 ty sp vb) d))) 48 57 (by first | assumption | omega) (by first | assumption | omega) (by first | assumption | omega) (by first | assumption | omega) (by first | assumption | omega)) (cwV 2 hts gX7_number_X7_isAt rfl rfl rfl (by decide +kernel) ⟨Nat.le_of_ble_eq_true rfl, Nat.le_of_ble_eq_true rfl⟩) hK hN hP hS hA [0, 1, 2, 3, 4] [0, 1] rfl rfl 0 5 rfl rfl rfl rfl hl.1 rfl (Nat.le_of_ble_eq_true rfl) dX7_number_180 ⟨Nat.zero_le _, Nat.zero_le _⟩ (fun H locs hz9 hP hS => ?_)
                    refine wv_ifneB (tgt := 190) hx hb dX7_number_183 (by decide) (fun c183 => ?_) (fun c183 => ?_)
                    · skip
                      refine lv_iconst (v := nI 0) hx hb dX7_number_190 (by decide) ?_
                      have ew0_sp : ncP t9 ty sp vb = nuQ t9 ty sp vb + d := by unfold ncP; first | (rw [if_pos hs8, hE9]; done) | (rw [if_neg (by rw [hs8]; decide)]; done)
                      have ew0_pl : nmL t9 ty sp vb pl = pl := by unfold nmL; first | (rw [if_neg (by rw [hs8]; decide)]; done) | (rw [if_pos hs8, if_pos c124]; done) | (rw [if_pos hs8, if_neg (by rw [c124]; decide)]; unfold nuV; rw [hE9, Nat.add_sub_cancel_left]; done)
                      have ew0_gv : nmG t9 ty sp vb gv = -(lN (dgv t9 (nuQ t9 ty sp vb) d)) := by unfold nmG; first | (rw [if_neg (by rw [hs8]; decide)]; done) | (rw [if_pos hs8, if_neg (by rw [c124]; decide)]; done) | (rw [if_pos hs8, if_pos c124]; unfold nuV; rw [hE9, Nat.add_sub_cancel_left]; first | (rw [if_pos c128]; done) | (rw [if_neg (by rw [c128]; decide)]; done))
                      exact wv_zretM (b := false) hx hb hr hlocks hP hD hS rfl (by first | (unfold nmO ncC; rw [hs8]; rfl) | (unfold nmO ncC; rw [hs8, hE9, decide_eq_false (by omega)]; rfl) | (unfold nmO ncC; rw [hs8, hE9, decide_eq_true (by omega), c183]; rfl)) (by rw [ew0_gv, ew0_pl, ew0_sp]) dX7_number_191
                    · skip
                      refine lv_iconst (v := nI 1) hx hb dX7_number_186 (by decide) ?_
                      refine lv_goto (tgt := 191) hx hb dX7_number_187 (by decide) ?_
                      have ew0_sp : ncP t9 ty sp vb = nuQ t9 ty sp vb + d := by unfold ncP; first | (rw [if_pos hs8, hE9]; done) | (rw [if_neg (by rw [hs8]; decide)]; done)
                      have ew0_pl : nmL t9 ty sp vb pl = pl := by unfold nmL; first | (rw [if_neg (by rw [hs8]; decide)]; done) | (rw [if_pos hs8, if_pos c124]; done) | (rw [if_pos hs8, if_neg (by rw [c124]; decide)]; unfold nuV; rw [hE9, Nat.add_sub_cancel_left]; done)
                      have ew0_gv : nmG t9 ty sp vb gv = -(lN (dgv t9 (nuQ t9 ty sp vb) d)) := by unfold nmG; first | (rw [if_neg (by rw [hs8]; decide)]; done) | (rw [if_pos hs8, if_neg (by rw [c124]; decide)]; done) | (rw [if_pos hs8, if_pos c124]; unfold nuV; rw [hE9, Nat.add_sub_cancel_left]; first | (rw [if_pos c128]; done) | (rw [if_neg (by rw [c128]; decide)]; done))
                      exact wv_zretM (b := true) hx hb hr hlocks hP hD hS rfl (by first | (unfold nmO ncC; rw [hs8]; rfl) | (unfold nmO ncC; rw [hs8, hE9, decide_eq_false (by omega)]; rfl) | (unfold nmO ncC; rw [hs8, hE9, decide_eq_true (by omega), c183]; rfl)) (by rw [ew0_gv, ew0_pl, ew0_sp]) dX7_number_191
            · skip
              refine lv_ldc2 (v := lN 10) hx hb hown (hts (.constantLong RX7 178 (10)) (by decide +kernel)) dX7_number_86 ?_
              refine lv_lload hx hb dX7_number_89 (lv_at hl 4 rfl) ?_
              refine lv_lmul hx hb dX7_number_91 ?_
              refine wv_tl (lN_mul _ _) ?_
              refine lv_aload_n hx hb dX7_number_92 rfl (lv_at hl 0 rfl) ?_
              refine va_get (D := D) (ci := 5) (C := RX7) (T := TX7) (N := 15) hx hb hts hinX7 hown hK hP 0 rfl rfl 5 (by decide) (hts (.fieldLink RX7 19 "NearRanksModel" "text" "[I") (by decide +kernel)) (fun _ h9 => h9) rfl dX7_number_93 ?_
              refine lv_aload_n hx hb dX7_number_96 rfl (lv_at hl 0 rfl) ?_
              refine va_get (D := D) (ci := 5) (C := RX7) (T := TX7) (N := 15) hx hb hts hinX7 hown hK hP 0 rfl rfl 11 (by decide) (hts (.fieldLink RX7 160 "NearRanksModel" "spot" "I") (by decide +kernel)) (fun _ h9 => h9) rfl dX7_number_97 ?_
              refine wv_iald hx hb hK hP 4 1 rfl rfl (k := nuQ t9 ty sp vb + d) (by omega) (by decide) dX7_number_100 ?_
              refine wv_ti (y := nI (t9 (nuQ t9 ty sp vb + d))) rfl ?_
              refine lv_i2l (v := lN (t9 (nuQ t9 ty sp vb + d))) hx hb dX7_number_101 (nI_l (by omega)) ?_
              refine lv_ladd hx hb dX7_number_102 ?_
              refine wv_tl (lN_add _ _) ?_
              refine lv_ldc2 (v := lN 48) hx hb hown (hts (.constantLong RX7 180 (48)) (by decide +kernel)) dX7_number_103 ?_
              refine lv_lsub hx hb dX7_number_106 ?_
              refine wv_tl (lN_sub (by omega)) ?_
              refine lv_lstore (lv' := [(4, .long (lN (((10 * (dgv t9 (nuQ t9 ty sp vb) d)) + (t9 (nuQ t9 ty sp vb + d))) - 48))), (0, .ref mo), (1, .int (bI vb)), (2, .int (bI (nuN t9 ty sp vb))), (3, .int (nI (nuQ t9 ty sp vb)))]) hx hb dX7_number_107 hl (by decide) rfl (fun ls hl => ?_)
              refine lv_aload_n hx hb dX7_number_109 rfl (lv_at hl 1 rfl) ?_
              refine lv_dup hx hb dX7_number_110 rfl ?_
              refine va_get (D := D) (ci := 5) (C := RX7) (T := TX7) (N := 15) hx hb hts hinX7 hown hK hP 0 rfl rfl 11 (by decide) (hts (.fieldLink RX7 160 "NearRanksModel" "spot" "I") (by decide +kernel)) (fun _ h9 => h9) rfl dX7_number_111 ?_
              refine lv_iconst (v := nI 1) hx hb dX7_number_114 (by decide) ?_
              refine lv_iadd hx hb dX7_number_115 ?_
              refine wv_ti (nI_add _ _) ?_
              refine va_put (D := D) (ci := 5) (v := .int (nI ((nuQ t9 ty sp vb + d) + 1))) (ty := .int) (C := RX7) (T := TX7) (N := 15) hx hb hts hinX7 tyX7 tyX7_ok nmX7 hown hK hP hD hS 0 rfl rfl 11 (by decide) (hts (.fieldLink RX7 160 "NearRanksModel" "spot" "I") (by decide +kernel)) (fun _ h9 => h9) rfl (by decide +kernel) rfl rfl (Nat.le_of_ble_eq_true rfl) dX7_number_116 (fun H locs hP hD hS => ?_)
              have hP : va_P D vwCl (ModC mo sa pa ha ta cJ cI (sM n b fl me st lk cm v nu) pt hd (tN t9) ps ru ty rf lks lo1 hi1 ((nuQ t9 ty sp vb + d) + 1) cd pl gv) H := hP
              have hD : va_D _ (ModC mo sa pa ha ta cJ cI (sM n b fl me st lk cm v nu) pt hd (tN t9) ps ru ty rf lks lo1 hi1 ((nuQ t9 ty sp vb + d) + 1) cd pl gv) := hD
              refine lv_goto (tgt := 64) hx hb dX7_number_119 (by decide) ?_
              have el_l4 : dgv t9 (nuQ t9 ty sp vb) (d + 1) = ((10 * (dgv t9 (nuQ t9 ty sp vb) d)) + (t9 (nuQ t9 ty sp vb + d))) - 48 := by show 10 * dgv _ _ _ + (_ - 48) = _; omega
              have el_w0_sp : nuQ t9 ty sp vb + (d + 1) = (nuQ t9 ty sp vb + d) + 1 := by rfl
              exact ih64 (d + 1) (by omega) (by omega) (by omega) (by rw [hrn, show 9 - d = (9 - (d + 1)) + 1 by omega, rn_t c72]; rfl) _ _ (by first | (rw [el_l4, el_w0_sp]; exact hP) | (simp only [el_l4, el_w0_sp]; exact hP) | exact hP) (by first | (rw [el_l4, el_w0_sp]; exact hD) | (simp only [el_l4, el_w0_sp]; exact hD) | exact hD) hS ls (by first | (rw [el_l4, el_w0_sp]; exact lv_sub hl [1, 2, 3, 4, 0] rfl) | (simp only [el_l4, el_w0_sp]; exact lv_sub hl [1, 2, 3, 4, 0] rfl) | exact lv_sub hl [1, 2, 3, 4, 0] rfl)
      exact loop64 (9 - 0 + 1) 0 (by omega) (by omega) (by omega) (by rfl) _ _ (by first | (rw [el_l4, el_l2, el_w0_sp, el_l3]; exact hP) | (simp only [el_l4, el_l2, el_w0_sp, el_l3]; exact hP) | exact hP) (by first | (rw [el_l4, el_l2, el_w0_sp, el_l3]; exact hD) | (simp only [el_l4, el_l2, el_w0_sp, el_l3]; exact hD) | exact hD) hS ls (by first | (rw [el_l4, el_l2, el_w0_sp, el_l3]; exact lv_sub hl [3, 4, 2, 1, 0] rfl) | (simp only [el_l4, el_l2, el_w0_sp, el_l3]; exact lv_sub hl [3, 4, 2, 1, 0] rfl) | exact lv_sub hl [3, 4, 2, 1, 0] rfl)
    · skip
      refine lv_aload_n hx hb dX7_number_21 rfl (lv_at hl 0 rfl) ?_
      refine lv_bipush (v := nI 45) hx hb dX7_number_22 (by decide) ?_
      refine lv_bipush (v := nI 45) hx hb dX7_number_24 (by decide) ?_
      refine wv_callPi (As := [.int (nI 45), .int (nI 45)]) (rest := []) ⟨hx, hb, hml, hown, hts⟩ (kX7_isAt l D mo sa pa ha ta cJ cI n b fl me st lk cm v nu pt hd t9 ps ru ty rf lks lo1 hi1 (skS t9 ty sp) cd pl gv 45 45 (by first | assumption | omega) (by first | assumption | omega) (by first | assumption | omega) (by first | assumption | omega) (by first | assumption | omega)) (cwV 2 hts gX7_number_X7_isAt rfl rfl rfl (by decide +kernel) ⟨Nat.le_of_ble_eq_true rfl, Nat.le_of_ble_eq_true rfl⟩) hK hN hP hS hA [0, 1, 2, 3, 4] [0, 1] rfl rfl 0 5 rfl rfl rfl rfl hl.1 rfl (Nat.le_of_ble_eq_true rfl) dX7_number_26 ⟨Nat.zero_le _, Nat.zero_le _⟩ (fun H locs hz9 hP hS => ?_)
      refine wv_ifeqB (tgt := 36) hx hb dX7_number_29 (by decide) (fun c29 => ?_) (fun c29 => ?_)
      · skip
        have hng : nuN t9 ty sp vb = false := by unfold nuN; rw [c18, c29]; rfl
        refine lv_iconst (v := nI 0) hx hb dX7_number_36 (by decide) ?_
        refine lv_istore_n (lv' := [(2, .int (nI 0)), (0, .ref mo), (1, .int (bI vb))]) hx hb dX7_number_37 rfl hl (by decide) rfl (fun ls hl => ?_)
        refine lv_aload_n hx hb dX7_number_38 rfl (lv_at hl 1 rfl) ?_
        refine lv_dup hx hb dX7_number_39 rfl ?_
        refine va_get (D := D) (ci := 5) (C := RX7) (T := TX7) (N := 15) hx hb hts hinX7 hown hK hP 0 rfl rfl 11 (by decide) (hts (.fieldLink RX7 160 "NearRanksModel" "spot" "I") (by decide +kernel)) (fun _ h9 => h9) rfl dX7_number_40 ?_
        refine lv_iload_n hx hb dX7_number_43 rfl (lv_at hl 0 rfl) ?_
        refine lv_if_eq (tgt := 51) hx hb dX7_number_44 (by decide) (fun _ => ?_) (fun h => absurd h (by decide))
        refine lv_iconst (v := nI 0) hx hb dX7_number_51 (by decide) ?_
        refine lv_iadd hx hb dX7_number_52 ?_
        refine wv_ti (nI_add _ _) ?_
        refine va_put (D := D) (ci := 5) (v := .int (nI ((skS t9 ty sp) + 0))) (ty := .int) (C := RX7) (T := TX7) (N := 15) hx hb hts hinX7 tyX7 tyX7_ok nmX7 hown hK hP hD hS 0 rfl rfl 11 (by decide) (hts (.fieldLink RX7 160 "NearRanksModel" "spot" "I") (by decide +kernel)) (fun _ h9 => h9) rfl (by decide +kernel) rfl rfl (Nat.le_of_ble_eq_true rfl) dX7_number_53 (fun H locs hP hD hS => ?_)
        have hP : va_P D vwCl (ModC mo sa pa ha ta cJ cI (sM n b fl me st lk cm v nu) pt hd (tN t9) ps ru ty rf lks lo1 hi1 ((skS t9 ty sp) + 0) cd pl gv) H := hP
        have hD : va_D _ (ModC mo sa pa ha ta cJ cI (sM n b fl me st lk cm v nu) pt hd (tN t9) ps ru ty rf lks lo1 hi1 ((skS t9 ty sp) + 0) cd pl gv) := hD
        refine lv_aload_n hx hb dX7_number_56 rfl (lv_at hl 1 rfl) ?_
        refine va_get (D := D) (ci := 5) (C := RX7) (T := TX7) (N := 15) hx hb hts hinX7 hown hK hP 0 rfl rfl 11 (by decide) (hts (.fieldLink RX7 160 "NearRanksModel" "spot" "I") (by decide +kernel)) (fun _ h9 => h9) rfl dX7_number_57 ?_
        refine lv_istore_n (lv' := [(3, .int (nI ((skS t9 ty sp) + 0))), (2, .int (nI 0)), (0, .ref mo), (1, .int (bI vb))]) hx hb dX7_number_60 rfl hl (by decide) rfl (fun ls hl => ?_)
        refine lv_lconst (v := lN 0) hx hb dX7_number_61 rfl ?_
        refine lv_lstore (lv' := [(4, .long (lN 0)), (3, .int (nI ((skS t9 ty sp) + 0))), (2, .int (nI 0)), (0, .ref mo), (1, .int (bI vb))]) hx hb dX7_number_62 hl (by decide) rfl (fun ls hl => ?_)
        have el_l2 : bI (nuN t9 ty sp vb) = nI 0 := by rw [hng]; rfl
        have el_l3 : nuQ t9 ty sp vb = (skS t9 ty sp) + 0 := by first | (simp [nuQ, hng]; done) | (simp [nuQ, hng, c29]; done)
        have el_l4 : dgv t9 (nuQ t9 ty sp vb) 0 = 0 := by rfl
        have el_w0_sp : nuQ t9 ty sp vb + 0 = (skS t9 ty sp) + 0 := by first | (simp [nuQ, hng]; done) | (simp [nuQ, hng, c29]; done)
        have loop64 : ∀ (K : Nat) (d : Nat), 9 - d < K → d ≤ 9 → nuQ t9 ty sp vb + d ≤ ty → nuE t9 ty sp vb = rn (isA t9 ty 48 57) (9 - d) (nuQ t9 ty sp vb + d) → ∀ (H : Heap) (locs : List Loc), va_P D vwCl (ModC mo sa pa ha ta cJ cI (sM n b fl me st lk cm v nu) pt hd (tN t9) ps ru ty rf lks lo1 hi1 (nuQ t9 ty sp vb + d) cd pl gv) H → va_D (va_A (ModC mo sa pa ha ta cJ cI (sM n b fl me st lk cm v nu) pt hd (tN t9) ps ru ty rf lks lo1 hi1 sp cd pl gv) s.heap.size) (ModC mo sa pa ha ta cJ cI (sM n b fl me st lk cm v nu) pt hd (tN t9) ps ru ty rf lks lo1 hi1 (nuQ t9 ty sp vb + d) cd pl gv) → va_S (va_A (ModC mo sa pa ha ta cJ cI (sM n b fl me st lk cm v nu) pt hd (tN t9) ps ru ty rf lks lo1 hi1 sp cd pl gv) s.heap.size) s.heap H locs → ∀ ls : Array Slot, lv_has ls 6 [(0, .ref mo), (1, .int (bI vb)), (2, .int (bI (nuN t9 ty sp vb))), (3, .int (nI (nuQ t9 ty sp vb))), (4, .long (lN (dgv t9 (nuQ t9 ty sp vb) d)))] → W p l e ({ frames := 3, cells := 0, slots := 0, locals := 67 } : Room) s m args below meth c H locs 0 0 (ZMi below args s D (ModC mo sa pa ha ta cJ cI (sM n b fl me st lk cm v nu) pt hd (tN t9) ps ru ty rf lks lo1 hi1 sp cd pl gv) (bI (nmO t9 ty sp vb)) (ModC mo sa pa ha ta cJ cI (sM n b fl me st lk cm v nu) pt hd (tN t9) ps ru ty rf lks lo1 hi1 (ncP t9 ty sp vb) cd (nmL t9 ty sp vb pl) (nmG t9 ty sp vb gv))) (F0 m 64 ls []) := by
          intro K
          induction K with
          | zero => intro d hK0; exact absurd hK0 (Nat.not_lt_zero _)
          | succ K ih64 =>
            intro d hKm hdd hpd hrn H locs hP hD hS ls hl
            refine lv_aload_n hx hb dX7_number_64 rfl (lv_at hl 0 rfl) ?_
            refine lv_bipush (v := nI 48) hx hb dX7_number_65 (by decide) ?_
            refine lv_bipush (v := nI 57) hx hb dX7_number_67 (by decide) ?_
            refine wv_callPi (As := [.int (nI 48), .int (nI 57)]) (rest := []) ⟨hx, hb, hml, hown, hts⟩ (kX7_isAt l D mo sa pa ha ta cJ cI n b fl me st lk cm v nu pt hd t9 ps ru ty rf lks lo1 hi1 (nuQ t9 ty sp vb + d) cd pl gv 48 57 (by first | assumption | omega) (by first | assumption | omega) (by first | assumption | omega) (by first | assumption | omega) (by first | assumption | omega)) (cwV 2 hts gX7_number_X7_isAt rfl rfl rfl (by decide +kernel) ⟨Nat.le_of_ble_eq_true rfl, Nat.le_of_ble_eq_true rfl⟩) hK hN hP hS hA [0, 1, 2, 3, 4] [0, 1] rfl rfl 0 5 rfl rfl rfl rfl hl.1 rfl (Nat.le_of_ble_eq_true rfl) dX7_number_69 ⟨Nat.zero_le _, Nat.zero_le _⟩ (fun H locs hz9 hP hS => ?_)
            refine wv_ifeqB (tgt := 122) hx hb dX7_number_72 (by decide) (fun c72 => ?_) (fun c72 => ?_)
            · skip
              have hE9 : nuE t9 ty sp vb = nuQ t9 ty sp vb + d := by rw [hrn, rn_f c72]
              refine lv_aload_n hx hb dX7_number_122 rfl (lv_at hl 0 rfl) ?_
              refine lv_iload_n hx hb dX7_number_123 rfl (lv_at hl 1 rfl) ?_
              refine wv_ifeqB (tgt := 142) hx hb dX7_number_124 (by decide) (fun c124 => ?_) (fun c124 => ?_)
              · skip
                refine lv_aload_n hx hb dX7_number_142 rfl (lv_at hl 0 rfl) ?_
                refine va_get (D := D) (ci := 5) (C := RX7) (T := TX7) (N := 15) hx hb hts hinX7 hown hK hP 0 rfl rfl 14 (by decide) (hts (.fieldLink RX7 182 "NearRanksModel" "given" "J") (by decide +kernel)) (fun _ h9 => h9) rfl dX7_number_143 ?_
                refine va_put (D := D) (ci := 5) (v := .long gv) (ty := .long) (C := RX7) (T := TX7) (N := 15) hx hb hts hinX7 tyX7 tyX7_ok nmX7 hown hK hP hD hS 0 rfl rfl 14 (by decide) (hts (.fieldLink RX7 182 "NearRanksModel" "given" "J") (by decide +kernel)) (fun _ h9 => h9) rfl (by decide +kernel) rfl rfl (Nat.le_of_ble_eq_true rfl) dX7_number_146 (fun H locs hP hD hS => ?_)
                have hP : va_P D vwCl (ModC mo sa pa ha ta cJ cI (sM n b fl me st lk cm v nu) pt hd (tN t9) ps ru ty rf lks lo1 hi1 (nuQ t9 ty sp vb + d) cd pl gv) H := hP
                have hD : va_D _ (ModC mo sa pa ha ta cJ cI (sM n b fl me st lk cm v nu) pt hd (tN t9) ps ru ty rf lks lo1 hi1 (nuQ t9 ty sp vb + d) cd pl gv) := hD
                refine lv_aload_n hx hb dX7_number_149 rfl (lv_at hl 0 rfl) ?_
                refine lv_iload_n hx hb dX7_number_150 rfl (lv_at hl 1 rfl) ?_
                refine wv_ifeqB (tgt := 161) hx hb dX7_number_151 (by decide) (fun c151 => ?_) (fun c151 => by exfalso; rw [c124] at c151; cases c151)
                refine lv_lload hx hb dX7_number_161 (lv_at hl 4 rfl) ?_
                refine lv_l2i (v := nI (dgv t9 (nuQ t9 ty sp vb) d)) hx hb dX7_number_163 (lN_i _) ?_
                refine va_put (D := D) (ci := 5) (v := .int (nI (dgv t9 (nuQ t9 ty sp vb) d))) (ty := .int) (C := RX7) (T := TX7) (N := 15) hx hb hts hinX7 tyX7 tyX7_ok nmX7 hown hK hP hD hS 0 rfl rfl 13 (by decide) (hts (.fieldLink RX7 186 "NearRanksModel" "place" "I") (by decide +kernel)) (fun _ h9 => h9) rfl (by decide +kernel) rfl rfl (Nat.le_of_ble_eq_true rfl) dX7_number_164 (fun H locs hP hD hS => ?_)
                have hP : va_P D vwCl (ModC mo sa pa ha ta cJ cI (sM n b fl me st lk cm v nu) pt hd (tN t9) ps ru ty rf lks lo1 hi1 (nuQ t9 ty sp vb + d) cd (nI (dgv t9 (nuQ t9 ty sp vb) d)) gv) H := hP
                have hD : va_D _ (ModC mo sa pa ha ta cJ cI (sM n b fl me st lk cm v nu) pt hd (tN t9) ps ru ty rf lks lo1 hi1 (nuQ t9 ty sp vb + d) cd (nI (dgv t9 (nuQ t9 ty sp vb) d)) gv) := hD
                refine lv_aload_n hx hb dX7_number_167 rfl (lv_at hl 0 rfl) ?_
                refine va_get (D := D) (ci := 5) (C := RX7) (T := TX7) (N := 15) hx hb hts hinX7 hown hK hP 0 rfl rfl 11 (by decide) (hts (.fieldLink RX7 160 "NearRanksModel" "spot" "I") (by decide +kernel)) (fun _ h9 => h9) rfl dX7_number_168 ?_
                refine lv_iload_n hx hb dX7_number_171 rfl (lv_at hl 3 rfl) ?_
                refine wv_icmp_le (tgt := 190) hx hb (by omega) (by omega) dX7_number_172 (by decide) (fun c172 => ?_) (fun c172 => ?_)
                · skip
                  refine lv_iconst (v := nI 0) hx hb dX7_number_190 (by decide) ?_
                  have ew0_sp : ncP t9 ty sp vb = nuQ t9 ty sp vb + d := by unfold ncP; first | (rw [if_pos hs8, hE9]; done) | (rw [if_neg (by rw [hs8]; decide)]; done)
                  have ew0_pl : nmL t9 ty sp vb pl = nI (dgv t9 (nuQ t9 ty sp vb) d) := by unfold nmL; first | (rw [if_neg (by rw [hs8]; decide)]; done) | (rw [if_pos hs8, if_pos c124]; done) | (rw [if_pos hs8, if_neg (by rw [c124]; decide)]; unfold nuV; rw [hE9, Nat.add_sub_cancel_left]; done)
                  have ew0_gv : nmG t9 ty sp vb gv = gv := by unfold nmG; first | (rw [if_neg (by rw [hs8]; decide)]; done) | (rw [if_pos hs8, if_neg (by rw [c124]; decide)]; done) | (rw [if_pos hs8, if_pos c124]; unfold nuV; rw [hE9, Nat.add_sub_cancel_left]; first | (rw [if_pos c128]; done) | (rw [if_neg (by rw [c128]; decide)]; done))
                  exact wv_zretM (b := false) hx hb hr hlocks hP hD hS rfl (by first | (unfold nmO ncC; rw [hs8]; rfl) | (unfold nmO ncC; rw [hs8, hE9, decide_eq_false (by omega)]; rfl) | (unfold nmO ncC; rw [hs8, hE9, decide_eq_true (by omega), c183]; rfl)) (by rw [ew0_gv, ew0_pl, ew0_sp]) dX7_number_191
                · skip
                  refine lv_aload_n hx hb dX7_number_175 rfl (lv_at hl 0 rfl) ?_
                  refine lv_bipush (v := nI 48) hx hb dX7_number_176 (by decide) ?_
                  refine lv_bipush (v := nI 57) hx hb dX7_number_178 (by decide) ?_
                  refine wv_callPi (As := [.int (nI 48), .int (nI 57)]) (rest := []) ⟨hx, hb, hml, hown, hts⟩ (kX7_isAt l D mo sa pa ha ta cJ cI n b fl me st lk cm v nu pt hd t9 ps ru ty rf lks lo1 hi1 (nuQ t9 ty sp vb + d) cd (nI (dgv t9 (nuQ t9 ty sp vb) d)) gv 48 57 (by first | assumption | omega) (by first | assumption | omega) (by first | assumption | omega) (by first | assumption | omega) (by first | assumption | omega)) (cwV 2 hts gX7_number_X7_isAt rfl rfl rfl (by decide +kernel) ⟨Nat.le_of_ble_eq_true rfl, Nat.le_of_ble_eq_true rfl⟩) hK hN hP hS hA [0, 1, 2, 3, 4] [0, 1] rfl rfl 0 5 rfl rfl rfl rfl hl.1 rfl (Nat.le_of_ble_eq_true rfl) dX7_number_180 ⟨Nat.zero_le _, Nat.zero_le _⟩ (fun H locs hz9 hP hS => ?_)
                  refine wv_ifneB (tgt := 190) hx hb dX7_number_183 (by decide) (fun c183 => ?_) (fun c183 => ?_)
                  · skip
                    refine lv_iconst (v := nI 0) hx hb dX7_number_190 (by decide) ?_
                    have ew0_sp : ncP t9 ty sp vb = nuQ t9 ty sp vb + d := by unfold ncP; first | (rw [if_pos hs8, hE9]; done) | (rw [if_neg (by rw [hs8]; decide)]; done)
                    have ew0_pl : nmL t9 ty sp vb pl = nI (dgv t9 (nuQ t9 ty sp vb) d) := by unfold nmL; first | (rw [if_neg (by rw [hs8]; decide)]; done) | (rw [if_pos hs8, if_pos c124]; done) | (rw [if_pos hs8, if_neg (by rw [c124]; decide)]; unfold nuV; rw [hE9, Nat.add_sub_cancel_left]; done)
                    have ew0_gv : nmG t9 ty sp vb gv = gv := by unfold nmG; first | (rw [if_neg (by rw [hs8]; decide)]; done) | (rw [if_pos hs8, if_neg (by rw [c124]; decide)]; done) | (rw [if_pos hs8, if_pos c124]; unfold nuV; rw [hE9, Nat.add_sub_cancel_left]; first | (rw [if_pos c128]; done) | (rw [if_neg (by rw [c128]; decide)]; done))
                    exact wv_zretM (b := false) hx hb hr hlocks hP hD hS rfl (by first | (unfold nmO ncC; rw [hs8]; rfl) | (unfold nmO ncC; rw [hs8, hE9, decide_eq_false (by omega)]; rfl) | (unfold nmO ncC; rw [hs8, hE9, decide_eq_true (by omega), c183]; rfl)) (by rw [ew0_gv, ew0_pl, ew0_sp]) dX7_number_191
                  · skip
                    refine lv_iconst (v := nI 1) hx hb dX7_number_186 (by decide) ?_
                    refine lv_goto (tgt := 191) hx hb dX7_number_187 (by decide) ?_
                    have ew0_sp : ncP t9 ty sp vb = nuQ t9 ty sp vb + d := by unfold ncP; first | (rw [if_pos hs8, hE9]; done) | (rw [if_neg (by rw [hs8]; decide)]; done)
                    have ew0_pl : nmL t9 ty sp vb pl = nI (dgv t9 (nuQ t9 ty sp vb) d) := by unfold nmL; first | (rw [if_neg (by rw [hs8]; decide)]; done) | (rw [if_pos hs8, if_pos c124]; done) | (rw [if_pos hs8, if_neg (by rw [c124]; decide)]; unfold nuV; rw [hE9, Nat.add_sub_cancel_left]; done)
                    have ew0_gv : nmG t9 ty sp vb gv = gv := by unfold nmG; first | (rw [if_neg (by rw [hs8]; decide)]; done) | (rw [if_pos hs8, if_neg (by rw [c124]; decide)]; done) | (rw [if_pos hs8, if_pos c124]; unfold nuV; rw [hE9, Nat.add_sub_cancel_left]; first | (rw [if_pos c128]; done) | (rw [if_neg (by rw [c128]; decide)]; done))
                    exact wv_zretM (b := true) hx hb hr hlocks hP hD hS rfl (by first | (unfold nmO ncC; rw [hs8]; rfl) | (unfold nmO ncC; rw [hs8, hE9, decide_eq_false (by omega)]; rfl) | (unfold nmO ncC; rw [hs8, hE9, decide_eq_true (by omega), c183]; rfl)) (by rw [ew0_gv, ew0_pl, ew0_sp]) dX7_number_191
              · skip
                refine lv_iload_n hx hb dX7_number_127 rfl (lv_at hl 2 rfl) ?_
                refine wv_ifeqB (tgt := 137) hx hb dX7_number_128 (by decide) (fun c128 => ?_) (fun c128 => ?_)
                · skip
                  refine lv_lload hx hb dX7_number_137 (lv_at hl 4 rfl) ?_
                  refine lv_goto (tgt := 146) hx hb dX7_number_139 (by decide) ?_
                  refine va_put (D := D) (ci := 5) (v := .long (lN (dgv t9 (nuQ t9 ty sp vb) d))) (ty := .long) (C := RX7) (T := TX7) (N := 15) hx hb hts hinX7 tyX7 tyX7_ok nmX7 hown hK hP hD hS 0 rfl rfl 14 (by decide) (hts (.fieldLink RX7 182 "NearRanksModel" "given" "J") (by decide +kernel)) (fun _ h9 => h9) rfl (by decide +kernel) rfl rfl (Nat.le_of_ble_eq_true rfl) dX7_number_146 (fun H locs hP hD hS => ?_)
                  have hP : va_P D vwCl (ModC mo sa pa ha ta cJ cI (sM n b fl me st lk cm v nu) pt hd (tN t9) ps ru ty rf lks lo1 hi1 (nuQ t9 ty sp vb + d) cd pl (lN (dgv t9 (nuQ t9 ty sp vb) d))) H := hP
                  have hD : va_D _ (ModC mo sa pa ha ta cJ cI (sM n b fl me st lk cm v nu) pt hd (tN t9) ps ru ty rf lks lo1 hi1 (nuQ t9 ty sp vb + d) cd pl (lN (dgv t9 (nuQ t9 ty sp vb) d))) := hD
                  refine lv_aload_n hx hb dX7_number_149 rfl (lv_at hl 0 rfl) ?_
                  refine lv_iload_n hx hb dX7_number_150 rfl (lv_at hl 1 rfl) ?_
                  refine wv_ifeqB (tgt := 161) hx hb dX7_number_151 (by decide) (fun c151 => by exfalso; rw [c124] at c151; cases c151) (fun c151 => ?_)
                  refine lv_aload_n hx hb dX7_number_154 rfl (lv_at hl 0 rfl) ?_
                  refine va_get (D := D) (ci := 5) (C := RX7) (T := TX7) (N := 15) hx hb hts hinX7 hown hK hP 0 rfl rfl 13 (by decide) (hts (.fieldLink RX7 186 "NearRanksModel" "place" "I") (by decide +kernel)) (fun _ h9 => h9) rfl dX7_number_155 ?_
                  refine lv_goto (tgt := 164) hx hb dX7_number_158 (by decide) ?_
                  refine va_put (D := D) (ci := 5) (v := .int pl) (ty := .int) (C := RX7) (T := TX7) (N := 15) hx hb hts hinX7 tyX7 tyX7_ok nmX7 hown hK hP hD hS 0 rfl rfl 13 (by decide) (hts (.fieldLink RX7 186 "NearRanksModel" "place" "I") (by decide +kernel)) (fun _ h9 => h9) rfl (by decide +kernel) rfl rfl (Nat.le_of_ble_eq_true rfl) dX7_number_164 (fun H locs hP hD hS => ?_)
                  have hP : va_P D vwCl (ModC mo sa pa ha ta cJ cI (sM n b fl me st lk cm v nu) pt hd (tN t9) ps ru ty rf lks lo1 hi1 (nuQ t9 ty sp vb + d) cd pl (lN (dgv t9 (nuQ t9 ty sp vb) d))) H := hP
                  have hD : va_D _ (ModC mo sa pa ha ta cJ cI (sM n b fl me st lk cm v nu) pt hd (tN t9) ps ru ty rf lks lo1 hi1 (nuQ t9 ty sp vb + d) cd pl (lN (dgv t9 (nuQ t9 ty sp vb) d))) := hD
                  refine lv_aload_n hx hb dX7_number_167 rfl (lv_at hl 0 rfl) ?_
                  refine va_get (D := D) (ci := 5) (C := RX7) (T := TX7) (N := 15) hx hb hts hinX7 hown hK hP 0 rfl rfl 11 (by decide) (hts (.fieldLink RX7 160 "NearRanksModel" "spot" "I") (by decide +kernel)) (fun _ h9 => h9) rfl dX7_number_168 ?_
                  refine lv_iload_n hx hb dX7_number_171 rfl (lv_at hl 3 rfl) ?_
                  refine wv_icmp_le (tgt := 190) hx hb (by omega) (by omega) dX7_number_172 (by decide) (fun c172 => ?_) (fun c172 => ?_)
                  · skip
                    refine lv_iconst (v := nI 0) hx hb dX7_number_190 (by decide) ?_
                    have ew0_sp : ncP t9 ty sp vb = nuQ t9 ty sp vb + d := by unfold ncP; first | (rw [if_pos hs8, hE9]; done) | (rw [if_neg (by rw [hs8]; decide)]; done)
                    have ew0_pl : nmL t9 ty sp vb pl = pl := by unfold nmL; first | (rw [if_neg (by rw [hs8]; decide)]; done) | (rw [if_pos hs8, if_pos c124]; done) | (rw [if_pos hs8, if_neg (by rw [c124]; decide)]; unfold nuV; rw [hE9, Nat.add_sub_cancel_left]; done)
                    have ew0_gv : nmG t9 ty sp vb gv = lN (dgv t9 (nuQ t9 ty sp vb) d) := by unfold nmG; first | (rw [if_neg (by rw [hs8]; decide)]; done) | (rw [if_pos hs8, if_neg (by rw [c124]; decide)]; done) | (rw [if_pos hs8, if_pos c124]; unfold nuV; rw [hE9, Nat.add_sub_cancel_left]; first | (rw [if_pos c128]; done) | (rw [if_neg (by rw [c128]; decide)]; done))
                    exact wv_zretM (b := false) hx hb hr hlocks hP hD hS rfl (by first | (unfold nmO ncC; rw [hs8]; rfl) | (unfold nmO ncC; rw [hs8, hE9, decide_eq_false (by omega)]; rfl) | (unfold nmO ncC; rw [hs8, hE9, decide_eq_true (by omega), c183]; rfl)) (by rw [ew0_gv, ew0_pl, ew0_sp]) dX7_number_191
                  · skip
                    refine lv_aload_n hx hb dX7_number_175 rfl (lv_at hl 0 rfl) ?_
                    refine lv_bipush (v := nI 48) hx hb dX7_number_176 (by decide) ?_
                    refine lv_bipush (v := nI 57) hx hb dX7_number_178 (by decide) ?_
                    refine wv_callPi (As := [.int (nI 48), .int (nI 57)]) (rest := []) ⟨hx, hb, hml, hown, hts⟩ (kX7_isAt l D mo sa pa ha ta cJ cI n b fl me st lk cm v nu pt hd t9 ps ru ty rf lks lo1 hi1 (nuQ t9 ty sp vb + d) cd pl (lN (dgv t9 (nuQ t9 ty sp vb) d)) 48 57 (by first | assumption | omega) (by first | assumption | omega) (by first | assumption | omega) (by first | assumption | omega) (by first | assumption | omega)) (cwV 2 hts gX7_number_X7_isAt rfl rfl rfl (by decide +kernel) ⟨Nat.le_of_ble_eq_true rfl, Nat.le_of_ble_eq_true rfl⟩) hK hN hP hS hA [0, 1, 2, 3, 4] [0, 1] rfl rfl 0 5 rfl rfl rfl rfl hl.1 rfl (Nat.le_of_ble_eq_true rfl) dX7_number_180 ⟨Nat.zero_le _, Nat.zero_le _⟩ (fun H locs hz9 hP hS => ?_)
                    refine wv_ifneB (tgt := 190) hx hb dX7_number_183 (by decide) (fun c183 => ?_) (fun c183 => ?_)
                    · skip
                      refine lv_iconst (v := nI 0) hx hb dX7_number_190 (by decide) ?_
                      have ew0_sp : ncP t9 ty sp vb = nuQ t9 ty sp vb + d := by unfold ncP; first | (rw [if_pos hs8, hE9]; done) | (rw [if_neg (by rw [hs8]; decide)]; done)
                      have ew0_pl : nmL t9 ty sp vb pl = pl := by unfold nmL; first | (rw [if_neg (by rw [hs8]; decide)]; done) | (rw [if_pos hs8, if_pos c124]; done) | (rw [if_pos hs8, if_neg (by rw [c124]; decide)]; unfold nuV; rw [hE9, Nat.add_sub_cancel_left]; done)
                      have ew0_gv : nmG t9 ty sp vb gv = lN (dgv t9 (nuQ t9 ty sp vb) d) := by unfold nmG; first | (rw [if_neg (by rw [hs8]; decide)]; done) | (rw [if_pos hs8, if_neg (by rw [c124]; decide)]; done) | (rw [if_pos hs8, if_pos c124]; unfold nuV; rw [hE9, Nat.add_sub_cancel_left]; first | (rw [if_pos c128]; done) | (rw [if_neg (by rw [c128]; decide)]; done))
                      exact wv_zretM (b := false) hx hb hr hlocks hP hD hS rfl (by first | (unfold nmO ncC; rw [hs8]; rfl) | (unfold nmO ncC; rw [hs8, hE9, decide_eq_false (by omega)]; rfl) | (unfold nmO ncC; rw [hs8, hE9, decide_eq_true (by omega), c183]; rfl)) (by rw [ew0_gv, ew0_pl, ew0_sp]) dX7_number_191
                    · skip
                      refine lv_iconst (v := nI 1) hx hb dX7_number_186 (by decide) ?_
                      refine lv_goto (tgt := 191) hx hb dX7_number_187 (by decide) ?_
                      have ew0_sp : ncP t9 ty sp vb = nuQ t9 ty sp vb + d := by unfold ncP; first | (rw [if_pos hs8, hE9]; done) | (rw [if_neg (by rw [hs8]; decide)]; done)
                      have ew0_pl : nmL t9 ty sp vb pl = pl := by unfold nmL; first | (rw [if_neg (by rw [hs8]; decide)]; done) | (rw [if_pos hs8, if_pos c124]; done) | (rw [if_pos hs8, if_neg (by rw [c124]; decide)]; unfold nuV; rw [hE9, Nat.add_sub_cancel_left]; done)
                      have ew0_gv : nmG t9 ty sp vb gv = lN (dgv t9 (nuQ t9 ty sp vb) d) := by unfold nmG; first | (rw [if_neg (by rw [hs8]; decide)]; done) | (rw [if_pos hs8, if_neg (by rw [c124]; decide)]; done) | (rw [if_pos hs8, if_pos c124]; unfold nuV; rw [hE9, Nat.add_sub_cancel_left]; first | (rw [if_pos c128]; done) | (rw [if_neg (by rw [c128]; decide)]; done))
                      exact wv_zretM (b := true) hx hb hr hlocks hP hD hS rfl (by first | (unfold nmO ncC; rw [hs8]; rfl) | (unfold nmO ncC; rw [hs8, hE9, decide_eq_false (by omega)]; rfl) | (unfold nmO ncC; rw [hs8, hE9, decide_eq_true (by omega), c183]; rfl)) (by rw [ew0_gv, ew0_pl, ew0_sp]) dX7_number_191
                · skip
                  refine lv_lload hx hb dX7_number_131 (lv_at hl 4 rfl) ?_
                  refine lv_lneg hx hb dX7_number_133 ?_
                  refine lv_goto (tgt := 146) hx hb dX7_number_134 (by decide) ?_
                  refine va_put (D := D) (ci := 5) (v := .long (-(lN (dgv t9 (nuQ t9 ty sp vb) d)))) (ty := .long) (C := RX7) (T := TX7) (N := 15) hx hb hts hinX7 tyX7 tyX7_ok nmX7 hown hK hP hD hS 0 rfl rfl 14 (by decide) (hts (.fieldLink RX7 182 "NearRanksModel" "given" "J") (by decide +kernel)) (fun _ h9 => h9) rfl (by decide +kernel) rfl rfl (Nat.le_of_ble_eq_true rfl) dX7_number_146 (fun H locs hP hD hS => ?_)
                  have hP : va_P D vwCl (ModC mo sa pa ha ta cJ cI (sM n b fl me st lk cm v nu) pt hd (tN t9) ps ru ty rf lks lo1 hi1 (nuQ t9 ty sp vb + d) cd pl (-(lN (dgv t9 (nuQ t9 ty sp vb) d)))) H := hP
                  have hD : va_D _ (ModC mo sa pa ha ta cJ cI (sM n b fl me st lk cm v nu) pt hd (tN t9) ps ru ty rf lks lo1 hi1 (nuQ t9 ty sp vb + d) cd pl (-(lN (dgv t9 (nuQ t9 ty sp vb) d)))) := hD
                  refine lv_aload_n hx hb dX7_number_149 rfl (lv_at hl 0 rfl) ?_
                  refine lv_iload_n hx hb dX7_number_150 rfl (lv_at hl 1 rfl) ?_
                  refine wv_ifeqB (tgt := 161) hx hb dX7_number_151 (by decide) (fun c151 => by exfalso; rw [c124] at c151; cases c151) (fun c151 => ?_)
                  refine lv_aload_n hx hb dX7_number_154 rfl (lv_at hl 0 rfl) ?_
                  refine va_get (D := D) (ci := 5) (C := RX7) (T := TX7) (N := 15) hx hb hts hinX7 hown hK hP 0 rfl rfl 13 (by decide) (hts (.fieldLink RX7 186 "NearRanksModel" "place" "I") (by decide +kernel)) (fun _ h9 => h9) rfl dX7_number_155 ?_
                  refine lv_goto (tgt := 164) hx hb dX7_number_158 (by decide) ?_
                  refine va_put (D := D) (ci := 5) (v := .int pl) (ty := .int) (C := RX7) (T := TX7) (N := 15) hx hb hts hinX7 tyX7 tyX7_ok nmX7 hown hK hP hD hS 0 rfl rfl 13 (by decide) (hts (.fieldLink RX7 186 "NearRanksModel" "place" "I") (by decide +kernel)) (fun _ h9 => h9) rfl (by decide +kernel) rfl rfl (Nat.le_of_ble_eq_true rfl) dX7_number_164 (fun H locs hP hD hS => ?_)
                  have hP : va_P D vwCl (ModC mo sa pa ha ta cJ cI (sM n b fl me st lk cm v nu) pt hd (tN t9) ps ru ty rf lks lo1 hi1 (nuQ t9 ty sp vb + d) cd pl (-(lN (dgv t9 (nuQ t9 ty sp vb) d)))) H := hP
                  have hD : va_D _ (ModC mo sa pa ha ta cJ cI (sM n b fl me st lk cm v nu) pt hd (tN t9) ps ru ty rf lks lo1 hi1 (nuQ t9 ty sp vb + d) cd pl (-(lN (dgv t9 (nuQ t9 ty sp vb) d)))) := hD
                  refine lv_aload_n hx hb dX7_number_167 rfl (lv_at hl 0 rfl) ?_
                  refine va_get (D := D) (ci := 5) (C := RX7) (T := TX7) (N := 15) hx hb hts hinX7 hown hK hP 0 rfl rfl 11 (by decide) (hts (.fieldLink RX7 160 "NearRanksModel" "spot" "I") (by decide +kernel)) (fun _ h9 => h9) rfl dX7_number_168 ?_
                  refine lv_iload_n hx hb dX7_number_171 rfl (lv_at hl 3 rfl) ?_
                  refine wv_icmp_le (tgt := 190) hx hb (by omega) (by omega) dX7_number_172 (by decide) (fun c172 => ?_) (fun c172 => ?_)
                  · skip
                    refine lv_iconst (v := nI 0) hx hb dX7_number_190 (by decide) ?_
                    have ew0_sp : ncP t9 ty sp vb = nuQ t9 ty sp vb + d := by unfold ncP; first | (rw [if_pos hs8, hE9]; done) | (rw [if_neg (by rw [hs8]; decide)]; done)
                    have ew0_pl : nmL t9 ty sp vb pl = pl := by unfold nmL; first | (rw [if_neg (by rw [hs8]; decide)]; done) | (rw [if_pos hs8, if_pos c124]; done) | (rw [if_pos hs8, if_neg (by rw [c124]; decide)]; unfold nuV; rw [hE9, Nat.add_sub_cancel_left]; done)
                    have ew0_gv : nmG t9 ty sp vb gv = -(lN (dgv t9 (nuQ t9 ty sp vb) d)) := by unfold nmG; first | (rw [if_neg (by rw [hs8]; decide)]; done) | (rw [if_pos hs8, if_neg (by rw [c124]; decide)]; done) | (rw [if_pos hs8, if_pos c124]; unfold nuV; rw [hE9, Nat.add_sub_cancel_left]; first | (rw [if_pos c128]; done) | (rw [if_neg (by rw [c128]; decide)]; done))
                    exact wv_zretM (b := false) hx hb hr hlocks hP hD hS rfl (by first | (unfold nmO ncC; rw [hs8]; rfl) | (unfold nmO ncC; rw [hs8, hE9, decide_eq_false (by omega)]; rfl) | (unfold nmO ncC; rw [hs8, hE9, decide_eq_true (by omega), c183]; rfl)) (by rw [ew0_gv, ew0_pl, ew0_sp]) dX7_number_191
                  · skip
                    refine lv_aload_n hx hb dX7_number_175 rfl (lv_at hl 0 rfl) ?_
                    refine lv_bipush (v := nI 48) hx hb dX7_number_176 (by decide) ?_
                    refine lv_bipush (v := nI 57) hx hb dX7_number_178 (by decide) ?_
                    refine wv_callPi (As := [.int (nI 48), .int (nI 57)]) (rest := []) ⟨hx, hb, hml, hown, hts⟩ (kX7_isAt l D mo sa pa ha ta cJ cI n b fl me st lk cm v nu pt hd t9 ps ru ty rf lks lo1 hi1 (nuQ t9 ty sp vb + d) cd pl (-(lN (dgv t9 (nuQ t9 ty sp vb) d))) 48 57 (by first | assumption | omega) (by first | assumption | omega) (by first | assumption | omega) (by first | assumption | omega) (by first | assumption | omega)) (cwV 2 hts gX7_number_X7_isAt rfl rfl rfl (by decide +kernel) ⟨Nat.le_of_ble_eq_true rfl, Nat.le_of_ble_eq_true rfl⟩) hK hN hP hS hA [0, 1, 2, 3, 4] [0, 1] rfl rfl 0 5 rfl rfl rfl rfl hl.1 rfl (Nat.le_of_ble_eq_true rfl) dX7_number_180 ⟨Nat.zero_le _, Nat.zero_le _⟩ (fun H locs hz9 hP hS => ?_)
                    refine wv_ifneB (tgt := 190) hx hb dX7_number_183 (by decide) (fun c183 => ?_) (fun c183 => ?_)
                    · skip
                      refine lv_iconst (v := nI 0) hx hb dX7_number_190 (by decide) ?_
                      have ew0_sp : ncP t9 ty sp vb = nuQ t9 ty sp vb + d := by unfold ncP; first | (rw [if_pos hs8, hE9]; done) | (rw [if_neg (by rw [hs8]; decide)]; done)
                      have ew0_pl : nmL t9 ty sp vb pl = pl := by unfold nmL; first | (rw [if_neg (by rw [hs8]; decide)]; done) | (rw [if_pos hs8, if_pos c124]; done) | (rw [if_pos hs8, if_neg (by rw [c124]; decide)]; unfold nuV; rw [hE9, Nat.add_sub_cancel_left]; done)
                      have ew0_gv : nmG t9 ty sp vb gv = -(lN (dgv t9 (nuQ t9 ty sp vb) d)) := by unfold nmG; first | (rw [if_neg (by rw [hs8]; decide)]; done) | (rw [if_pos hs8, if_neg (by rw [c124]; decide)]; done) | (rw [if_pos hs8, if_pos c124]; unfold nuV; rw [hE9, Nat.add_sub_cancel_left]; first | (rw [if_pos c128]; done) | (rw [if_neg (by rw [c128]; decide)]; done))
                      exact wv_zretM (b := false) hx hb hr hlocks hP hD hS rfl (by first | (unfold nmO ncC; rw [hs8]; rfl) | (unfold nmO ncC; rw [hs8, hE9, decide_eq_false (by omega)]; rfl) | (unfold nmO ncC; rw [hs8, hE9, decide_eq_true (by omega), c183]; rfl)) (by rw [ew0_gv, ew0_pl, ew0_sp]) dX7_number_191
                    · skip
                      refine lv_iconst (v := nI 1) hx hb dX7_number_186 (by decide) ?_
                      refine lv_goto (tgt := 191) hx hb dX7_number_187 (by decide) ?_
                      have ew0_sp : ncP t9 ty sp vb = nuQ t9 ty sp vb + d := by unfold ncP; first | (rw [if_pos hs8, hE9]; done) | (rw [if_neg (by rw [hs8]; decide)]; done)
                      have ew0_pl : nmL t9 ty sp vb pl = pl := by unfold nmL; first | (rw [if_neg (by rw [hs8]; decide)]; done) | (rw [if_pos hs8, if_pos c124]; done) | (rw [if_pos hs8, if_neg (by rw [c124]; decide)]; unfold nuV; rw [hE9, Nat.add_sub_cancel_left]; done)
                      have ew0_gv : nmG t9 ty sp vb gv = -(lN (dgv t9 (nuQ t9 ty sp vb) d)) := by unfold nmG; first | (rw [if_neg (by rw [hs8]; decide)]; done) | (rw [if_pos hs8, if_neg (by rw [c124]; decide)]; done) | (rw [if_pos hs8, if_pos c124]; unfold nuV; rw [hE9, Nat.add_sub_cancel_left]; first | (rw [if_pos c128]; done) | (rw [if_neg (by rw [c128]; decide)]; done))
                      exact wv_zretM (b := true) hx hb hr hlocks hP hD hS rfl (by first | (unfold nmO ncC; rw [hs8]; rfl) | (unfold nmO ncC; rw [hs8, hE9, decide_eq_false (by omega)]; rfl) | (unfold nmO ncC; rw [hs8, hE9, decide_eq_true (by omega), c183]; rfl)) (by rw [ew0_gv, ew0_pl, ew0_sp]) dX7_number_191
            · skip
              have hdi := isA_i c72
              refine lv_aload_n hx hb dX7_number_75 rfl (lv_at hl 0 rfl) ?_
              refine va_get (D := D) (ci := 5) (C := RX7) (T := TX7) (N := 15) hx hb hts hinX7 hown hK hP 0 rfl rfl 11 (by decide) (hts (.fieldLink RX7 160 "NearRanksModel" "spot" "I") (by decide +kernel)) (fun _ h9 => h9) rfl dX7_number_76 ?_
              refine lv_iload_n hx hb dX7_number_79 rfl (lv_at hl 3 rfl) ?_
              refine lv_isub hx hb dX7_number_80 ?_
              refine wv_ti (pk_sub (by omega)) ?_
              refine lv_bipush (v := nI 9) hx hb dX7_number_81 (by decide) ?_
              refine wv_icmp_ge (tgt := 122) hx hb (by omega) (by omega) dX7_number_83 (by decide) (fun c83 => ?_) (fun c83 => ?_)
              · skip
                have hE9 : nuE t9 ty sp vb = nuQ t9 ty sp vb + d := by rw [hrn, show 9 - d = 0 by omega]; rfl
                refine lv_aload_n hx hb dX7_number_122 rfl (lv_at hl 0 rfl) ?_
                refine lv_iload_n hx hb dX7_number_123 rfl (lv_at hl 1 rfl) ?_
                refine wv_ifeqB (tgt := 142) hx hb dX7_number_124 (by decide) (fun c124 => ?_) (fun c124 => ?_)
                · skip
                  refine lv_aload_n hx hb dX7_number_142 rfl (lv_at hl 0 rfl) ?_
                  refine va_get (D := D) (ci := 5) (C := RX7) (T := TX7) (N := 15) hx hb hts hinX7 hown hK hP 0 rfl rfl 14 (by decide) (hts (.fieldLink RX7 182 "NearRanksModel" "given" "J") (by decide +kernel)) (fun _ h9 => h9) rfl dX7_number_143 ?_
                  refine va_put (D := D) (ci := 5) (v := .long gv) (ty := .long) (C := RX7) (T := TX7) (N := 15) hx hb hts hinX7 tyX7 tyX7_ok nmX7 hown hK hP hD hS 0 rfl rfl 14 (by decide) (hts (.fieldLink RX7 182 "NearRanksModel" "given" "J") (by decide +kernel)) (fun _ h9 => h9) rfl (by decide +kernel) rfl rfl (Nat.le_of_ble_eq_true rfl) dX7_number_146 (fun H locs hP hD hS => ?_)
                  have hP : va_P D vwCl (ModC mo sa pa ha ta cJ cI (sM n b fl me st lk cm v nu) pt hd (tN t9) ps ru ty rf lks lo1 hi1 (nuQ t9 ty sp vb + d) cd pl gv) H := hP
                  have hD : va_D _ (ModC mo sa pa ha ta cJ cI (sM n b fl me st lk cm v nu) pt hd (tN t9) ps ru ty rf lks lo1 hi1 (nuQ t9 ty sp vb + d) cd pl gv) := hD
                  refine lv_aload_n hx hb dX7_number_149 rfl (lv_at hl 0 rfl) ?_
                  refine lv_iload_n hx hb dX7_number_150 rfl (lv_at hl 1 rfl) ?_
                  refine wv_ifeqB (tgt := 161) hx hb dX7_number_151 (by decide) (fun c151 => ?_) (fun c151 => by exfalso; rw [c124] at c151; cases c151)
                  refine lv_lload hx hb dX7_number_161 (lv_at hl 4 rfl) ?_
                  refine lv_l2i (v := nI (dgv t9 (nuQ t9 ty sp vb) d)) hx hb dX7_number_163 (lN_i _) ?_
                  refine va_put (D := D) (ci := 5) (v := .int (nI (dgv t9 (nuQ t9 ty sp vb) d))) (ty := .int) (C := RX7) (T := TX7) (N := 15) hx hb hts hinX7 tyX7 tyX7_ok nmX7 hown hK hP hD hS 0 rfl rfl 13 (by decide) (hts (.fieldLink RX7 186 "NearRanksModel" "place" "I") (by decide +kernel)) (fun _ h9 => h9) rfl (by decide +kernel) rfl rfl (Nat.le_of_ble_eq_true rfl) dX7_number_164 (fun H locs hP hD hS => ?_)
                  have hP : va_P D vwCl (ModC mo sa pa ha ta cJ cI (sM n b fl me st lk cm v nu) pt hd (tN t9) ps ru ty rf lks lo1 hi1 (nuQ t9 ty sp vb + d) cd (nI (dgv t9 (nuQ t9 ty sp vb) d)) gv) H := hP
                  have hD : va_D _ (ModC mo sa pa ha ta cJ cI (sM n b fl me st lk cm v nu) pt hd (tN t9) ps ru ty rf lks lo1 hi1 (nuQ t9 ty sp vb + d) cd (nI (dgv t9 (nuQ t9 ty sp vb) d)) gv) := hD
                  refine lv_aload_n hx hb dX7_number_167 rfl (lv_at hl 0 rfl) ?_
                  refine va_get (D := D) (ci := 5) (C := RX7) (T := TX7) (N := 15) hx hb hts hinX7 hown hK hP 0 rfl rfl 11 (by decide) (hts (.fieldLink RX7 160 "NearRanksModel" "spot" "I") (by decide +kernel)) (fun _ h9 => h9) rfl dX7_number_168 ?_
                  refine lv_iload_n hx hb dX7_number_171 rfl (lv_at hl 3 rfl) ?_
                  refine wv_icmp_le (tgt := 190) hx hb (by omega) (by omega) dX7_number_172 (by decide) (fun c172 => ?_) (fun c172 => ?_)
                  · skip
                    refine lv_iconst (v := nI 0) hx hb dX7_number_190 (by decide) ?_
                    have ew0_sp : ncP t9 ty sp vb = nuQ t9 ty sp vb + d := by unfold ncP; first | (rw [if_pos hs8, hE9]; done) | (rw [if_neg (by rw [hs8]; decide)]; done)
                    have ew0_pl : nmL t9 ty sp vb pl = nI (dgv t9 (nuQ t9 ty sp vb) d) := by unfold nmL; first | (rw [if_neg (by rw [hs8]; decide)]; done) | (rw [if_pos hs8, if_pos c124]; done) | (rw [if_pos hs8, if_neg (by rw [c124]; decide)]; unfold nuV; rw [hE9, Nat.add_sub_cancel_left]; done)
                    have ew0_gv : nmG t9 ty sp vb gv = gv := by unfold nmG; first | (rw [if_neg (by rw [hs8]; decide)]; done) | (rw [if_pos hs8, if_neg (by rw [c124]; decide)]; done) | (rw [if_pos hs8, if_pos c124]; unfold nuV; rw [hE9, Nat.add_sub_cancel_left]; first | (rw [if_pos c128]; done) | (rw [if_neg (by rw [c128]; decide)]; done))
                    exact wv_zretM (b := false) hx hb hr hlocks hP hD hS rfl (by first | (unfold nmO ncC; rw [hs8]; rfl) | (unfold nmO ncC; rw [hs8, hE9, decide_eq_false (by omega)]; rfl) | (unfold nmO ncC; rw [hs8, hE9, decide_eq_true (by omega), c183]; rfl)) (by rw [ew0_gv, ew0_pl, ew0_sp]) dX7_number_191
                  · skip
                    refine lv_aload_n hx hb dX7_number_175 rfl (lv_at hl 0 rfl) ?_
                    refine lv_bipush (v := nI 48) hx hb dX7_number_176 (by decide) ?_
                    refine lv_bipush (v := nI 57) hx hb dX7_number_178 (by decide) ?_
                    refine wv_callPi (As := [.int (nI 48), .int (nI 57)]) (rest := []) ⟨hx, hb, hml, hown, hts⟩ (kX7_isAt l D mo sa pa ha ta cJ cI n b fl me st lk cm v nu pt hd t9 ps ru ty rf lks lo1 hi1 (nuQ t9 ty sp vb + d) cd (nI (dgv t9 (nuQ t9 ty sp vb) d)) gv 48 57 (by first | assumption | omega) (by first | assumption | omega) (by first | assumption | omega) (by first | assumption | omega) (by first | assumption | omega)) (cwV 2 hts gX7_number_X7_isAt rfl rfl rfl (by decide +kernel) ⟨Nat.le_of_ble_eq_true rfl, Nat.le_of_ble_eq_true rfl⟩) hK hN hP hS hA [0, 1, 2, 3, 4] [0, 1] rfl rfl 0 5 rfl rfl rfl rfl hl.1 rfl (Nat.le_of_ble_eq_true rfl) dX7_number_180 ⟨Nat.zero_le _, Nat.zero_le _⟩ (fun H locs hz9 hP hS => ?_)
                    refine wv_ifneB (tgt := 190) hx hb dX7_number_183 (by decide) (fun c183 => ?_) (fun c183 => ?_)
                    · skip
                      refine lv_iconst (v := nI 0) hx hb dX7_number_190 (by decide) ?_
                      have ew0_sp : ncP t9 ty sp vb = nuQ t9 ty sp vb + d := by unfold ncP; first | (rw [if_pos hs8, hE9]; done) | (rw [if_neg (by rw [hs8]; decide)]; done)
                      have ew0_pl : nmL t9 ty sp vb pl = nI (dgv t9 (nuQ t9 ty sp vb) d) := by unfold nmL; first | (rw [if_neg (by rw [hs8]; decide)]; done) | (rw [if_pos hs8, if_pos c124]; done) | (rw [if_pos hs8, if_neg (by rw [c124]; decide)]; unfold nuV; rw [hE9, Nat.add_sub_cancel_left]; done)
                      have ew0_gv : nmG t9 ty sp vb gv = gv := by unfold nmG; first | (rw [if_neg (by rw [hs8]; decide)]; done) | (rw [if_pos hs8, if_neg (by rw [c124]; decide)]; done) | (rw [if_pos hs8, if_pos c124]; unfold nuV; rw [hE9, Nat.add_sub_cancel_left]; first | (rw [if_pos c128]; done) | (rw [if_neg (by rw [c128]; decide)]; done))
                      exact wv_zretM (b := false) hx hb hr hlocks hP hD hS rfl (by first | (unfold nmO ncC; rw [hs8]; rfl) | (unfold nmO ncC; rw [hs8, hE9, decide_eq_false (by omega)]; rfl) | (unfold nmO ncC; rw [hs8, hE9, decide_eq_true (by omega), c183]; rfl)) (by rw [ew0_gv, ew0_pl, ew0_sp]) dX7_number_191
                    · skip
                      refine lv_iconst (v := nI 1) hx hb dX7_number_186 (by decide) ?_
                      refine lv_goto (tgt := 191) hx hb dX7_number_187 (by decide) ?_
                      have ew0_sp : ncP t9 ty sp vb = nuQ t9 ty sp vb + d := by unfold ncP; first | (rw [if_pos hs8, hE9]; done) | (rw [if_neg (by rw [hs8]; decide)]; done)
                      have ew0_pl : nmL t9 ty sp vb pl = nI (dgv t9 (nuQ t9 ty sp vb) d) := by unfold nmL; first | (rw [if_neg (by rw [hs8]; decide)]; done) | (rw [if_pos hs8, if_pos c124]; done) | (rw [if_pos hs8, if_neg (by rw [c124]; decide)]; unfold nuV; rw [hE9, Nat.add_sub_cancel_left]; done)
                      have ew0_gv : nmG t9 ty sp vb gv = gv := by unfold nmG; first | (rw [if_neg (by rw [hs8]; decide)]; done) | (rw [if_pos hs8, if_neg (by rw [c124]; decide)]; done) | (rw [if_pos hs8, if_pos c124]; unfold nuV; rw [hE9, Nat.add_sub_cancel_left]; first | (rw [if_pos c128]; done) | (rw [if_neg (by rw [c128]; decide)]; done))
                      exact wv_zretM (b := true) hx hb hr hlocks hP hD hS rfl (by first | (unfold nmO ncC; rw [hs8]; rfl) | (unfold nmO ncC; rw [hs8, hE9, decide_eq_false (by omega)]; rfl) | (unfold nmO ncC; rw [hs8, hE9, decide_eq_true (by omega), c183]; rfl)) (by rw [ew0_gv, ew0_pl, ew0_sp]) dX7_number_191
                · skip
                  refine lv_iload_n hx hb dX7_number_127 rfl (lv_at hl 2 rfl) ?_
                  refine wv_ifeqB (tgt := 137) hx hb dX7_number_128 (by decide) (fun c128 => ?_) (fun c128 => ?_)
                  · skip
                    refine lv_lload hx hb dX7_number_137 (lv_at hl 4 rfl) ?_
                    refine lv_goto (tgt := 146) hx hb dX7_number_139 (by decide) ?_
                    refine va_put (D := D) (ci := 5) (v := .long (lN (dgv t9 (nuQ t9 ty sp vb) d))) (ty := .long) (C := RX7) (T := TX7) (N := 15) hx hb hts hinX7 tyX7 tyX7_ok nmX7 hown hK hP hD hS 0 rfl rfl 14 (by decide) (hts (.fieldLink RX7 182 "NearRanksModel" "given" "J") (by decide +kernel)) (fun _ h9 => h9) rfl (by decide +kernel) rfl rfl (Nat.le_of_ble_eq_true rfl) dX7_number_146 (fun H locs hP hD hS => ?_)
                    have hP : va_P D vwCl (ModC mo sa pa ha ta cJ cI (sM n b fl me st lk cm v nu) pt hd (tN t9) ps ru ty rf lks lo1 hi1 (nuQ t9 ty sp vb + d) cd pl (lN (dgv t9 (nuQ t9 ty sp vb) d))) H := hP
                    have hD : va_D _ (ModC mo sa pa ha ta cJ cI (sM n b fl me st lk cm v nu) pt hd (tN t9) ps ru ty rf lks lo1 hi1 (nuQ t9 ty sp vb + d) cd pl (lN (dgv t9 (nuQ t9 ty sp vb) d))) := hD
                    refine lv_aload_n hx hb dX7_number_149 rfl (lv_at hl 0 rfl) ?_
                    refine lv_iload_n hx hb dX7_number_150 rfl (lv_at hl 1 rfl) ?_
                    refine wv_ifeqB (tgt := 161) hx hb dX7_number_151 (by decide) (fun c151 => by exfalso; rw [c124] at c151; cases c151) (fun c151 => ?_)
                    refine lv_aload_n hx hb dX7_number_154 rfl (lv_at hl 0 rfl) ?_
                    refine va_get (D := D) (ci := 5) (C := RX7) (T := TX7) (N := 15) hx hb hts hinX7 hown hK hP 0 rfl rfl 13 (by decide) (hts (.fieldLink RX7 186 "NearRanksModel" "place" "I") (by decide +kernel)) (fun _ h9 => h9) rfl dX7_number_155 ?_
                    refine lv_goto (tgt := 164) hx hb dX7_number_158 (by decide) ?_
                    refine va_put (D := D) (ci := 5) (v := .int pl) (ty := .int) (C := RX7) (T := TX7) (N := 15) hx hb hts hinX7 tyX7 tyX7_ok nmX7 hown hK hP hD hS 0 rfl rfl 13 (by decide) (hts (.fieldLink RX7 186 "NearRanksModel" "place" "I") (by decide +kernel)) (fun _ h9 => h9) rfl (by decide +kernel) rfl rfl (Nat.le_of_ble_eq_true rfl) dX7_number_164 (fun H locs hP hD hS => ?_)
                    have hP : va_P D vwCl (ModC mo sa pa ha ta cJ cI (sM n b fl me st lk cm v nu) pt hd (tN t9) ps ru ty rf lks lo1 hi1 (nuQ t9 ty sp vb + d) cd pl (lN (dgv t9 (nuQ t9 ty sp vb) d))) H := hP
                    have hD : va_D _ (ModC mo sa pa ha ta cJ cI (sM n b fl me st lk cm v nu) pt hd (tN t9) ps ru ty rf lks lo1 hi1 (nuQ t9 ty sp vb + d) cd pl (lN (dgv t9 (nuQ t9 ty sp vb) d))) := hD
                    refine lv_aload_n hx hb dX7_number_167 rfl (lv_at hl 0 rfl) ?_
                    refine va_get (D := D) (ci := 5) (C := RX7) (T := TX7) (N := 15) hx hb hts hinX7 hown hK hP 0 rfl rfl 11 (by decide) (hts (.fieldLink RX7 160 "NearRanksModel" "spot" "I") (by decide +kernel)) (fun _ h9 => h9) rfl dX7_number_168 ?_
                    refine lv_iload_n hx hb dX7_number_171 rfl (lv_at hl 3 rfl) ?_
                    refine wv_icmp_le (tgt := 190) hx hb (by omega) (by omega) dX7_number_172 (by decide) (fun c172 => ?_) (fun c172 => ?_)
                    · skip
                      refine lv_iconst (v := nI 0) hx hb dX7_number_190 (by decide) ?_
                      have ew0_sp : ncP t9 ty sp vb = nuQ t9 ty sp vb + d := by unfold ncP; first | (rw [if_pos hs8, hE9]; done) | (rw [if_neg (by rw [hs8]; decide)]; done)
                      have ew0_pl : nmL t9 ty sp vb pl = pl := by unfold nmL; first | (rw [if_neg (by rw [hs8]; decide)]; done) | (rw [if_pos hs8, if_pos c124]; done) | (rw [if_pos hs8, if_neg (by rw [c124]; decide)]; unfold nuV; rw [hE9, Nat.add_sub_cancel_left]; done)
                      have ew0_gv : nmG t9 ty sp vb gv = lN (dgv t9 (nuQ t9 ty sp vb) d) := by unfold nmG; first | (rw [if_neg (by rw [hs8]; decide)]; done) | (rw [if_pos hs8, if_neg (by rw [c124]; decide)]; done) | (rw [if_pos hs8, if_pos c124]; unfold nuV; rw [hE9, Nat.add_sub_cancel_left]; first | (rw [if_pos c128]; done) | (rw [if_neg (by rw [c128]; decide)]; done))
                      exact wv_zretM (b := false) hx hb hr hlocks hP hD hS rfl (by first | (unfold nmO ncC; rw [hs8]; rfl) | (unfold nmO ncC; rw [hs8, hE9, decide_eq_false (by omega)]; rfl) | (unfold nmO ncC; rw [hs8, hE9, decide_eq_true (by omega), c183]; rfl)) (by rw [ew0_gv, ew0_pl, ew0_sp]) dX7_number_191
                    · skip
                      refine lv_aload_n hx hb dX7_number_175 rfl (lv_at hl 0 rfl) ?_
                      refine lv_bipush (v := nI 48) hx hb dX7_number_176 (by decide) ?_
                      refine lv_bipush (v := nI 57) hx hb dX7_number_178 (by decide) ?_
                      refine wv_callPi (As := [.int (nI 48), .int (nI 57)]) (rest := []) ⟨hx, hb, hml, hown, hts⟩ (kX7_isAt l D mo sa pa ha ta cJ cI n b fl me st lk cm v nu pt hd t9 ps ru ty rf lks lo1 hi1 (nuQ t9 ty sp vb + d) cd pl (lN (dgv t9 (nuQ t9 ty sp vb) d)) 48 57 (by first | assumption | omega) (by first | assumption | omega) (by first | assumption | omega) (by first | assumption | omega) (by first | assumption | omega)) (cwV 2 hts gX7_number_X7_isAt rfl rfl rfl (by decide +kernel) ⟨Nat.le_of_ble_eq_true rfl, Nat.le_of_ble_eq_true rfl⟩) hK hN hP hS hA [0, 1, 2, 3, 4] [0, 1] rfl rfl 0 5 rfl rfl rfl rfl hl.1 rfl (Nat.le_of_ble_eq_true rfl) dX7_number_180 ⟨Nat.zero_le _, Nat.zero_le _⟩ (fun H locs hz9 hP hS => ?_)
                      refine wv_ifneB (tgt := 190) hx hb dX7_number_183 (by decide) (fun c183 => ?_) (fun c183 => ?_)
                      · skip
                        refine lv_iconst (v := nI 0) hx hb dX7_number_190 (by decide) ?_
                        have ew0_sp : ncP t9 ty sp vb = nuQ t9 ty sp vb + d := by unfold ncP; first | (rw [if_pos hs8, hE9]; done) | (rw [if_neg (by rw [hs8]; decide)]; done)
                        have ew0_pl : nmL t9 ty sp vb pl = pl := by unfold nmL; first | (rw [if_neg (by rw [hs8]; decide)]; done) | (rw [if_pos hs8, if_pos c124]; done) | (rw [if_pos hs8, if_neg (by rw [c124]; decide)]; unfold nuV; rw [hE9, Nat.add_sub_cancel_left]; done)
                        have ew0_gv : nmG t9 ty sp vb gv = lN (dgv t9 (nuQ t9 ty sp vb) d) := by unfold nmG; first | (rw [if_neg (by rw [hs8]; decide)]; done) | (rw [if_pos hs8, if_neg (by rw [c124]; decide)]; done) | (rw [if_pos hs8, if_pos c124]; unfold nuV; rw [hE9, Nat.add_sub_cancel_left]; first | (rw [if_pos c128]; done) | (rw [if_neg (by rw [c128]; decide)]; done))
                        exact wv_zretM (b := false) hx hb hr hlocks hP hD hS rfl (by first | (unfold nmO ncC; rw [hs8]; rfl) | (unfold nmO ncC; rw [hs8, hE9, decide_eq_false (by omega)]; rfl) | (unfold nmO ncC; rw [hs8, hE9, decide_eq_true (by omega), c183]; rfl)) (by rw [ew0_gv, ew0_pl, ew0_sp]) dX7_number_191
                      · skip
                        refine lv_iconst (v := nI 1) hx hb dX7_number_186 (by decide) ?_
                        refine lv_goto (tgt := 191) hx hb dX7_number_187 (by decide) ?_
                        have ew0_sp : ncP t9 ty sp vb = nuQ t9 ty sp vb + d := by unfold ncP; first | (rw [if_pos hs8, hE9]; done) | (rw [if_neg (by rw [hs8]; decide)]; done)
                        have ew0_pl : nmL t9 ty sp vb pl = pl := by unfold nmL; first | (rw [if_neg (by rw [hs8]; decide)]; done) | (rw [if_pos hs8, if_pos c124]; done) | (rw [if_pos hs8, if_neg (by rw [c124]; decide)]; unfold nuV; rw [hE9, Nat.add_sub_cancel_left]; done)
                        have ew0_gv : nmG t9 ty sp vb gv = lN (dgv t9 (nuQ t9 ty sp vb) d) := by unfold nmG; first | (rw [if_neg (by rw [hs8]; decide)]; done) | (rw [if_pos hs8, if_neg (by rw [c124]; decide)]; done) | (rw [if_pos hs8, if_pos c124]; unfold nuV; rw [hE9, Nat.add_sub_cancel_left]; first | (rw [if_pos c128]; done) | (rw [if_neg (by rw [c128]; decide)]; done))
                        exact wv_zretM (b := true) hx hb hr hlocks hP hD hS rfl (by first | (unfold nmO ncC; rw [hs8]; rfl) | (unfold nmO ncC; rw [hs8, hE9, decide_eq_false (by omega)]; rfl) | (unfold nmO ncC; rw [hs8, hE9, decide_eq_true (by omega), c183]; rfl)) (by rw [ew0_gv, ew0_pl, ew0_sp]) dX7_number_191
                  · skip
                    refine lv_lload hx hb dX7_number_131 (lv_at hl 4 rfl) ?_
                    refine lv_lneg hx hb dX7_number_133 ?_
                    refine lv_goto (tgt := 146) hx hb dX7_number_134 (by decide) ?_
                    refine va_put (D := D) (ci := 5) (v := .long (-(lN (dgv t9 (nuQ t9 ty sp vb) d)))) (ty := .long) (C := RX7) (T := TX7) (N := 15) hx hb hts hinX7 tyX7 tyX7_ok nmX7 hown hK hP hD hS 0 rfl rfl 14 (by decide) (hts (.fieldLink RX7 182 "NearRanksModel" "given" "J") (by decide +kernel)) (fun _ h9 => h9) rfl (by decide +kernel) rfl rfl (Nat.le_of_ble_eq_true rfl) dX7_number_146 (fun H locs hP hD hS => ?_)
                    have hP : va_P D vwCl (ModC mo sa pa ha ta cJ cI (sM n b fl me st lk cm v nu) pt hd (tN t9) ps ru ty rf lks lo1 hi1 (nuQ t9 ty sp vb + d) cd pl (-(lN (dgv t9 (nuQ t9 ty sp vb) d)))) H := hP
                    have hD : va_D _ (ModC mo sa pa ha ta cJ cI (sM n b fl me st lk cm v nu) pt hd (tN t9) ps ru ty rf lks lo1 hi1 (nuQ t9 ty sp vb + d) cd pl (-(lN (dgv t9 (nuQ t9 ty sp vb) d)))) := hD
                    refine lv_aload_n hx hb dX7_number_149 rfl (lv_at hl 0 rfl) ?_
                    refine lv_iload_n hx hb dX7_number_150 rfl (lv_at hl 1 rfl) ?_
                    refine wv_ifeqB (tgt := 161) hx hb dX7_number_151 (by decide) (fun c151 => by exfalso; rw [c124] at c151; cases c151) (fun c151 => ?_)
                    refine lv_aload_n hx hb dX7_number_154 rfl (lv_at hl 0 rfl) ?_
                    refine va_get (D := D) (ci := 5) (C := RX7) (T := TX7) (N := 15) hx hb hts hinX7 hown hK hP 0 rfl rfl 13 (by decide) (hts (.fieldLink RX7 186 "NearRanksModel" "place" "I") (by decide +kernel)) (fun _ h9 => h9) rfl dX7_number_155 ?_
                    refine lv_goto (tgt := 164) hx hb dX7_number_158 (by decide) ?_
                    refine va_put (D := D) (ci := 5) (v := .int pl) (ty := .int) (C := RX7) (T := TX7) (N := 15) hx hb hts hinX7 tyX7 tyX7_ok nmX7 hown hK hP hD hS 0 rfl rfl 13 (by decide) (hts (.fieldLink RX7 186 "NearRanksModel" "place" "I") (by decide +kernel)) (fun _ h9 => h9) rfl (by decide +kernel) rfl rfl (Nat.le_of_ble_eq_true rfl) dX7_number_164 (fun H locs hP hD hS => ?_)
                    have hP : va_P D vwCl (ModC mo sa pa ha ta cJ cI (sM n b fl me st lk cm v nu) pt hd (tN t9) ps ru ty rf lks lo1 hi1 (nuQ t9 ty sp vb + d) cd pl (-(lN (dgv t9 (nuQ t9 ty sp vb) d)))) H := hP
                    have hD : va_D _ (ModC mo sa pa ha ta cJ cI (sM n b fl me st lk cm v nu) pt hd (tN t9) ps ru ty rf lks lo1 hi1 (nuQ t9 ty sp vb + d) cd pl (-(lN (dgv t9 (nuQ t9 ty sp vb) d)))) := hD
                    refine lv_aload_n hx hb dX7_number_167 rfl (lv_at hl 0 rfl) ?_
                    refine va_get (D := D) (ci := 5) (C := RX7) (T := TX7) (N := 15) hx hb hts hinX7 hown hK hP 0 rfl rfl 11 (by decide) (hts (.fieldLink RX7 160 "NearRanksModel" "spot" "I") (by decide +kernel)) (fun _ h9 => h9) rfl dX7_number_168 ?_
                    refine lv_iload_n hx hb dX7_number_171 rfl (lv_at hl 3 rfl) ?_
                    refine wv_icmp_le (tgt := 190) hx hb (by omega) (by omega) dX7_number_172 (by decide) (fun c172 => ?_) (fun c172 => ?_)
                    · skip
                      refine lv_iconst (v := nI 0) hx hb dX7_number_190 (by decide) ?_
                      have ew0_sp : ncP t9 ty sp vb = nuQ t9 ty sp vb + d := by unfold ncP; first | (rw [if_pos hs8, hE9]; done) | (rw [if_neg (by rw [hs8]; decide)]; done)
                      have ew0_pl : nmL t9 ty sp vb pl = pl := by unfold nmL; first | (rw [if_neg (by rw [hs8]; decide)]; done) | (rw [if_pos hs8, if_pos c124]; done) | (rw [if_pos hs8, if_neg (by rw [c124]; decide)]; unfold nuV; rw [hE9, Nat.add_sub_cancel_left]; done)
                      have ew0_gv : nmG t9 ty sp vb gv = -(lN (dgv t9 (nuQ t9 ty sp vb) d)) := by unfold nmG; first | (rw [if_neg (by rw [hs8]; decide)]; done) | (rw [if_pos hs8, if_neg (by rw [c124]; decide)]; done) | (rw [if_pos hs8, if_pos c124]; unfold nuV; rw [hE9, Nat.add_sub_cancel_left]; first | (rw [if_pos c128]; done) | (rw [if_neg (by rw [c128]; decide)]; done))
                      exact wv_zretM (b := false) hx hb hr hlocks hP hD hS rfl (by first | (unfold nmO ncC; rw [hs8]; rfl) | (unfold nmO ncC; rw [hs8, hE9, decide_eq_false (by omega)]; rfl) | (unfold nmO ncC; rw [hs8, hE9, decide_eq_true (by omega), c183]; rfl)) (by rw [ew0_gv, ew0_pl, ew0_sp]) dX7_number_191
                    · skip
                      refine lv_aload_n hx hb dX7_number_175 rfl (lv_at hl 0 rfl) ?_
                      refine lv_bipush (v := nI 48) hx hb dX7_number_176 (by decide) ?_
                      refine lv_bipush (v := nI 57) hx hb dX7_number_178 (by decide) ?_
                      refine wv_callPi (As := [.int (nI 48), .int (nI 57)]) (rest := []) ⟨hx, hb, hml, hown, hts⟩ (kX7_isAt l D mo sa pa ha ta cJ cI n b fl me st lk cm v nu pt hd t9 ps ru ty rf lks lo1 hi1 (nuQ t9 ty sp vb + d) cd pl (-(lN (dgv t9 (nuQ t9 ty sp vb) d))) 48 57 (by first | assumption | omega) (by first | assumption | omega) (by first | assumption | omega) (by first | assumption | omega) (by first | assumption | omega)) (cwV 2 hts gX7_number_X7_isAt rfl rfl rfl (by decide +kernel) ⟨Nat.le_of_ble_eq_true rfl, Nat.le_of_ble_eq_true rfl⟩) hK hN hP hS hA [0, 1, 2, 3, 4] [0, 1] rfl rfl 0 5 rfl rfl rfl rfl hl.1 rfl (Nat.le_of_ble_eq_true rfl) dX7_number_180 ⟨Nat.zero_le _, Nat.zero_le _⟩ (fun H locs hz9 hP hS => ?_)
                      refine wv_ifneB (tgt := 190) hx hb dX7_number_183 (by decide) (fun c183 => ?_) (fun c183 => ?_)
                      · skip
                        refine lv_iconst (v := nI 0) hx hb dX7_number_190 (by decide) ?_
                        have ew0_sp : ncP t9 ty sp vb = nuQ t9 ty sp vb + d := by unfold ncP; first | (rw [if_pos hs8, hE9]; done) | (rw [if_neg (by rw [hs8]; decide)]; done)
                        have ew0_pl : nmL t9 ty sp vb pl = pl := by unfold nmL; first | (rw [if_neg (by rw [hs8]; decide)]; done) | (rw [if_pos hs8, if_pos c124]; done) | (rw [if_pos hs8, if_neg (by rw [c124]; decide)]; unfold nuV; rw [hE9, Nat.add_sub_cancel_left]; done)
                        have ew0_gv : nmG t9 ty sp vb gv = -(lN (dgv t9 (nuQ t9 ty sp vb) d)) := by unfold nmG; first | (rw [if_neg (by rw [hs8]; decide)]; done) | (rw [if_pos hs8, if_neg (by rw [c124]; decide)]; done) | (rw [if_pos hs8, if_pos c124]; unfold nuV; rw [hE9, Nat.add_sub_cancel_left]; first | (rw [if_pos c128]; done) | (rw [if_neg (by rw [c128]; decide)]; done))
                        exact wv_zretM (b := false) hx hb hr hlocks hP hD hS rfl (by first | (unfold nmO ncC; rw [hs8]; rfl) | (unfold nmO ncC; rw [hs8, hE9, decide_eq_false (by omega)]; rfl) | (unfold nmO ncC; rw [hs8, hE9, decide_eq_true (by omega), c183]; rfl)) (by rw [ew0_gv, ew0_pl, ew0_sp]) dX7_number_191
                      · skip
                        refine lv_iconst (v := nI 1) hx hb dX7_number_186 (by decide) ?_
                        refine lv_goto (tgt := 191) hx hb dX7_number_187 (by decide) ?_
                        have ew0_sp : ncP t9 ty sp vb = nuQ t9 ty sp vb + d := by unfold ncP; first | (rw [if_pos hs8, hE9]; done) | (rw [if_neg (by rw [hs8]; decide)]; done)
                        have ew0_pl : nmL t9 ty sp vb pl = pl := by unfold nmL; first | (rw [if_neg (by rw [hs8]; decide)]; done) | (rw [if_pos hs8, if_pos c124]; done) | (rw [if_pos hs8, if_neg (by rw [c124]; decide)]; unfold nuV; rw [hE9, Nat.add_sub_cancel_left]; done)
                        have ew0_gv : nmG t9 ty sp vb gv = -(lN (dgv t9 (nuQ t9 ty sp vb) d)) := by unfold nmG; first | (rw [if_neg (by rw [hs8]; decide)]; done) | (rw [if_pos hs8, if_neg (by rw [c124]; decide)]; done) | (rw [if_pos hs8, if_pos c124]; unfold nuV; rw [hE9, Nat.add_sub_cancel_left]; first | (rw [if_pos c128]; done) | (rw [if_neg (by rw [c128]; decide)]; done))
                        exact wv_zretM (b := true) hx hb hr hlocks hP hD hS rfl (by first | (unfold nmO ncC; rw [hs8]; rfl) | (unfold nmO ncC; rw [hs8, hE9, decide_eq_false (by omega)]; rfl) | (unfold nmO ncC; rw [hs8, hE9, decide_eq_true (by omega), c183]; rfl)) (by rw [ew0_gv, ew0_pl, ew0_sp]) dX7_number_191
              · skip
                refine lv_ldc2 (v := lN 10) hx hb hown (hts (.constantLong RX7 178 (10)) (by decide +kernel)) dX7_number_86 ?_
                refine lv_lload hx hb dX7_number_89 (lv_at hl 4 rfl) ?_
                refine lv_lmul hx hb dX7_number_91 ?_
                refine wv_tl (lN_mul _ _) ?_
                refine lv_aload_n hx hb dX7_number_92 rfl (lv_at hl 0 rfl) ?_
                refine va_get (D := D) (ci := 5) (C := RX7) (T := TX7) (N := 15) hx hb hts hinX7 hown hK hP 0 rfl rfl 5 (by decide) (hts (.fieldLink RX7 19 "NearRanksModel" "text" "[I") (by decide +kernel)) (fun _ h9 => h9) rfl dX7_number_93 ?_
                refine lv_aload_n hx hb dX7_number_96 rfl (lv_at hl 0 rfl) ?_
                refine va_get (D := D) (ci := 5) (C := RX7) (T := TX7) (N := 15) hx hb hts hinX7 hown hK hP 0 rfl rfl 11 (by decide) (hts (.fieldLink RX7 160 "NearRanksModel" "spot" "I") (by decide +kernel)) (fun _ h9 => h9) rfl dX7_number_97 ?_
                refine wv_iald hx hb hK hP 4 1 rfl rfl (k := nuQ t9 ty sp vb + d) (by omega) (by decide) dX7_number_100 ?_
                refine wv_ti (y := nI (t9 (nuQ t9 ty sp vb + d))) rfl ?_
                refine lv_i2l (v := lN (t9 (nuQ t9 ty sp vb + d))) hx hb dX7_number_101 (nI_l (by omega)) ?_
                refine lv_ladd hx hb dX7_number_102 ?_
                refine wv_tl (lN_add _ _) ?_
                refine lv_ldc2 (v := lN 48) hx hb hown (hts (.constantLong RX7 180 (48)) (by decide +kernel)) dX7_number_103 ?_
                refine lv_lsub hx hb dX7_number_106 ?_
                refine wv_tl (lN_sub (by omega)) ?_
                refine lv_lstore (lv' := [(4, .long (lN (((10 * (dgv t9 (nuQ t9 ty sp vb) d)) + (t9 (nuQ t9 ty sp vb + d))) - 48))), (0, .ref mo), (1, .int (bI vb)), (2, .int (bI (nuN t9 ty sp vb))), (3, .int (nI (nuQ t9 ty sp vb)))]) hx hb dX7_number_107 hl (by decide) rfl (fun ls hl => ?_)
                refine lv_aload_n hx hb dX7_number_109 rfl (lv_at hl 1 rfl) ?_
                refine lv_dup hx hb dX7_number_110 rfl ?_
                refine va_get (D := D) (ci := 5) (C := RX7) (T := TX7) (N := 15) hx hb hts hinX7 hown hK hP 0 rfl rfl 11 (by decide) (hts (.fieldLink RX7 160 "NearRanksModel" "spot" "I") (by decide +kernel)) (fun _ h9 => h9) rfl dX7_number_111 ?_
                refine lv_iconst (v := nI 1) hx hb dX7_number_114 (by decide) ?_
                refine lv_iadd hx hb dX7_number_115 ?_
                refine wv_ti (nI_add _ _) ?_
                refine va_put (D := D) (ci := 5) (v := .int (nI ((nuQ t9 ty sp vb + d) + 1))) (ty := .int) (C := RX7) (T := TX7) (N := 15) hx hb hts hinX7 tyX7 tyX7_ok nmX7 hown hK hP hD hS 0 rfl rfl 11 (by decide) (hts (.fieldLink RX7 160 "NearRanksModel" "spot" "I") (by decide +kernel)) (fun _ h9 => h9) rfl (by decide +kernel) rfl rfl (Nat.le_of_ble_eq_true rfl) dX7_number_116 (fun H locs hP hD hS => ?_)
                have hP : va_P D vwCl (ModC mo sa pa ha ta cJ cI (sM n b fl me st lk cm v nu) pt hd (tN t9) ps ru ty rf lks lo1 hi1 ((nuQ t9 ty sp vb + d) + 1) cd pl gv) H := hP
                have hD : va_D _ (ModC mo sa pa ha ta cJ cI (sM n b fl me st lk cm v nu) pt hd (tN t9) ps ru ty rf lks lo1 hi1 ((nuQ t9 ty sp vb + d) + 1) cd pl gv) := hD
                refine lv_goto (tgt := 64) hx hb dX7_number_119 (by decide) ?_
                have el_l4 : dgv t9 (nuQ t9 ty sp vb) (d + 1) = ((10 * (dgv t9 (nuQ t9 ty sp vb) d)) + (t9 (nuQ t9 ty sp vb + d))) - 48 := by show 10 * dgv _ _ _ + (_ - 48) = _; omega
                have el_w0_sp : nuQ t9 ty sp vb + (d + 1) = (nuQ t9 ty sp vb + d) + 1 := by rfl
                exact ih64 (d + 1) (by omega) (by omega) (by omega) (by rw [hrn, show 9 - d = (9 - (d + 1)) + 1 by omega, rn_t c72]; rfl) _ _ (by first | (rw [el_l4, el_w0_sp]; exact hP) | (simp only [el_l4, el_w0_sp]; exact hP) | exact hP) (by first | (rw [el_l4, el_w0_sp]; exact hD) | (simp only [el_l4, el_w0_sp]; exact hD) | exact hD) hS ls (by first | (rw [el_l4, el_w0_sp]; exact lv_sub hl [1, 2, 3, 4, 0] rfl) | (simp only [el_l4, el_w0_sp]; exact lv_sub hl [1, 2, 3, 4, 0] rfl) | exact lv_sub hl [1, 2, 3, 4, 0] rfl)
        exact loop64 (9 - 0 + 1) 0 (by omega) (by omega) (by omega) (by rfl) _ _ (by first | (rw [el_l4, el_l2, el_w0_sp, el_l3]; exact hP) | (simp only [el_l4, el_l2, el_w0_sp, el_l3]; exact hP) | exact hP) (by first | (rw [el_l4, el_l2, el_w0_sp, el_l3]; exact hD) | (simp only [el_l4, el_l2, el_w0_sp, el_l3]; exact hD) | exact hD) hS ls (by first | (rw [el_l4, el_l2, el_w0_sp, el_l3]; exact lv_sub hl [3, 4, 2, 1, 0] rfl) | (simp only [el_l4, el_l2, el_w0_sp, el_l3]; exact lv_sub hl [3, 4, 2, 1, 0] rfl) | exact lv_sub hl [3, 4, 2, 1, 0] rfl)
      · skip
        have hng : nuN t9 ty sp vb = true := by unfold nuN; rw [c18, c29]; rfl
        refine lv_iconst (v := nI 1) hx hb dX7_number_32 (by decide) ?_
        refine lv_goto (tgt := 37) hx hb dX7_number_33 (by decide) ?_
        refine lv_istore_n (lv' := [(2, .int (nI 1)), (0, .ref mo), (1, .int (bI vb))]) hx hb dX7_number_37 rfl hl (by decide) rfl (fun ls hl => ?_)
        refine lv_aload_n hx hb dX7_number_38 rfl (lv_at hl 1 rfl) ?_
        refine lv_dup hx hb dX7_number_39 rfl ?_
        refine va_get (D := D) (ci := 5) (C := RX7) (T := TX7) (N := 15) hx hb hts hinX7 hown hK hP 0 rfl rfl 11 (by decide) (hts (.fieldLink RX7 160 "NearRanksModel" "spot" "I") (by decide +kernel)) (fun _ h9 => h9) rfl dX7_number_40 ?_
        refine lv_iload_n hx hb dX7_number_43 rfl (lv_at hl 0 rfl) ?_
        refine lv_if_eq (tgt := 51) hx hb dX7_number_44 (by decide) (fun h => absurd h (by decide)) (fun _ => ?_)
        refine lv_iconst (v := nI 1) hx hb dX7_number_47 (by decide) ?_
        refine lv_goto (tgt := 52) hx hb dX7_number_48 (by decide) ?_
        refine lv_iadd hx hb dX7_number_52 ?_
        refine wv_ti (nI_add _ _) ?_
        refine va_put (D := D) (ci := 5) (v := .int (nI ((skS t9 ty sp) + 1))) (ty := .int) (C := RX7) (T := TX7) (N := 15) hx hb hts hinX7 tyX7 tyX7_ok nmX7 hown hK hP hD hS 0 rfl rfl 11 (by decide) (hts (.fieldLink RX7 160 "NearRanksModel" "spot" "I") (by decide +kernel)) (fun _ h9 => h9) rfl (by decide +kernel) rfl rfl (Nat.le_of_ble_eq_true rfl) dX7_number_53 (fun H locs hP hD hS => ?_)
        have hP : va_P D vwCl (ModC mo sa pa ha ta cJ cI (sM n b fl me st lk cm v nu) pt hd (tN t9) ps ru ty rf lks lo1 hi1 ((skS t9 ty sp) + 1) cd pl gv) H := hP
        have hD : va_D _ (ModC mo sa pa ha ta cJ cI (sM n b fl me st lk cm v nu) pt hd (tN t9) ps ru ty rf lks lo1 hi1 ((skS t9 ty sp) + 1) cd pl gv) := hD
        refine lv_aload_n hx hb dX7_number_56 rfl (lv_at hl 1 rfl) ?_
        refine va_get (D := D) (ci := 5) (C := RX7) (T := TX7) (N := 15) hx hb hts hinX7 hown hK hP 0 rfl rfl 11 (by decide) (hts (.fieldLink RX7 160 "NearRanksModel" "spot" "I") (by decide +kernel)) (fun _ h9 => h9) rfl dX7_number_57 ?_
        refine lv_istore_n (lv' := [(3, .int (nI ((skS t9 ty sp) + 1))), (2, .int (nI 1)), (0, .ref mo), (1, .int (bI vb))]) hx hb dX7_number_60 rfl hl (by decide) rfl (fun ls hl => ?_)
        refine lv_lconst (v := lN 0) hx hb dX7_number_61 rfl ?_
        refine lv_lstore (lv' := [(4, .long (lN 0)), (3, .int (nI ((skS t9 ty sp) + 1))), (2, .int (nI 1)), (0, .ref mo), (1, .int (bI vb))]) hx hb dX7_number_62 hl (by decide) rfl (fun ls hl => ?_)
        have el_l2 : bI (nuN t9 ty sp vb) = nI 1 := by rw [hng]; rfl
        have el_l3 : nuQ t9 ty sp vb = (skS t9 ty sp) + 1 := by first | (simp [nuQ, hng]; done) | (simp [nuQ, hng, c29]; done)
        have el_l4 : dgv t9 (nuQ t9 ty sp vb) 0 = 0 := by rfl
        have el_w0_sp : nuQ t9 ty sp vb + 0 = (skS t9 ty sp) + 1 := by first | (simp [nuQ, hng]; done) | (simp [nuQ, hng, c29]; done)
        have loop64 : ∀ (K : Nat) (d : Nat), 9 - d < K → d ≤ 9 → nuQ t9 ty sp vb + d ≤ ty → nuE t9 ty sp vb = rn (isA t9 ty 48 57) (9 - d) (nuQ t9 ty sp vb + d) → ∀ (H : Heap) (locs : List Loc), va_P D vwCl (ModC mo sa pa ha ta cJ cI (sM n b fl me st lk cm v nu) pt hd (tN t9) ps ru ty rf lks lo1 hi1 (nuQ t9 ty sp vb + d) cd pl gv) H → va_D (va_A (ModC mo sa pa ha ta cJ cI (sM n b fl me st lk cm v nu) pt hd (tN t9) ps ru ty rf lks lo1 hi1 sp cd pl gv) s.heap.size) (ModC mo sa pa ha ta cJ cI (sM n b fl me st lk cm v nu) pt hd (tN t9) ps ru ty rf lks lo1 hi1 (nuQ t9 ty sp vb + d) cd pl gv) → va_S (va_A (ModC mo sa pa ha ta cJ cI (sM n b fl me st lk cm v nu) pt hd (tN t9) ps ru ty rf lks lo1 hi1 sp cd pl gv) s.heap.size) s.heap H locs → ∀ ls : Array Slot, lv_has ls 6 [(0, .ref mo), (1, .int (bI vb)), (2, .int (bI (nuN t9 ty sp vb))), (3, .int (nI (nuQ t9 ty sp vb))), (4, .long (lN (dgv t9 (nuQ t9 ty sp vb) d)))] → W p l e ({ frames := 3, cells := 0, slots := 0, locals := 67 } : Room) s m args below meth c H locs 0 0 (ZMi below args s D (ModC mo sa pa ha ta cJ cI (sM n b fl me st lk cm v nu) pt hd (tN t9) ps ru ty rf lks lo1 hi1 sp cd pl gv) (bI (nmO t9 ty sp vb)) (ModC mo sa pa ha ta cJ cI (sM n b fl me st lk cm v nu) pt hd (tN t9) ps ru ty rf lks lo1 hi1 (ncP t9 ty sp vb) cd (nmL t9 ty sp vb pl) (nmG t9 ty sp vb gv))) (F0 m 64 ls []) := by
          intro K
          induction K with
          | zero => intro d hK0; exact absurd hK0 (Nat.not_lt_zero _)
          | succ K ih64 =>
            intro d hKm hdd hpd hrn H locs hP hD hS ls hl
            refine lv_aload_n hx hb dX7_number_64 rfl (lv_at hl 0 rfl) ?_
            refine lv_bipush (v := nI 48) hx hb dX7_number_65 (by decide) ?_
            refine lv_bipush (v := nI 57) hx hb dX7_number_67 (by decide) ?_
            refine wv_callPi (As := [.int (nI 48), .int (nI 57)]) (rest := []) ⟨hx, hb, hml, hown, hts⟩ (kX7_isAt l D mo sa pa ha ta cJ cI n b fl me st lk cm v nu pt hd t9 ps ru ty rf lks lo1 hi1 (nuQ t9 ty sp vb + d) cd pl gv 48 57 (by first | assumption | omega) (by first | assumption | omega) (by first | assumption | omega) (by first | assumption | omega) (by first | assumption | omega)) (cwV 2 hts gX7_number_X7_isAt rfl rfl rfl (by decide +kernel) ⟨Nat.le_of_ble_eq_true rfl, Nat.le_of_ble_eq_true rfl⟩) hK hN hP hS hA [0, 1, 2, 3, 4] [0, 1] rfl rfl 0 5 rfl rfl rfl rfl hl.1 rfl (Nat.le_of_ble_eq_true rfl) dX7_number_69 ⟨Nat.zero_le _, Nat.zero_le _⟩ (fun H locs hz9 hP hS => ?_)
            refine wv_ifeqB (tgt := 122) hx hb dX7_number_72 (by decide) (fun c72 => ?_) (fun c72 => ?_)
            · skip
              have hE9 : nuE t9 ty sp vb = nuQ t9 ty sp vb + d := by rw [hrn, rn_f c72]
              refine lv_aload_n hx hb dX7_number_122 rfl (lv_at hl 0 rfl) ?_
              refine lv_iload_n hx hb dX7_number_123 rfl (lv_at hl 1 rfl) ?_
              refine wv_ifeqB (tgt := 142) hx hb dX7_number_124 (by decide) (fun c124 => ?_) (fun c124 => ?_)
              · skip
                refine lv_aload_n hx hb dX7_number_142 rfl (lv_at hl 0 rfl) ?_
                refine va_get (D := D) (ci := 5) (C := RX7) (T := TX7) (N := 15) hx hb hts hinX7 hown hK hP 0 rfl rfl 14 (by decide) (hts (.fieldLink RX7 182 "NearRanksModel" "given" "J") (by decide +kernel)) (fun _ h9 => h9) rfl dX7_number_143 ?_
                refine va_put (D := D) (ci := 5) (v := .long gv) (ty := .long) (C := RX7) (T := TX7) (N := 15) hx hb hts hinX7 tyX7 tyX7_ok nmX7 hown hK hP hD hS 0 rfl rfl 14 (by decide) (hts (.fieldLink RX7 182 "NearRanksModel" "given" "J") (by decide +kernel)) (fun _ h9 => h9) rfl (by decide +kernel) rfl rfl (Nat.le_of_ble_eq_true rfl) dX7_number_146 (fun H locs hP hD hS => ?_)
                have hP : va_P D vwCl (ModC mo sa pa ha ta cJ cI (sM n b fl me st lk cm v nu) pt hd (tN t9) ps ru ty rf lks lo1 hi1 (nuQ t9 ty sp vb + d) cd pl gv) H := hP
                have hD : va_D _ (ModC mo sa pa ha ta cJ cI (sM n b fl me st lk cm v nu) pt hd (tN t9) ps ru ty rf lks lo1 hi1 (nuQ t9 ty sp vb + d) cd pl gv) := hD
                refine lv_aload_n hx hb dX7_number_149 rfl (lv_at hl 0 rfl) ?_
                refine lv_iload_n hx hb dX7_number_150 rfl (lv_at hl 1 rfl) ?_
                refine wv_ifeqB (tgt := 161) hx hb dX7_number_151 (by decide) (fun c151 => ?_) (fun c151 => by exfalso; rw [c124] at c151; cases c151)
                refine lv_lload hx hb dX7_number_161 (lv_at hl 4 rfl) ?_
                refine lv_l2i (v := nI (dgv t9 (nuQ t9 ty sp vb) d)) hx hb dX7_number_163 (lN_i _) ?_
                refine va_put (D := D) (ci := 5) (v := .int (nI (dgv t9 (nuQ t9 ty sp vb) d))) (ty := .int) (C := RX7) (T := TX7) (N := 15) hx hb hts hinX7 tyX7 tyX7_ok nmX7 hown hK hP hD hS 0 rfl rfl 13 (by decide) (hts (.fieldLink RX7 186 "NearRanksModel" "place" "I") (by decide +kernel)) (fun _ h9 => h9) rfl (by decide +kernel) rfl rfl (Nat.le_of_ble_eq_true rfl) dX7_number_164 (fun H locs hP hD hS => ?_)
                have hP : va_P D vwCl (ModC mo sa pa ha ta cJ cI (sM n b fl me st lk cm v nu) pt hd (tN t9) ps ru ty rf lks lo1 hi1 (nuQ t9 ty sp vb + d) cd (nI (dgv t9 (nuQ t9 ty sp vb) d)) gv) H := hP
                have hD : va_D _ (ModC mo sa pa ha ta cJ cI (sM n b fl me st lk cm v nu) pt hd (tN t9) ps ru ty rf lks lo1 hi1 (nuQ t9 ty sp vb + d) cd (nI (dgv t9 (nuQ t9 ty sp vb) d)) gv) := hD
                refine lv_aload_n hx hb dX7_number_167 rfl (lv_at hl 0 rfl) ?_
                refine va_get (D := D) (ci := 5) (C := RX7) (T := TX7) (N := 15) hx hb hts hinX7 hown hK hP 0 rfl rfl 11 (by decide) (hts (.fieldLink RX7 160 "NearRanksModel" "spot" "I") (by decide +kernel)) (fun _ h9 => h9) rfl dX7_number_168 ?_
                refine lv_iload_n hx hb dX7_number_171 rfl (lv_at hl 3 rfl) ?_
                refine wv_icmp_le (tgt := 190) hx hb (by omega) (by omega) dX7_number_172 (by decide) (fun c172 => ?_) (fun c172 => ?_)
                · skip
                  refine lv_iconst (v := nI 0) hx hb dX7_number_190 (by decide) ?_
                  have ew0_sp : ncP t9 ty sp vb = nuQ t9 ty sp vb + d := by unfold ncP; first | (rw [if_pos hs8, hE9]; done) | (rw [if_neg (by rw [hs8]; decide)]; done)
                  have ew0_pl : nmL t9 ty sp vb pl = nI (dgv t9 (nuQ t9 ty sp vb) d) := by unfold nmL; first | (rw [if_neg (by rw [hs8]; decide)]; done) | (rw [if_pos hs8, if_pos c124]; done) | (rw [if_pos hs8, if_neg (by rw [c124]; decide)]; unfold nuV; rw [hE9, Nat.add_sub_cancel_left]; done)
                  have ew0_gv : nmG t9 ty sp vb gv = gv := by unfold nmG; first | (rw [if_neg (by rw [hs8]; decide)]; done) | (rw [if_pos hs8, if_neg (by rw [c124]; decide)]; done) | (rw [if_pos hs8, if_pos c124]; unfold nuV; rw [hE9, Nat.add_sub_cancel_left]; first | (rw [if_pos c128]; done) | (rw [if_neg (by rw [c128]; decide)]; done))
                  exact wv_zretM (b := false) hx hb hr hlocks hP hD hS rfl (by first | (unfold nmO ncC; rw [hs8]; rfl) | (unfold nmO ncC; rw [hs8, hE9, decide_eq_false (by omega)]; rfl) | (unfold nmO ncC; rw [hs8, hE9, decide_eq_true (by omega), c183]; rfl)) (by rw [ew0_gv, ew0_pl, ew0_sp]) dX7_number_191
                · skip
                  refine lv_aload_n hx hb dX7_number_175 rfl (lv_at hl 0 rfl) ?_
                  refine lv_bipush (v := nI 48) hx hb dX7_number_176 (by decide) ?_
                  refine lv_bipush (v := nI 57) hx hb dX7_number_178 (by decide) ?_
                  refine wv_callPi (As := [.int (nI 48), .int (nI 57)]) (rest := []) ⟨hx, hb, hml, hown, hts⟩ (kX7_isAt l D mo sa pa ha ta cJ cI n b fl me st lk cm v nu pt hd t9 ps ru ty rf lks lo1 hi1 (nuQ t9 ty sp vb + d) cd (nI (dgv t9 (nuQ t9 ty sp vb) d)) gv 48 57 (by first | assumption | omega) (by first | assumption | omega) (by first | assumption | omega) (by first | assumption | omega) (by first | assumption | omega)) (cwV 2 hts gX7_number_X7_isAt rfl rfl rfl (by decide +kernel) ⟨Nat.le_of_ble_eq_true rfl, Nat.le_of_ble_eq_true rfl⟩) hK hN hP hS hA [0, 1, 2, 3, 4] [0, 1] rfl rfl 0 5 rfl rfl rfl rfl hl.1 rfl (Nat.le_of_ble_eq_true rfl) dX7_number_180 ⟨Nat.zero_le _, Nat.zero_le _⟩ (fun H locs hz9 hP hS => ?_)
                  refine wv_ifneB (tgt := 190) hx hb dX7_number_183 (by decide) (fun c183 => ?_) (fun c183 => ?_)
                  · skip
                    refine lv_iconst (v := nI 0) hx hb dX7_number_190 (by decide) ?_
                    have ew0_sp : ncP t9 ty sp vb = nuQ t9 ty sp vb + d := by unfold ncP; first | (rw [if_pos hs8, hE9]; done) | (rw [if_neg (by rw [hs8]; decide)]; done)
                    have ew0_pl : nmL t9 ty sp vb pl = nI (dgv t9 (nuQ t9 ty sp vb) d) := by unfold nmL; first | (rw [if_neg (by rw [hs8]; decide)]; done) | (rw [if_pos hs8, if_pos c124]; done) | (rw [if_pos hs8, if_neg (by rw [c124]; decide)]; unfold nuV; rw [hE9, Nat.add_sub_cancel_left]; done)
                    have ew0_gv : nmG t9 ty sp vb gv = gv := by unfold nmG; first | (rw [if_neg (by rw [hs8]; decide)]; done) | (rw [if_pos hs8, if_neg (by rw [c124]; decide)]; done) | (rw [if_pos hs8, if_pos c124]; unfold nuV; rw [hE9, Nat.add_sub_cancel_left]; first | (rw [if_pos c128]; done) | (rw [if_neg (by rw [c128]; decide)]; done))
                    exact wv_zretM (b := false) hx hb hr hlocks hP hD hS rfl (by first | (unfold nmO ncC; rw [hs8]; rfl) | (unfold nmO ncC; rw [hs8, hE9, decide_eq_false (by omega)]; rfl) | (unfold nmO ncC; rw [hs8, hE9, decide_eq_true (by omega), c183]; rfl)) (by rw [ew0_gv, ew0_pl, ew0_sp]) dX7_number_191
                  · skip
                    refine lv_iconst (v := nI 1) hx hb dX7_number_186 (by decide) ?_
                    refine lv_goto (tgt := 191) hx hb dX7_number_187 (by decide) ?_
                    have ew0_sp : ncP t9 ty sp vb = nuQ t9 ty sp vb + d := by unfold ncP; first | (rw [if_pos hs8, hE9]; done) | (rw [if_neg (by rw [hs8]; decide)]; done)
                    have ew0_pl : nmL t9 ty sp vb pl = nI (dgv t9 (nuQ t9 ty sp vb) d) := by unfold nmL; first | (rw [if_neg (by rw [hs8]; decide)]; done) | (rw [if_pos hs8, if_pos c124]; done) | (rw [if_pos hs8, if_neg (by rw [c124]; decide)]; unfold nuV; rw [hE9, Nat.add_sub_cancel_left]; done)
                    have ew0_gv : nmG t9 ty sp vb gv = gv := by unfold nmG; first | (rw [if_neg (by rw [hs8]; decide)]; done) | (rw [if_pos hs8, if_neg (by rw [c124]; decide)]; done) | (rw [if_pos hs8, if_pos c124]; unfold nuV; rw [hE9, Nat.add_sub_cancel_left]; first | (rw [if_pos c128]; done) | (rw [if_neg (by rw [c128]; decide)]; done))
                    exact wv_zretM (b := true) hx hb hr hlocks hP hD hS rfl (by first | (unfold nmO ncC; rw [hs8]; rfl) | (unfold nmO ncC; rw [hs8, hE9, decide_eq_false (by omega)]; rfl) | (unfold nmO ncC; rw [hs8, hE9, decide_eq_true (by omega), c183]; rfl)) (by rw [ew0_gv, ew0_pl, ew0_sp]) dX7_number_191
              · skip
                refine lv_iload_n hx hb dX7_number_127 rfl (lv_at hl 2 rfl) ?_
                refine wv_ifeqB (tgt := 137) hx hb dX7_number_128 (by decide) (fun c128 => ?_) (fun c128 => ?_)
                · skip
                  refine lv_lload hx hb dX7_number_137 (lv_at hl 4 rfl) ?_
                  refine lv_goto (tgt := 146) hx hb dX7_number_139 (by decide) ?_
                  refine va_put (D := D) (ci := 5) (v := .long (lN (dgv t9 (nuQ t9 ty sp vb) d))) (ty := .long) (C := RX7) (T := TX7) (N := 15) hx hb hts hinX7 tyX7 tyX7_ok nmX7 hown hK hP hD hS 0 rfl rfl 14 (by decide) (hts (.fieldLink RX7 182 "NearRanksModel" "given" "J") (by decide +kernel)) (fun _ h9 => h9) rfl (by decide +kernel) rfl rfl (Nat.le_of_ble_eq_true rfl) dX7_number_146 (fun H locs hP hD hS => ?_)
                  have hP : va_P D vwCl (ModC mo sa pa ha ta cJ cI (sM n b fl me st lk cm v nu) pt hd (tN t9) ps ru ty rf lks lo1 hi1 (nuQ t9 ty sp vb + d) cd pl (lN (dgv t9 (nuQ t9 ty sp vb) d))) H := hP
                  have hD : va_D _ (ModC mo sa pa ha ta cJ cI (sM n b fl me st lk cm v nu) pt hd (tN t9) ps ru ty rf lks lo1 hi1 (nuQ t9 ty sp vb + d) cd pl (lN (dgv t9 (nuQ t9 ty sp vb) d))) := hD
                  refine lv_aload_n hx hb dX7_number_149 rfl (lv_at hl 0 rfl) ?_
                  refine lv_iload_n hx hb dX7_number_150 rfl (lv_at hl 1 rfl) ?_
                  refine wv_ifeqB (tgt := 161) hx hb dX7_number_151 (by decide) (fun c151 => by exfalso; rw [c124] at c151; cases c151) (fun c151 => ?_)
                  refine lv_aload_n hx hb dX7_number_154 rfl (lv_at hl 0 rfl) ?_
                  refine va_get (D := D) (ci := 5) (C := RX7) (T := TX7) (N := 15) hx hb hts hinX7 hown hK hP 0 rfl rfl 13 (by decide) (hts (.fieldLink RX7 186 "NearRanksModel" "place" "I") (by decide +kernel)) (fun _ h9 => h9) rfl dX7_number_155 ?_
                  refine lv_goto (tgt := 164) hx hb dX7_number_158 (by decide) ?_
                  refine va_put (D := D) (ci := 5) (v := .int pl) (ty := .int) (C := RX7) (T := TX7) (N := 15) hx hb hts hinX7 tyX7 tyX7_ok nmX7 hown hK hP hD hS 0 rfl rfl 13 (by decide) (hts (.fieldLink RX7 186 "NearRanksModel" "place" "I") (by decide +kernel)) (fun _ h9 => h9) rfl (by decide +kernel) rfl rfl (Nat.le_of_ble_eq_true rfl) dX7_number_164 (fun H locs hP hD hS => ?_)
                  have hP : va_P D vwCl (ModC mo sa pa ha ta cJ cI (sM n b fl me st lk cm v nu) pt hd (tN t9) ps ru ty rf lks lo1 hi1 (nuQ t9 ty sp vb + d) cd pl (lN (dgv t9 (nuQ t9 ty sp vb) d))) H := hP
                  have hD : va_D _ (ModC mo sa pa ha ta cJ cI (sM n b fl me st lk cm v nu) pt hd (tN t9) ps ru ty rf lks lo1 hi1 (nuQ t9 ty sp vb + d) cd pl (lN (dgv t9 (nuQ t9 ty sp vb) d))) := hD
                  refine lv_aload_n hx hb dX7_number_167 rfl (lv_at hl 0 rfl) ?_
                  refine va_get (D := D) (ci := 5) (C := RX7) (T := TX7) (N := 15) hx hb hts hinX7 hown hK hP 0 rfl rfl 11 (by decide) (hts (.fieldLink RX7 160 "NearRanksModel" "spot" "I") (by decide +kernel)) (fun _ h9 => h9) rfl dX7_number_168 ?_
                  refine lv_iload_n hx hb dX7_number_171 rfl (lv_at hl 3 rfl) ?_
                  refine wv_icmp_le (tgt := 190) hx hb (by omega) (by omega) dX7_number_172 (by decide) (fun c172 => ?_) (fun c172 => ?_)
                  · skip
                    refine lv_iconst (v := nI 0) hx hb dX7_number_190 (by decide) ?_
                    have ew0_sp : ncP t9 ty sp vb = nuQ t9 ty sp vb + d := by unfold ncP; first | (rw [if_pos hs8, hE9]; done) | (rw [if_neg (by rw [hs8]; decide)]; done)
                    have ew0_pl : nmL t9 ty sp vb pl = pl := by unfold nmL; first | (rw [if_neg (by rw [hs8]; decide)]; done) | (rw [if_pos hs8, if_pos c124]; done) | (rw [if_pos hs8, if_neg (by rw [c124]; decide)]; unfold nuV; rw [hE9, Nat.add_sub_cancel_left]; done)
                    have ew0_gv : nmG t9 ty sp vb gv = lN (dgv t9 (nuQ t9 ty sp vb) d) := by unfold nmG; first | (rw [if_neg (by rw [hs8]; decide)]; done) | (rw [if_pos hs8, if_neg (by rw [c124]; decide)]; done) | (rw [if_pos hs8, if_pos c124]; unfold nuV; rw [hE9, Nat.add_sub_cancel_left]; first | (rw [if_pos c128]; done) | (rw [if_neg (by rw [c128]; decide)]; done))
                    exact wv_zretM (b := false) hx hb hr hlocks hP hD hS rfl (by first | (unfold nmO ncC; rw [hs8]; rfl) | (unfold nmO ncC; rw [hs8, hE9, decide_eq_false (by omega)]; rfl) | (unfold nmO ncC; rw [hs8, hE9, decide_eq_true (by omega), c183]; rfl)) (by rw [ew0_gv, ew0_pl, ew0_sp]) dX7_number_191
                  · skip
                    refine lv_aload_n hx hb dX7_number_175 rfl (lv_at hl 0 rfl) ?_
                    refine lv_bipush (v := nI 48) hx hb dX7_number_176 (by decide) ?_
                    refine lv_bipush (v := nI 57) hx hb dX7_number_178 (by decide) ?_
                    refine wv_callPi (As := [.int (nI 48), .int (nI 57)]) (rest := []) ⟨hx, hb, hml, hown, hts⟩ (kX7_isAt l D mo sa pa ha ta cJ cI n b fl me st lk cm v nu pt hd t9 ps ru ty rf lks lo1 hi1 (nuQ t9 ty sp vb + d) cd pl (lN (dgv t9 (nuQ t9 ty sp vb) d)) 48 57 (by first | assumption | omega) (by first | assumption | omega) (by first | assumption | omega) (by first | assumption | omega) (by first | assumption | omega)) (cwV 2 hts gX7_number_X7_isAt rfl rfl rfl (by decide +kernel) ⟨Nat.le_of_ble_eq_true rfl, Nat.le_of_ble_eq_true rfl⟩) hK hN hP hS hA [0, 1, 2, 3, 4] [0, 1] rfl rfl 0 5 rfl rfl rfl rfl hl.1 rfl (Nat.le_of_ble_eq_true rfl) dX7_number_180 ⟨Nat.zero_le _, Nat.zero_le _⟩ (fun H locs hz9 hP hS => ?_)
                    refine wv_ifneB (tgt := 190) hx hb dX7_number_183 (by decide) (fun c183 => ?_) (fun c183 => ?_)
                    · skip
                      refine lv_iconst (v := nI 0) hx hb dX7_number_190 (by decide) ?_
                      have ew0_sp : ncP t9 ty sp vb = nuQ t9 ty sp vb + d := by unfold ncP; first | (rw [if_pos hs8, hE9]; done) | (rw [if_neg (by rw [hs8]; decide)]; done)
                      have ew0_pl : nmL t9 ty sp vb pl = pl := by unfold nmL; first | (rw [if_neg (by rw [hs8]; decide)]; done) | (rw [if_pos hs8, if_pos c124]; done) | (rw [if_pos hs8, if_neg (by rw [c124]; decide)]; unfold nuV; rw [hE9, Nat.add_sub_cancel_left]; done)
                      have ew0_gv : nmG t9 ty sp vb gv = lN (dgv t9 (nuQ t9 ty sp vb) d) := by unfold nmG; first | (rw [if_neg (by rw [hs8]; decide)]; done) | (rw [if_pos hs8, if_neg (by rw [c124]; decide)]; done) | (rw [if_pos hs8, if_pos c124]; unfold nuV; rw [hE9, Nat.add_sub_cancel_left]; first | (rw [if_pos c128]; done) | (rw [if_neg (by rw [c128]; decide)]; done))
                      exact wv_zretM (b := false) hx hb hr hlocks hP hD hS rfl (by first | (unfold nmO ncC; rw [hs8]; rfl) | (unfold nmO ncC; rw [hs8, hE9, decide_eq_false (by omega)]; rfl) | (unfold nmO ncC; rw [hs8, hE9, decide_eq_true (by omega), c183]; rfl)) (by rw [ew0_gv, ew0_pl, ew0_sp]) dX7_number_191
                    · skip
                      refine lv_iconst (v := nI 1) hx hb dX7_number_186 (by decide) ?_
                      refine lv_goto (tgt := 191) hx hb dX7_number_187 (by decide) ?_
                      have ew0_sp : ncP t9 ty sp vb = nuQ t9 ty sp vb + d := by unfold ncP; first | (rw [if_pos hs8, hE9]; done) | (rw [if_neg (by rw [hs8]; decide)]; done)
                      have ew0_pl : nmL t9 ty sp vb pl = pl := by unfold nmL; first | (rw [if_neg (by rw [hs8]; decide)]; done) | (rw [if_pos hs8, if_pos c124]; done) | (rw [if_pos hs8, if_neg (by rw [c124]; decide)]; unfold nuV; rw [hE9, Nat.add_sub_cancel_left]; done)
                      have ew0_gv : nmG t9 ty sp vb gv = lN (dgv t9 (nuQ t9 ty sp vb) d) := by unfold nmG; first | (rw [if_neg (by rw [hs8]; decide)]; done) | (rw [if_pos hs8, if_neg (by rw [c124]; decide)]; done) | (rw [if_pos hs8, if_pos c124]; unfold nuV; rw [hE9, Nat.add_sub_cancel_left]; first | (rw [if_pos c128]; done) | (rw [if_neg (by rw [c128]; decide)]; done))
                      exact wv_zretM (b := true) hx hb hr hlocks hP hD hS rfl (by first | (unfold nmO ncC; rw [hs8]; rfl) | (unfold nmO ncC; rw [hs8, hE9, decide_eq_false (by omega)]; rfl) | (unfold nmO ncC; rw [hs8, hE9, decide_eq_true (by omega), c183]; rfl)) (by rw [ew0_gv, ew0_pl, ew0_sp]) dX7_number_191
                · skip
                  refine lv_lload hx hb dX7_number_131 (lv_at hl 4 rfl) ?_
                  refine lv_lneg hx hb dX7_number_133 ?_
                  refine lv_goto (tgt := 146) hx hb dX7_number_134 (by decide) ?_
                  refine va_put (D := D) (ci := 5) (v := .long (-(lN (dgv t9 (nuQ t9 ty sp vb) d)))) (ty := .long) (C := RX7) (T := TX7) (N := 15) hx hb hts hinX7 tyX7 tyX7_ok nmX7 hown hK hP hD hS 0 rfl rfl 14 (by decide) (hts (.fieldLink RX7 182 "NearRanksModel" "given" "J") (by decide +kernel)) (fun _ h9 => h9) rfl (by decide +kernel) rfl rfl (Nat.le_of_ble_eq_true rfl) dX7_number_146 (fun H locs hP hD hS => ?_)
                  have hP : va_P D vwCl (ModC mo sa pa ha ta cJ cI (sM n b fl me st lk cm v nu) pt hd (tN t9) ps ru ty rf lks lo1 hi1 (nuQ t9 ty sp vb + d) cd pl (-(lN (dgv t9 (nuQ t9 ty sp vb) d)))) H := hP
                  have hD : va_D _ (ModC mo sa pa ha ta cJ cI (sM n b fl me st lk cm v nu) pt hd (tN t9) ps ru ty rf lks lo1 hi1 (nuQ t9 ty sp vb + d) cd pl (-(lN (dgv t9 (nuQ t9 ty sp vb) d)))) := hD
                  refine lv_aload_n hx hb dX7_number_149 rfl (lv_at hl 0 rfl) ?_
                  refine lv_iload_n hx hb dX7_number_150 rfl (lv_at hl 1 rfl) ?_
                  refine wv_ifeqB (tgt := 161) hx hb dX7_number_151 (by decide) (fun c151 => by exfalso; rw [c124] at c151; cases c151) (fun c151 => ?_)
                  refine lv_aload_n hx hb dX7_number_154 rfl (lv_at hl 0 rfl) ?_
                  refine va_get (D := D) (ci := 5) (C := RX7) (T := TX7) (N := 15) hx hb hts hinX7 hown hK hP 0 rfl rfl 13 (by decide) (hts (.fieldLink RX7 186 "NearRanksModel" "place" "I") (by decide +kernel)) (fun _ h9 => h9) rfl dX7_number_155 ?_
                  refine lv_goto (tgt := 164) hx hb dX7_number_158 (by decide) ?_
                  refine va_put (D := D) (ci := 5) (v := .int pl) (ty := .int) (C := RX7) (T := TX7) (N := 15) hx hb hts hinX7 tyX7 tyX7_ok nmX7 hown hK hP hD hS 0 rfl rfl 13 (by decide) (hts (.fieldLink RX7 186 "NearRanksModel" "place" "I") (by decide +kernel)) (fun _ h9 => h9) rfl (by decide +kernel) rfl rfl (Nat.le_of_ble_eq_true rfl) dX7_number_164 (fun H locs hP hD hS => ?_)
                  have hP : va_P D vwCl (ModC mo sa pa ha ta cJ cI (sM n b fl me st lk cm v nu) pt hd (tN t9) ps ru ty rf lks lo1 hi1 (nuQ t9 ty sp vb + d) cd pl (-(lN (dgv t9 (nuQ t9 ty sp vb) d)))) H := hP
                  have hD : va_D _ (ModC mo sa pa ha ta cJ cI (sM n b fl me st lk cm v nu) pt hd (tN t9) ps ru ty rf lks lo1 hi1 (nuQ t9 ty sp vb + d) cd pl (-(lN (dgv t9 (nuQ t9 ty sp vb) d)))) := hD
                  refine lv_aload_n hx hb dX7_number_167 rfl (lv_at hl 0 rfl) ?_
                  refine va_get (D := D) (ci := 5) (C := RX7) (T := TX7) (N := 15) hx hb hts hinX7 hown hK hP 0 rfl rfl 11 (by decide) (hts (.fieldLink RX7 160 "NearRanksModel" "spot" "I") (by decide +kernel)) (fun _ h9 => h9) rfl dX7_number_168 ?_
                  refine lv_iload_n hx hb dX7_number_171 rfl (lv_at hl 3 rfl) ?_
                  refine wv_icmp_le (tgt := 190) hx hb (by omega) (by omega) dX7_number_172 (by decide) (fun c172 => ?_) (fun c172 => ?_)
                  · skip
                    refine lv_iconst (v := nI 0) hx hb dX7_number_190 (by decide) ?_
                    have ew0_sp : ncP t9 ty sp vb = nuQ t9 ty sp vb + d := by unfold ncP; first | (rw [if_pos hs8, hE9]; done) | (rw [if_neg (by rw [hs8]; decide)]; done)
                    have ew0_pl : nmL t9 ty sp vb pl = pl := by unfold nmL; first | (rw [if_neg (by rw [hs8]; decide)]; done) | (rw [if_pos hs8, if_pos c124]; done) | (rw [if_pos hs8, if_neg (by rw [c124]; decide)]; unfold nuV; rw [hE9, Nat.add_sub_cancel_left]; done)
                    have ew0_gv : nmG t9 ty sp vb gv = -(lN (dgv t9 (nuQ t9 ty sp vb) d)) := by unfold nmG; first | (rw [if_neg (by rw [hs8]; decide)]; done) | (rw [if_pos hs8, if_neg (by rw [c124]; decide)]; done) | (rw [if_pos hs8, if_pos c124]; unfold nuV; rw [hE9, Nat.add_sub_cancel_left]; first | (rw [if_pos c128]; done) | (rw [if_neg (by rw [c128]; decide)]; done))
                    exact wv_zretM (b := false) hx hb hr hlocks hP hD hS rfl (by first | (unfold nmO ncC; rw [hs8]; rfl) | (unfold nmO ncC; rw [hs8, hE9, decide_eq_false (by omega)]; rfl) | (unfold nmO ncC; rw [hs8, hE9, decide_eq_true (by omega), c183]; rfl)) (by rw [ew0_gv, ew0_pl, ew0_sp]) dX7_number_191
                  · skip
                    refine lv_aload_n hx hb dX7_number_175 rfl (lv_at hl 0 rfl) ?_
                    refine lv_bipush (v := nI 48) hx hb dX7_number_176 (by decide) ?_
                    refine lv_bipush (v := nI 57) hx hb dX7_number_178 (by decide) ?_
                    refine wv_callPi (As := [.int (nI 48), .int (nI 57)]) (rest := []) ⟨hx, hb, hml, hown, hts⟩ (kX7_isAt l D mo sa pa ha ta cJ cI n b fl me st lk cm v nu pt hd t9 ps ru ty rf lks lo1 hi1 (nuQ t9 ty sp vb + d) cd pl (-(lN (dgv t9 (nuQ t9 ty sp vb) d))) 48 57 (by first | assumption | omega) (by first | assumption | omega) (by first | assumption | omega) (by first | assumption | omega) (by first | assumption | omega)) (cwV 2 hts gX7_number_X7_isAt rfl rfl rfl (by decide +kernel) ⟨Nat.le_of_ble_eq_true rfl, Nat.le_of_ble_eq_true rfl⟩) hK hN hP hS hA [0, 1, 2, 3, 4] [0, 1] rfl rfl 0 5 rfl rfl rfl rfl hl.1 rfl (Nat.le_of_ble_eq_true rfl) dX7_number_180 ⟨Nat.zero_le _, Nat.zero_le _⟩ (fun H locs hz9 hP hS => ?_)
                    refine wv_ifneB (tgt := 190) hx hb dX7_number_183 (by decide) (fun c183 => ?_) (fun c183 => ?_)
                    · skip
                      refine lv_iconst (v := nI 0) hx hb dX7_number_190 (by decide) ?_
                      have ew0_sp : ncP t9 ty sp vb = nuQ t9 ty sp vb + d := by unfold ncP; first | (rw [if_pos hs8, hE9]; done) | (rw [if_neg (by rw [hs8]; decide)]; done)
                      have ew0_pl : nmL t9 ty sp vb pl = pl := by unfold nmL; first | (rw [if_neg (by rw [hs8]; decide)]; done) | (rw [if_pos hs8, if_pos c124]; done) | (rw [if_pos hs8, if_neg (by rw [c124]; decide)]; unfold nuV; rw [hE9, Nat.add_sub_cancel_left]; done)
                      have ew0_gv : nmG t9 ty sp vb gv = -(lN (dgv t9 (nuQ t9 ty sp vb) d)) := by unfold nmG; first | (rw [if_neg (by rw [hs8]; decide)]; done) | (rw [if_pos hs8, if_neg (by rw [c124]; decide)]; done) | (rw [if_pos hs8, if_pos c124]; unfold nuV; rw [hE9, Nat.add_sub_cancel_left]; first | (rw [if_pos c128]; done) | (rw [if_neg (by rw [c128]; decide)]; done))
                      exact wv_zretM (b := false) hx hb hr hlocks hP hD hS rfl (by first | (unfold nmO ncC; rw [hs8]; rfl) | (unfold nmO ncC; rw [hs8, hE9, decide_eq_false (by omega)]; rfl) | (unfold nmO ncC; rw [hs8, hE9, decide_eq_true (by omega), c183]; rfl)) (by rw [ew0_gv, ew0_pl, ew0_sp]) dX7_number_191
                    · skip
                      refine lv_iconst (v := nI 1) hx hb dX7_number_186 (by decide) ?_
                      refine lv_goto (tgt := 191) hx hb dX7_number_187 (by decide) ?_
                      have ew0_sp : ncP t9 ty sp vb = nuQ t9 ty sp vb + d := by unfold ncP; first | (rw [if_pos hs8, hE9]; done) | (rw [if_neg (by rw [hs8]; decide)]; done)
                      have ew0_pl : nmL t9 ty sp vb pl = pl := by unfold nmL; first | (rw [if_neg (by rw [hs8]; decide)]; done) | (rw [if_pos hs8, if_pos c124]; done) | (rw [if_pos hs8, if_neg (by rw [c124]; decide)]; unfold nuV; rw [hE9, Nat.add_sub_cancel_left]; done)
                      have ew0_gv : nmG t9 ty sp vb gv = -(lN (dgv t9 (nuQ t9 ty sp vb) d)) := by unfold nmG; first | (rw [if_neg (by rw [hs8]; decide)]; done) | (rw [if_pos hs8, if_neg (by rw [c124]; decide)]; done) | (rw [if_pos hs8, if_pos c124]; unfold nuV; rw [hE9, Nat.add_sub_cancel_left]; first | (rw [if_pos c128]; done) | (rw [if_neg (by rw [c128]; decide)]; done))
                      exact wv_zretM (b := true) hx hb hr hlocks hP hD hS rfl (by first | (unfold nmO ncC; rw [hs8]; rfl) | (unfold nmO ncC; rw [hs8, hE9, decide_eq_false (by omega)]; rfl) | (unfold nmO ncC; rw [hs8, hE9, decide_eq_true (by omega), c183]; rfl)) (by rw [ew0_gv, ew0_pl, ew0_sp]) dX7_number_191
            · skip
              have hdi := isA_i c72
              refine lv_aload_n hx hb dX7_number_75 rfl (lv_at hl 0 rfl) ?_
              refine va_get (D := D) (ci := 5) (C := RX7) (T := TX7) (N := 15) hx hb hts hinX7 hown hK hP 0 rfl rfl 11 (by decide) (hts (.fieldLink RX7 160 "NearRanksModel" "spot" "I") (by decide +kernel)) (fun _ h9 => h9) rfl dX7_number_76 ?_
              refine lv_iload_n hx hb dX7_number_79 rfl (lv_at hl 3 rfl) ?_
              refine lv_isub hx hb dX7_number_80 ?_
              refine wv_ti (pk_sub (by omega)) ?_
              refine lv_bipush (v := nI 9) hx hb dX7_number_81 (by decide) ?_
              refine wv_icmp_ge (tgt := 122) hx hb (by omega) (by omega) dX7_number_83 (by decide) (fun c83 => ?_) (fun c83 => ?_)
              · skip
                have hE9 : nuE t9 ty sp vb = nuQ t9 ty sp vb + d := by rw [hrn, show 9 - d = 0 by omega]; rfl
                refine lv_aload_n hx hb dX7_number_122 rfl (lv_at hl 0 rfl) ?_
                refine lv_iload_n hx hb dX7_number_123 rfl (lv_at hl 1 rfl) ?_
                refine wv_ifeqB (tgt := 142) hx hb dX7_number_124 (by decide) (fun c124 => ?_) (fun c124 => ?_)
                · skip
                  refine lv_aload_n hx hb dX7_number_142 rfl (lv_at hl 0 rfl) ?_
                  refine va_get (D := D) (ci := 5) (C := RX7) (T := TX7) (N := 15) hx hb hts hinX7 hown hK hP 0 rfl rfl 14 (by decide) (hts (.fieldLink RX7 182 "NearRanksModel" "given" "J") (by decide +kernel)) (fun _ h9 => h9) rfl dX7_number_143 ?_
                  refine va_put (D := D) (ci := 5) (v := .long gv) (ty := .long) (C := RX7) (T := TX7) (N := 15) hx hb hts hinX7 tyX7 tyX7_ok nmX7 hown hK hP hD hS 0 rfl rfl 14 (by decide) (hts (.fieldLink RX7 182 "NearRanksModel" "given" "J") (by decide +kernel)) (fun _ h9 => h9) rfl (by decide +kernel) rfl rfl (Nat.le_of_ble_eq_true rfl) dX7_number_146 (fun H locs hP hD hS => ?_)
                  have hP : va_P D vwCl (ModC mo sa pa ha ta cJ cI (sM n b fl me st lk cm v nu) pt hd (tN t9) ps ru ty rf lks lo1 hi1 (nuQ t9 ty sp vb + d) cd pl gv) H := hP
                  have hD : va_D _ (ModC mo sa pa ha ta cJ cI (sM n b fl me st lk cm v nu) pt hd (tN t9) ps ru ty rf lks lo1 hi1 (nuQ t9 ty sp vb + d) cd pl gv) := hD
                  refine lv_aload_n hx hb dX7_number_149 rfl (lv_at hl 0 rfl) ?_
                  refine lv_iload_n hx hb dX7_number_150 rfl (lv_at hl 1 rfl) ?_
                  refine wv_ifeqB (tgt := 161) hx hb dX7_number_151 (by decide) (fun c151 => ?_) (fun c151 => by exfalso; rw [c124] at c151; cases c151)
                  refine lv_lload hx hb dX7_number_161 (lv_at hl 4 rfl) ?_
                  refine lv_l2i (v := nI (dgv t9 (nuQ t9 ty sp vb) d)) hx hb dX7_number_163 (lN_i _) ?_
                  refine va_put (D := D) (ci := 5) (v := .int (nI (dgv t9 (nuQ t9 ty sp vb) d))) (ty := .int) (C := RX7) (T := TX7) (N := 15) hx hb hts hinX7 tyX7 tyX7_ok nmX7 hown hK hP hD hS 0 rfl rfl 13 (by decide) (hts (.fieldLink RX7 186 "NearRanksModel" "place" "I") (by decide +kernel)) (fun _ h9 => h9) rfl (by decide +kernel) rfl rfl (Nat.le_of_ble_eq_true rfl) dX7_number_164 (fun H locs hP hD hS => ?_)
                  have hP : va_P D vwCl (ModC mo sa pa ha ta cJ cI (sM n b fl me st lk cm v nu) pt hd (tN t9) ps ru ty rf lks lo1 hi1 (nuQ t9 ty sp vb + d) cd (nI (dgv t9 (nuQ t9 ty sp vb) d)) gv) H := hP
                  have hD : va_D _ (ModC mo sa pa ha ta cJ cI (sM n b fl me st lk cm v nu) pt hd (tN t9) ps ru ty rf lks lo1 hi1 (nuQ t9 ty sp vb + d) cd (nI (dgv t9 (nuQ t9 ty sp vb) d)) gv) := hD
                  refine lv_aload_n hx hb dX7_number_167 rfl (lv_at hl 0 rfl) ?_
                  refine va_get (D := D) (ci := 5) (C := RX7) (T := TX7) (N := 15) hx hb hts hinX7 hown hK hP 0 rfl rfl 11 (by decide) (hts (.fieldLink RX7 160 "NearRanksModel" "spot" "I") (by decide +kernel)) (fun _ h9 => h9) rfl dX7_number_168 ?_
                  refine lv_iload_n hx hb dX7_number_171 rfl (lv_at hl 3 rfl) ?_
                  refine wv_icmp_le (tgt := 190) hx hb (by omega) (by omega) dX7_number_172 (by decide) (fun c172 => ?_) (fun c172 => ?_)
                  · skip
                    refine lv_iconst (v := nI 0) hx hb dX7_number_190 (by decide) ?_
                    have ew0_sp : ncP t9 ty sp vb = nuQ t9 ty sp vb + d := by unfold ncP; first | (rw [if_pos hs8, hE9]; done) | (rw [if_neg (by rw [hs8]; decide)]; done)
                    have ew0_pl : nmL t9 ty sp vb pl = nI (dgv t9 (nuQ t9 ty sp vb) d) := by unfold nmL; first | (rw [if_neg (by rw [hs8]; decide)]; done) | (rw [if_pos hs8, if_pos c124]; done) | (rw [if_pos hs8, if_neg (by rw [c124]; decide)]; unfold nuV; rw [hE9, Nat.add_sub_cancel_left]; done)
                    have ew0_gv : nmG t9 ty sp vb gv = gv := by unfold nmG; first | (rw [if_neg (by rw [hs8]; decide)]; done) | (rw [if_pos hs8, if_neg (by rw [c124]; decide)]; done) | (rw [if_pos hs8, if_pos c124]; unfold nuV; rw [hE9, Nat.add_sub_cancel_left]; first | (rw [if_pos c128]; done) | (rw [if_neg (by rw [c128]; decide)]; done))
                    exact wv_zretM (b := false) hx hb hr hlocks hP hD hS rfl (by first | (unfold nmO ncC; rw [hs8]; rfl) | (unfold nmO ncC; rw [hs8, hE9, decide_eq_false (by omega)]; rfl) | (unfold nmO ncC; rw [hs8, hE9, decide_eq_true (by omega), c183]; rfl)) (by rw [ew0_gv, ew0_pl, ew0_sp]) dX7_number_191
                  · skip
                    refine lv_aload_n hx hb dX7_number_175 rfl (lv_at hl 0 rfl) ?_
                    refine lv_bipush (v := nI 48) hx hb dX7_number_176 (by decide) ?_
                    refine lv_bipush (v := nI 57) hx hb dX7_number_178 (by decide) ?_
                    refine wv_callPi (As := [.int (nI 48), .int (nI 57)]) (rest := []) ⟨hx, hb, hml, hown, hts⟩ (kX7_isAt l D mo sa pa ha ta cJ cI n b fl me st lk cm v nu pt hd t9 ps ru ty rf lks lo1 hi1 (nuQ t9 ty sp vb + d) cd (nI (dgv t9 (nuQ t9 ty sp vb) d)) gv 48 57 (by first | assumption | omega) (by first | assumption | omega) (by first | assumption | omega) (by first | assumption | omega) (by first | assumption | omega)) (cwV 2 hts gX7_number_X7_isAt rfl rfl rfl (by decide +kernel) ⟨Nat.le_of_ble_eq_true rfl, Nat.le_of_ble_eq_true rfl⟩) hK hN hP hS hA [0, 1, 2, 3, 4] [0, 1] rfl rfl 0 5 rfl rfl rfl rfl hl.1 rfl (Nat.le_of_ble_eq_true rfl) dX7_number_180 ⟨Nat.zero_le _, Nat.zero_le _⟩ (fun H locs hz9 hP hS => ?_)
                    refine wv_ifneB (tgt := 190) hx hb dX7_number_183 (by decide) (fun c183 => ?_) (fun c183 => ?_)
                    · skip
                      refine lv_iconst (v := nI 0) hx hb dX7_number_190 (by decide) ?_
                      have ew0_sp : ncP t9 ty sp vb = nuQ t9 ty sp vb + d := by unfold ncP; first | (rw [if_pos hs8, hE9]; done) | (rw [if_neg (by rw [hs8]; decide)]; done)
                      have ew0_pl : nmL t9 ty sp vb pl = nI (dgv t9 (nuQ t9 ty sp vb) d) := by unfold nmL; first | (rw [if_neg (by rw [hs8]; decide)]; done) | (rw [if_pos hs8, if_pos c124]; done) | (rw [if_pos hs8, if_neg (by rw [c124]; decide)]; unfold nuV; rw [hE9, Nat.add_sub_cancel_left]; done)
                      have ew0_gv : nmG t9 ty sp vb gv = gv := by unfold nmG; first | (rw [if_neg (by rw [hs8]; decide)]; done) | (rw [if_pos hs8, if_neg (by rw [c124]; decide)]; done) | (rw [if_pos hs8, if_pos c124]; unfold nuV; rw [hE9, Nat.add_sub_cancel_left]; first | (rw [if_pos c128]; done) | (rw [if_neg (by rw [c128]; decide)]; done))
                      exact wv_zretM (b := false) hx hb hr hlocks hP hD hS rfl (by first | (unfold nmO ncC; rw [hs8]; rfl) | (unfold nmO ncC; rw [hs8, hE9, decide_eq_false (by omega)]; rfl) | (unfold nmO ncC; rw [hs8, hE9, decide_eq_true (by omega), c183]; rfl)) (by rw [ew0_gv, ew0_pl, ew0_sp]) dX7_number_191
                    · skip
                      refine lv_iconst (v := nI 1) hx hb dX7_number_186 (by decide) ?_
                      refine lv_goto (tgt := 191) hx hb dX7_number_187 (by decide) ?_
                      have ew0_sp : ncP t9 ty sp vb = nuQ t9 ty sp vb + d := by unfold ncP; first | (rw [if_pos hs8, hE9]; done) | (rw [if_neg (by rw [hs8]; decide)]; done)
                      have ew0_pl : nmL t9 ty sp vb pl = nI (dgv t9 (nuQ t9 ty sp vb) d) := by unfold nmL; first | (rw [if_neg (by rw [hs8]; decide)]; done) | (rw [if_pos hs8, if_pos c124]; done) | (rw [if_pos hs8, if_neg (by rw [c124]; decide)]; unfold nuV; rw [hE9, Nat.add_sub_cancel_left]; done)
                      have ew0_gv : nmG t9 ty sp vb gv = gv := by unfold nmG; first | (rw [if_neg (by rw [hs8]; decide)]; done) | (rw [if_pos hs8, if_neg (by rw [c124]; decide)]; done) | (rw [if_pos hs8, if_pos c124]; unfold nuV; rw [hE9, Nat.add_sub_cancel_left]; first | (rw [if_pos c128]; done) | (rw [if_neg (by rw [c128]; decide)]; done))
                      exact wv_zretM (b := true) hx hb hr hlocks hP hD hS rfl (by first | (unfold nmO ncC; rw [hs8]; rfl) | (unfold nmO ncC; rw [hs8, hE9, decide_eq_false (by omega)]; rfl) | (unfold nmO ncC; rw [hs8, hE9, decide_eq_true (by omega), c183]; rfl)) (by rw [ew0_gv, ew0_pl, ew0_sp]) dX7_number_191
                · skip
                  refine lv_iload_n hx hb dX7_number_127 rfl (lv_at hl 2 rfl) ?_
                  refine wv_ifeqB (tgt := 137) hx hb dX7_number_128 (by decide) (fun c128 => ?_) (fun c128 => ?_)
                  · skip
                    refine lv_lload hx hb dX7_number_137 (lv_at hl 4 rfl) ?_
                    refine lv_goto (tgt := 146) hx hb dX7_number_139 (by decide) ?_
                    refine va_put (D := D) (ci := 5) (v := .long (lN (dgv t9 (nuQ t9 ty sp vb) d))) (ty := .long) (C := RX7) (T := TX7) (N := 15) hx hb hts hinX7 tyX7 tyX7_ok nmX7 hown hK hP hD hS 0 rfl rfl 14 (by decide) (hts (.fieldLink RX7 182 "NearRanksModel" "given" "J") (by decide +kernel)) (fun _ h9 => h9) rfl (by decide +kernel) rfl rfl (Nat.le_of_ble_eq_true rfl) dX7_number_146 (fun H locs hP hD hS => ?_)
                    have hP : va_P D vwCl (ModC mo sa pa ha ta cJ cI (sM n b fl me st lk cm v nu) pt hd (tN t9) ps ru ty rf lks lo1 hi1 (nuQ t9 ty sp vb + d) cd pl (lN (dgv t9 (nuQ t9 ty sp vb) d))) H := hP
                    have hD : va_D _ (ModC mo sa pa ha ta cJ cI (sM n b fl me st lk cm v nu) pt hd (tN t9) ps ru ty rf lks lo1 hi1 (nuQ t9 ty sp vb + d) cd pl (lN (dgv t9 (nuQ t9 ty sp vb) d))) := hD
                    refine lv_aload_n hx hb dX7_number_149 rfl (lv_at hl 0 rfl) ?_
                    refine lv_iload_n hx hb dX7_number_150 rfl (lv_at hl 1 rfl) ?_
                    refine wv_ifeqB (tgt := 161) hx hb dX7_number_151 (by decide) (fun c151 => by exfalso; rw [c124] at c151; cases c151) (fun c151 => ?_)
                    refine lv_aload_n hx hb dX7_number_154 rfl (lv_at hl 0 rfl) ?_
                    refine va_get (D := D) (ci := 5) (C := RX7) (T := TX7) (N := 15) hx hb hts hinX7 hown hK hP 0 rfl rfl 13 (by decide) (hts (.fieldLink RX7 186 "NearRanksModel" "place" "I") (by decide +kernel)) (fun _ h9 => h9) rfl dX7_number_155 ?_
                    refine lv_goto (tgt := 164) hx hb dX7_number_158 (by decide) ?_
                    refine va_put (D := D) (ci := 5) (v := .int pl) (ty := .int) (C := RX7) (T := TX7) (N := 15) hx hb hts hinX7 tyX7 tyX7_ok nmX7 hown hK hP hD hS 0 rfl rfl 13 (by decide) (hts (.fieldLink RX7 186 "NearRanksModel" "place" "I") (by decide +kernel)) (fun _ h9 => h9) rfl (by decide +kernel) rfl rfl (Nat.le_of_ble_eq_true rfl) dX7_number_164 (fun H locs hP hD hS => ?_)
                    have hP : va_P D vwCl (ModC mo sa pa ha ta cJ cI (sM n b fl me st lk cm v nu) pt hd (tN t9) ps ru ty rf lks lo1 hi1 (nuQ t9 ty sp vb + d) cd pl (lN (dgv t9 (nuQ t9 ty sp vb) d))) H := hP
                    have hD : va_D _ (ModC mo sa pa ha ta cJ cI (sM n b fl me st lk cm v nu) pt hd (tN t9) ps ru ty rf lks lo1 hi1 (nuQ t9 ty sp vb + d) cd pl (lN (dgv t9 (nuQ t9 ty sp vb) d))) := hD
                    refine lv_aload_n hx hb dX7_number_167 rfl (lv_at hl 0 rfl) ?_
                    refine va_get (D := D) (ci := 5) (C := RX7) (T := TX7) (N := 15) hx hb hts hinX7 hown hK hP 0 rfl rfl 11 (by decide) (hts (.fieldLink RX7 160 "NearRanksModel" "spot" "I") (by decide +kernel)) (fun _ h9 => h9) rfl dX7_number_168 ?_
                    refine lv_iload_n hx hb dX7_number_171 rfl (lv_at hl 3 rfl) ?_
                    refine wv_icmp_le (tgt := 190) hx hb (by omega) (by omega) dX7_number_172 (by decide) (fun c172 => ?_) (fun c172 => ?_)
                    · skip
                      refine lv_iconst (v := nI 0) hx hb dX7_number_190 (by decide) ?_
                      have ew0_sp : ncP t9 ty sp vb = nuQ t9 ty sp vb + d := by unfold ncP; first | (rw [if_pos hs8, hE9]; done) | (rw [if_neg (by rw [hs8]; decide)]; done)
                      have ew0_pl : nmL t9 ty sp vb pl = pl := by unfold nmL; first | (rw [if_neg (by rw [hs8]; decide)]; done) | (rw [if_pos hs8, if_pos c124]; done) | (rw [if_pos hs8, if_neg (by rw [c124]; decide)]; unfold nuV; rw [hE9, Nat.add_sub_cancel_left]; done)
                      have ew0_gv : nmG t9 ty sp vb gv = lN (dgv t9 (nuQ t9 ty sp vb) d) := by unfold nmG; first | (rw [if_neg (by rw [hs8]; decide)]; done) | (rw [if_pos hs8, if_neg (by rw [c124]; decide)]; done) | (rw [if_pos hs8, if_pos c124]; unfold nuV; rw [hE9, Nat.add_sub_cancel_left]; first | (rw [if_pos c128]; done) | (rw [if_neg (by rw [c128]; decide)]; done))
                      exact wv_zretM (b := false) hx hb hr hlocks hP hD hS rfl (by first | (unfold nmO ncC; rw [hs8]; rfl) | (unfold nmO ncC; rw [hs8, hE9, decide_eq_false (by omega)]; rfl) | (unfold nmO ncC; rw [hs8, hE9, decide_eq_true (by omega), c183]; rfl)) (by rw [ew0_gv, ew0_pl, ew0_sp]) dX7_number_191
                    · skip
                      refine lv_aload_n hx hb dX7_number_175 rfl (lv_at hl 0 rfl) ?_
                      refine lv_bipush (v := nI 48) hx hb dX7_number_176 (by decide) ?_
                      refine lv_bipush (v := nI 57) hx hb dX7_number_178 (by decide) ?_
                      refine wv_callPi (As := [.int (nI 48), .int (nI 57)]) (rest := []) ⟨hx, hb, hml, hown, hts⟩ (kX7_isAt l D mo sa pa ha ta cJ cI n b fl me st lk cm v nu pt hd t9 ps ru ty rf lks lo1 hi1 (nuQ t9 ty sp vb + d) cd pl (lN (dgv t9 (nuQ t9 ty sp vb) d)) 48 57 (by first | assumption | omega) (by first | assumption | omega) (by first | assumption | omega) (by first | assumption | omega) (by first | assumption | omega)) (cwV 2 hts gX7_number_X7_isAt rfl rfl rfl (by decide +kernel) ⟨Nat.le_of_ble_eq_true rfl, Nat.le_of_ble_eq_true rfl⟩) hK hN hP hS hA [0, 1, 2, 3, 4] [0, 1] rfl rfl 0 5 rfl rfl rfl rfl hl.1 rfl (Nat.le_of_ble_eq_true rfl) dX7_number_180 ⟨Nat.zero_le _, Nat.zero_le _⟩ (fun H locs hz9 hP hS => ?_)
                      refine wv_ifneB (tgt := 190) hx hb dX7_number_183 (by decide) (fun c183 => ?_) (fun c183 => ?_)
                      · skip
                        refine lv_iconst (v := nI 0) hx hb dX7_number_190 (by decide) ?_
                        have ew0_sp : ncP t9 ty sp vb = nuQ t9 ty sp vb + d := by unfold ncP; first | (rw [if_pos hs8, hE9]; done) | (rw [if_neg (by rw [hs8]; decide)]; done)
                        have ew0_pl : nmL t9 ty sp vb pl = pl := by unfold nmL; first | (rw [if_neg (by rw [hs8]; decide)]; done) | (rw [if_pos hs8, if_pos c124]; done) | (rw [if_pos hs8, if_neg (by rw [c124]; decide)]; unfold nuV; rw [hE9, Nat.add_sub_cancel_left]; done)
                        have ew0_gv : nmG t9 ty sp vb gv = lN (dgv t9 (nuQ t9 ty sp vb) d) := by unfold nmG; first | (rw [if_neg (by rw [hs8]; decide)]; done) | (rw [if_pos hs8, if_neg (by rw [c124]; decide)]; done) | (rw [if_pos hs8, if_pos c124]; unfold nuV; rw [hE9, Nat.add_sub_cancel_left]; first | (rw [if_pos c128]; done) | (rw [if_neg (by rw [c128]; decide)]; done))
                        exact wv_zretM (b := false) hx hb hr hlocks hP hD hS rfl (by first | (unfold nmO ncC; rw [hs8]; rfl) | (unfold nmO ncC; rw [hs8, hE9, decide_eq_false (by omega)]; rfl) | (unfold nmO ncC; rw [hs8, hE9, decide_eq_true (by omega), c183]; rfl)) (by rw [ew0_gv, ew0_pl, ew0_sp]) dX7_number_191
                      · skip
                        refine lv_iconst (v := nI 1) hx hb dX7_number_186 (by decide) ?_
                        refine lv_goto (tgt := 191) hx hb dX7_number_187 (by decide) ?_
                        have ew0_sp : ncP t9 ty sp vb = nuQ t9 ty sp vb + d := by unfold ncP; first | (rw [if_pos hs8, hE9]; done) | (rw [if_neg (by rw [hs8]; decide)]; done)
                        have ew0_pl : nmL t9 ty sp vb pl = pl := by unfold nmL; first | (rw [if_neg (by rw [hs8]; decide)]; done) | (rw [if_pos hs8, if_pos c124]; done) | (rw [if_pos hs8, if_neg (by rw [c124]; decide)]; unfold nuV; rw [hE9, Nat.add_sub_cancel_left]; done)
                        have ew0_gv : nmG t9 ty sp vb gv = lN (dgv t9 (nuQ t9 ty sp vb) d) := by unfold nmG; first | (rw [if_neg (by rw [hs8]; decide)]; done) | (rw [if_pos hs8, if_neg (by rw [c124]; decide)]; done) | (rw [if_pos hs8, if_pos c124]; unfold nuV; rw [hE9, Nat.add_sub_cancel_left]; first | (rw [if_pos c128]; done) | (rw [if_neg (by rw [c128]; decide)]; done))
                        exact wv_zretM (b := true) hx hb hr hlocks hP hD hS rfl (by first | (unfold nmO ncC; rw [hs8]; rfl) | (unfold nmO ncC; rw [hs8, hE9, decide_eq_false (by omega)]; rfl) | (unfold nmO ncC; rw [hs8, hE9, decide_eq_true (by omega), c183]; rfl)) (by rw [ew0_gv, ew0_pl, ew0_sp]) dX7_number_191
                  · skip
                    refine lv_lload hx hb dX7_number_131 (lv_at hl 4 rfl) ?_
                    refine lv_lneg hx hb dX7_number_133 ?_
                    refine lv_goto (tgt := 146) hx hb dX7_number_134 (by decide) ?_
                    refine va_put (D := D) (ci := 5) (v := .long (-(lN (dgv t9 (nuQ t9 ty sp vb) d)))) (ty := .long) (C := RX7) (T := TX7) (N := 15) hx hb hts hinX7 tyX7 tyX7_ok nmX7 hown hK hP hD hS 0 rfl rfl 14 (by decide) (hts (.fieldLink RX7 182 "NearRanksModel" "given" "J") (by decide +kernel)) (fun _ h9 => h9) rfl (by decide +kernel) rfl rfl (Nat.le_of_ble_eq_true rfl) dX7_number_146 (fun H locs hP hD hS => ?_)
                    have hP : va_P D vwCl (ModC mo sa pa ha ta cJ cI (sM n b fl me st lk cm v nu) pt hd (tN t9) ps ru ty rf lks lo1 hi1 (nuQ t9 ty sp vb + d) cd pl (-(lN (dgv t9 (nuQ t9 ty sp vb) d)))) H := hP
                    have hD : va_D _ (ModC mo sa pa ha ta cJ cI (sM n b fl me st lk cm v nu) pt hd (tN t9) ps ru ty rf lks lo1 hi1 (nuQ t9 ty sp vb + d) cd pl (-(lN (dgv t9 (nuQ t9 ty sp vb) d)))) := hD
                    refine lv_aload_n hx hb dX7_number_149 rfl (lv_at hl 0 rfl) ?_
                    refine lv_iload_n hx hb dX7_number_150 rfl (lv_at hl 1 rfl) ?_
                    refine wv_ifeqB (tgt := 161) hx hb dX7_number_151 (by decide) (fun c151 => by exfalso; rw [c124] at c151; cases c151) (fun c151 => ?_)
                    refine lv_aload_n hx hb dX7_number_154 rfl (lv_at hl 0 rfl) ?_
                    refine va_get (D := D) (ci := 5) (C := RX7) (T := TX7) (N := 15) hx hb hts hinX7 hown hK hP 0 rfl rfl 13 (by decide) (hts (.fieldLink RX7 186 "NearRanksModel" "place" "I") (by decide +kernel)) (fun _ h9 => h9) rfl dX7_number_155 ?_
                    refine lv_goto (tgt := 164) hx hb dX7_number_158 (by decide) ?_
                    refine va_put (D := D) (ci := 5) (v := .int pl) (ty := .int) (C := RX7) (T := TX7) (N := 15) hx hb hts hinX7 tyX7 tyX7_ok nmX7 hown hK hP hD hS 0 rfl rfl 13 (by decide) (hts (.fieldLink RX7 186 "NearRanksModel" "place" "I") (by decide +kernel)) (fun _ h9 => h9) rfl (by decide +kernel) rfl rfl (Nat.le_of_ble_eq_true rfl) dX7_number_164 (fun H locs hP hD hS => ?_)
                    have hP : va_P D vwCl (ModC mo sa pa ha ta cJ cI (sM n b fl me st lk cm v nu) pt hd (tN t9) ps ru ty rf lks lo1 hi1 (nuQ t9 ty sp vb + d) cd pl (-(lN (dgv t9 (nuQ t9 ty sp vb) d)))) H := hP
                    have hD : va_D _ (ModC mo sa pa ha ta cJ cI (sM n b fl me st lk cm v nu) pt hd (tN t9) ps ru ty rf lks lo1 hi1 (nuQ t9 ty sp vb + d) cd pl (-(lN (dgv t9 (nuQ t9 ty sp vb) d)))) := hD
                    refine lv_aload_n hx hb dX7_number_167 rfl (lv_at hl 0 rfl) ?_
                    refine va_get (D := D) (ci := 5) (C := RX7) (T := TX7) (N := 15) hx hb hts hinX7 hown hK hP 0 rfl rfl 11 (by decide) (hts (.fieldLink RX7 160 "NearRanksModel" "spot" "I") (by decide +kernel)) (fun _ h9 => h9) rfl dX7_number_168 ?_
                    refine lv_iload_n hx hb dX7_number_171 rfl (lv_at hl 3 rfl) ?_
                    refine wv_icmp_le (tgt := 190) hx hb (by omega) (by omega) dX7_number_172 (by decide) (fun c172 => ?_) (fun c172 => ?_)
                    · skip
                      refine lv_iconst (v := nI 0) hx hb dX7_number_190 (by decide) ?_
                      have ew0_sp : ncP t9 ty sp vb = nuQ t9 ty sp vb + d := by unfold ncP; first | (rw [if_pos hs8, hE9]; done) | (rw [if_neg (by rw [hs8]; decide)]; done)
                      have ew0_pl : nmL t9 ty sp vb pl = pl := by unfold nmL; first | (rw [if_neg (by rw [hs8]; decide)]; done) | (rw [if_pos hs8, if_pos c124]; done) | (rw [if_pos hs8, if_neg (by rw [c124]; decide)]; unfold nuV; rw [hE9, Nat.add_sub_cancel_left]; done)
                      have ew0_gv : nmG t9 ty sp vb gv = -(lN (dgv t9 (nuQ t9 ty sp vb) d)) := by unfold nmG; first | (rw [if_neg (by rw [hs8]; decide)]; done) | (rw [if_pos hs8, if_neg (by rw [c124]; decide)]; done) | (rw [if_pos hs8, if_pos c124]; unfold nuV; rw [hE9, Nat.add_sub_cancel_left]; first | (rw [if_pos c128]; done) | (rw [if_neg (by rw [c128]; decide)]; done))
                      exact wv_zretM (b := false) hx hb hr hlocks hP hD hS rfl (by first | (unfold nmO ncC; rw [hs8]; rfl) | (unfold nmO ncC; rw [hs8, hE9, decide_eq_false (by omega)]; rfl) | (unfold nmO ncC; rw [hs8, hE9, decide_eq_true (by omega), c183]; rfl)) (by rw [ew0_gv, ew0_pl, ew0_sp]) dX7_number_191
                    · skip
                      refine lv_aload_n hx hb dX7_number_175 rfl (lv_at hl 0 rfl) ?_
                      refine lv_bipush (v := nI 48) hx hb dX7_number_176 (by decide) ?_
                      refine lv_bipush (v := nI 57) hx hb dX7_number_178 (by decide) ?_
                      refine wv_callPi (As := [.int (nI 48), .int (nI 57)]) (rest := []) ⟨hx, hb, hml, hown, hts⟩ (kX7_isAt l D mo sa pa ha ta cJ cI n b fl me st lk cm v nu pt hd t9 ps ru ty rf lks lo1 hi1 (nuQ t9 ty sp vb + d) cd pl (-(lN (dgv t9 (nuQ t9 ty sp vb) d))) 48 57 (by first | assumption | omega) (by first | assumption | omega) (by first | assumption | omega) (by first | assumption | omega) (by first | assumption | omega)) (cwV 2 hts gX7_number_X7_isAt rfl rfl rfl (by decide +kernel) ⟨Nat.le_of_ble_eq_true rfl, Nat.le_of_ble_eq_true rfl⟩) hK hN hP hS hA [0, 1, 2, 3, 4] [0, 1] rfl rfl 0 5 rfl rfl rfl rfl hl.1 rfl (Nat.le_of_ble_eq_true rfl) dX7_number_180 ⟨Nat.zero_le _, Nat.zero_le _⟩ (fun H locs hz9 hP hS => ?_)
                      refine wv_ifneB (tgt := 190) hx hb dX7_number_183 (by decide) (fun c183 => ?_) (fun c183 => ?_)
                      · skip
                        refine lv_iconst (v := nI 0) hx hb dX7_number_190 (by decide) ?_
                        have ew0_sp : ncP t9 ty sp vb = nuQ t9 ty sp vb + d := by unfold ncP; first | (rw [if_pos hs8, hE9]; done) | (rw [if_neg (by rw [hs8]; decide)]; done)
                        have ew0_pl : nmL t9 ty sp vb pl = pl := by unfold nmL; first | (rw [if_neg (by rw [hs8]; decide)]; done) | (rw [if_pos hs8, if_pos c124]; done) | (rw [if_pos hs8, if_neg (by rw [c124]; decide)]; unfold nuV; rw [hE9, Nat.add_sub_cancel_left]; done)
                        have ew0_gv : nmG t9 ty sp vb gv = -(lN (dgv t9 (nuQ t9 ty sp vb) d)) := by unfold nmG; first | (rw [if_neg (by rw [hs8]; decide)]; done) | (rw [if_pos hs8, if_neg (by rw [c124]; decide)]; done) | (rw [if_pos hs8, if_pos c124]; unfold nuV; rw [hE9, Nat.add_sub_cancel_left]; first | (rw [if_pos c128]; done) | (rw [if_neg (by rw [c128]; decide)]; done))
                        exact wv_zretM (b := false) hx hb hr hlocks hP hD hS rfl (by first | (unfold nmO ncC; rw [hs8]; rfl) | (unfold nmO ncC; rw [hs8, hE9, decide_eq_false (by omega)]; rfl) | (unfold nmO ncC; rw [hs8, hE9, decide_eq_true (by omega), c183]; rfl)) (by rw [ew0_gv, ew0_pl, ew0_sp]) dX7_number_191
                      · skip
                        refine lv_iconst (v := nI 1) hx hb dX7_number_186 (by decide) ?_
                        refine lv_goto (tgt := 191) hx hb dX7_number_187 (by decide) ?_
                        have ew0_sp : ncP t9 ty sp vb = nuQ t9 ty sp vb + d := by unfold ncP; first | (rw [if_pos hs8, hE9]; done) | (rw [if_neg (by rw [hs8]; decide)]; done)
                        have ew0_pl : nmL t9 ty sp vb pl = pl := by unfold nmL; first | (rw [if_neg (by rw [hs8]; decide)]; done) | (rw [if_pos hs8, if_pos c124]; done) | (rw [if_pos hs8, if_neg (by rw [c124]; decide)]; unfold nuV; rw [hE9, Nat.add_sub_cancel_left]; done)
                        have ew0_gv : nmG t9 ty sp vb gv = -(lN (dgv t9 (nuQ t9 ty sp vb) d)) := by unfold nmG; first | (rw [if_neg (by rw [hs8]; decide)]; done) | (rw [if_pos hs8, if_neg (by rw [c124]; decide)]; done) | (rw [if_pos hs8, if_pos c124]; unfold nuV; rw [hE9, Nat.add_sub_cancel_left]; first | (rw [if_pos c128]; done) | (rw [if_neg (by rw [c128]; decide)]; done))
                        exact wv_zretM (b := true) hx hb hr hlocks hP hD hS rfl (by first | (unfold nmO ncC; rw [hs8]; rfl) | (unfold nmO ncC; rw [hs8, hE9, decide_eq_false (by omega)]; rfl) | (unfold nmO ncC; rw [hs8, hE9, decide_eq_true (by omega), c183]; rfl)) (by rw [ew0_gv, ew0_pl, ew0_sp]) dX7_number_191
              · skip
                refine lv_ldc2 (v := lN 10) hx hb hown (hts (.constantLong RX7 178 (10)) (by decide +kernel)) dX7_number_86 ?_
                refine lv_lload hx hb dX7_number_89 (lv_at hl 4 rfl) ?_
                refine lv_lmul hx hb dX7_number_91 ?_
                refine wv_tl (lN_mul _ _) ?_
                refine lv_aload_n hx hb dX7_number_92 rfl (lv_at hl 0 rfl) ?_
                refine va_get (D := D) (ci := 5) (C := RX7) (T := TX7) (N := 15) hx hb hts hinX7 hown hK hP 0 rfl rfl 5 (by decide) (hts (.fieldLink RX7 19 "NearRanksModel" "text" "[I") (by decide +kernel)) (fun _ h9 => h9) rfl dX7_number_93 ?_
                refine lv_aload_n hx hb dX7_number_96 rfl (lv_at hl 0 rfl) ?_
                refine va_get (D := D) (ci := 5) (C := RX7) (T := TX7) (N := 15) hx hb hts hinX7 hown hK hP 0 rfl rfl 11 (by decide) (hts (.fieldLink RX7 160 "NearRanksModel" "spot" "I") (by decide +kernel)) (fun _ h9 => h9) rfl dX7_number_97 ?_
                refine wv_iald hx hb hK hP 4 1 rfl rfl (k := nuQ t9 ty sp vb + d) (by omega) (by decide) dX7_number_100 ?_
                refine wv_ti (y := nI (t9 (nuQ t9 ty sp vb + d))) rfl ?_
                refine lv_i2l (v := lN (t9 (nuQ t9 ty sp vb + d))) hx hb dX7_number_101 (nI_l (by omega)) ?_
                refine lv_ladd hx hb dX7_number_102 ?_
                refine wv_tl (lN_add _ _) ?_
                refine lv_ldc2 (v := lN 48) hx hb hown (hts (.constantLong RX7 180 (48)) (by decide +kernel)) dX7_number_103 ?_
                refine lv_lsub hx hb dX7_number_106 ?_
                refine wv_tl (lN_sub (by omega)) ?_
                refine lv_lstore (lv' := [(4, .long (lN (((10 * (dgv t9 (nuQ t9 ty sp vb) d)) + (t9 (nuQ t9 ty sp vb + d))) - 48))), (0, .ref mo), (1, .int (bI vb)), (2, .int (bI (nuN t9 ty sp vb))), (3, .int (nI (nuQ t9 ty sp vb)))]) hx hb dX7_number_107 hl (by decide) rfl (fun ls hl => ?_)
                refine lv_aload_n hx hb dX7_number_109 rfl (lv_at hl 1 rfl) ?_
                refine lv_dup hx hb dX7_number_110 rfl ?_
                refine va_get (D := D) (ci := 5) (C := RX7) (T := TX7) (N := 15) hx hb hts hinX7 hown hK hP 0 rfl rfl 11 (by decide) (hts (.fieldLink RX7 160 "NearRanksModel" "spot" "I") (by decide +kernel)) (fun _ h9 => h9) rfl dX7_number_111 ?_
                refine lv_iconst (v := nI 1) hx hb dX7_number_114 (by decide) ?_
                refine lv_iadd hx hb dX7_number_115 ?_
                refine wv_ti (nI_add _ _) ?_
                refine va_put (D := D) (ci := 5) (v := .int (nI ((nuQ t9 ty sp vb + d) + 1))) (ty := .int) (C := RX7) (T := TX7) (N := 15) hx hb hts hinX7 tyX7 tyX7_ok nmX7 hown hK hP hD hS 0 rfl rfl 11 (by decide) (hts (.fieldLink RX7 160 "NearRanksModel" "spot" "I") (by decide +kernel)) (fun _ h9 => h9) rfl (by decide +kernel) rfl rfl (Nat.le_of_ble_eq_true rfl) dX7_number_116 (fun H locs hP hD hS => ?_)
                have hP : va_P D vwCl (ModC mo sa pa ha ta cJ cI (sM n b fl me st lk cm v nu) pt hd (tN t9) ps ru ty rf lks lo1 hi1 ((nuQ t9 ty sp vb + d) + 1) cd pl gv) H := hP
                have hD : va_D _ (ModC mo sa pa ha ta cJ cI (sM n b fl me st lk cm v nu) pt hd (tN t9) ps ru ty rf lks lo1 hi1 ((nuQ t9 ty sp vb + d) + 1) cd pl gv) := hD
                refine lv_goto (tgt := 64) hx hb dX7_number_119 (by decide) ?_
                have el_l4 : dgv t9 (nuQ t9 ty sp vb) (d + 1) = ((10 * (dgv t9 (nuQ t9 ty sp vb) d)) + (t9 (nuQ t9 ty sp vb + d))) - 48 := by show 10 * dgv _ _ _ + (_ - 48) = _; omega
                have el_w0_sp : nuQ t9 ty sp vb + (d + 1) = (nuQ t9 ty sp vb + d) + 1 := by rfl
                exact ih64 (d + 1) (by omega) (by omega) (by omega) (by rw [hrn, show 9 - d = (9 - (d + 1)) + 1 by omega, rn_t c72]; rfl) _ _ (by first | (rw [el_l4, el_w0_sp]; exact hP) | (simp only [el_l4, el_w0_sp]; exact hP) | exact hP) (by first | (rw [el_l4, el_w0_sp]; exact hD) | (simp only [el_l4, el_w0_sp]; exact hD) | exact hD) hS ls (by first | (rw [el_l4, el_w0_sp]; exact lv_sub hl [1, 2, 3, 4, 0] rfl) | (simp only [el_l4, el_w0_sp]; exact lv_sub hl [1, 2, 3, 4, 0] rfl) | exact lv_sub hl [1, 2, 3, 4, 0] rfl)
        exact loop64 (9 - 0 + 1) 0 (by omega) (by omega) (by omega) (by rfl) _ _ (by first | (rw [el_l4, el_l2, el_w0_sp, el_l3]; exact hP) | (simp only [el_l4, el_l2, el_w0_sp, el_l3]; exact hP) | exact hP) (by first | (rw [el_l4, el_l2, el_w0_sp, el_l3]; exact hD) | (simp only [el_l4, el_l2, el_w0_sp, el_l3]; exact hD) | exact hD) hS ls (by first | (rw [el_l4, el_l2, el_w0_sp, el_l3]; exact lv_sub hl [3, 4, 2, 1, 0] rfl) | (simp only [el_l4, el_l2, el_w0_sp, el_l3]; exact lv_sub hl [3, 4, 2, 1, 0] rfl) | exact lv_sub hl [3, 4, 2, 1, 0] rfl)
  · skip
    have hs8 : isA t9 ty 32 32 sp = false := c8
    refine lv_iconst (v := nI 0) hx hb dX7_number_11 (by decide) ?_
    have ew0_sp : ncP t9 ty sp vb = sp := by unfold ncP; first | (rw [if_pos hs8, hE9]; done) | (rw [if_neg (by rw [hs8]; decide)]; done)
    have ew0_pl : nmL t9 ty sp vb pl = pl := by unfold nmL; first | (rw [if_neg (by rw [hs8]; decide)]; done) | (rw [if_pos hs8, if_pos c124]; done) | (rw [if_pos hs8, if_neg (by rw [c124]; decide)]; unfold nuV; rw [hE9, Nat.add_sub_cancel_left]; done)
    have ew0_gv : nmG t9 ty sp vb gv = gv := by unfold nmG; first | (rw [if_neg (by rw [hs8]; decide)]; done) | (rw [if_pos hs8, if_neg (by rw [c124]; decide)]; done) | (rw [if_pos hs8, if_pos c124]; unfold nuV; rw [hE9, Nat.add_sub_cancel_left]; first | (rw [if_pos c128]; done) | (rw [if_neg (by rw [c128]; decide)]; done))
    exact wv_zretM (b := false) hx hb hr hlocks hP hD hS rfl (by first | (unfold nmO ncC; rw [hs8]; rfl) | (unfold nmO ncC; rw [hs8, hE9, decide_eq_false (by omega)]; rfl) | (unfold nmO ncC; rw [hs8, hE9, decide_eq_true (by omega), c183]; rfl)) (by rw [ew0_gv, ew0_pl, ew0_sp]) dX7_number_12
