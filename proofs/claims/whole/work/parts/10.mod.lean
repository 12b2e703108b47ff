/-! The model: the methods that change nothing. -/
abbrev ModC (mo sa pa ha ta : Nat) (cJ cI : ClassId) (ss pt hd : Nat → Int64) (tx : Nat → Int32) (ps : Nat) (ru : Bool) (ty rf lks : Nat) (lo1 hi1 : Int32) (sp : Nat) (cd pl : Int32) (gv : Int64) : va_W := [(mo, .inr (5, [.ref sa, .ref pa, .ref ha, .int (nI ps), .int (bI ru), .ref ta, .int (nI ty), .int (nI rf), .int (nI lks), .int lo1, .int hi1, .int (nI sp), .int cd, .int pl, .long gv])), (sa, .inl (cJ, 71, .inr (.inl ss))), (pa, .inl (cJ, 284, .inr (.inl pt))), (ha, .inl (cJ, 71, .inr (.inl hd))), (ta, .inl (cI, 150, .inl tx))]
set_option maxHeartbeats 4000000 in
set_option maxRecDepth 100000 in
theorem kX7_in (l : Launch) (D : va_G) (x : Int64) (y : Int64) (z : Int64)  : PMi l yX7_in wsX7_in ({ frames := 0, cells := 0, slots := 0, locals := 0 } : Room) [.long x, .long y, .long z] D ([]) [] (bI (decide (y ≤ x) && decide (x ≤ z))) := by
  refine PMi_of (cc := cX7_in) (maxL := 6) (ret := some .boolean) (by decide +kernel) rfl (Nat.le_of_ble_eq_true rfl) ?_
  intro p e s m args below meth c hx hb hr hts hown hlocks hml hP hK hN ls hl
  have hown : s.vm.findClass RX7 = some m.cls := hown
  have hl : lv_has ls 6 [(0, .long x), (2, .long y), (4, .long z)] := hl
  have hS : va_S (va_A [] s.heap.size) s.heap s.heap [] := va_S.rf
  have hA := wk_hA [] s.heap.size
  have hD9 : True := trivial
  refine lv_lload_n hx hb dX7_in_0 rfl (lv_at hl 0 rfl) ?_
  refine lv_lload_n hx hb dX7_in_1 rfl (lv_at hl 1 rfl) ?_
  refine wv_lc_lt (tgt := 17) hx hb dX7_in_2 dX7_in_3 (by decide) (fun c3 => ?_) (fun c3 => ?_)
  · skip
    have c3b : ¬ y ≤ x := wk_l1 c3
    refine lv_iconst (v := nI 0) hx hb dX7_in_17 (by decide) ?_
    exact wv_zretP (b := false) hx hb hr hlocks hS (rfl : nI 0 = bI false) (by first | (rw [decide_eq_false c3b]; rfl) | (rw [decide_eq_true c3b, decide_eq_false c10b]; rfl) | (rw [decide_eq_true c3b, decide_eq_true c10b]; rfl)) dX7_in_18
  · skip
    have c3b : y ≤ x := wk_l2 c3
    refine lv_lload_n hx hb dX7_in_6 rfl (lv_at hl 0 rfl) ?_
    refine lv_lload hx hb dX7_in_7 (lv_at hl 2 rfl) ?_
    refine wv_lc_gt (tgt := 17) hx hb dX7_in_9 dX7_in_10 (by decide) (fun c10 => ?_) (fun c10 => ?_)
    · skip
      have c10b : ¬ x ≤ z := wk_l1 c10
      refine lv_iconst (v := nI 0) hx hb dX7_in_17 (by decide) ?_
      exact wv_zretP (b := false) hx hb hr hlocks hS (rfl : nI 0 = bI false) (by first | (rw [decide_eq_false c3b]; rfl) | (rw [decide_eq_true c3b, decide_eq_false c10b]; rfl) | (rw [decide_eq_true c3b, decide_eq_true c10b]; rfl)) dX7_in_18
    · skip
      have c10b : x ≤ z := wk_l2 c10
      refine lv_iconst (v := nI 1) hx hb dX7_in_13 (by decide) ?_
      refine lv_goto (tgt := 18) hx hb dX7_in_14 (by decide) ?_
      exact wv_zretP (b := true) hx hb hr hlocks hS (rfl : nI 1 = bI true) (by first | (rw [decide_eq_false c3b]; rfl) | (rw [decide_eq_true c3b, decide_eq_false c10b]; rfl) | (rw [decide_eq_true c3b, decide_eq_true c10b]; rfl)) dX7_in_18

set_option maxHeartbeats 4000000 in
set_option maxRecDepth 100000 in
theorem kX7_size (l : Launch) (D : va_G) (x : Int32)  : PMi l yX7_size wsX7_size ({ frames := 0, cells := 0, slots := 0, locals := 0 } : Room) [.int x] D ([]) [] (if 0 ≤ x then x else -x) := by
  refine PMi_of (cc := cX7_size) (maxL := 1) (ret := some .int) (by decide +kernel) rfl (Nat.le_of_ble_eq_true rfl) ?_
  intro p e s m args below meth c hx hb hr hts hown hlocks hml hP hK hN ls hl
  have hown : s.vm.findClass RX7 = some m.cls := hown
  have hl : lv_has ls 1 [(0, .int x)] := hl
  have hS : va_S (va_A [] s.heap.size) s.heap s.heap [] := va_S.rf
  have hA := wk_hA [] s.heap.size
  have hD9 : True := trivial
  refine lv_iload_n hx hb dX7_size_0 rfl (lv_at hl 0 rfl) ?_
  refine lv_if_ge (tgt := 9) hx hb dX7_size_1 (by decide) (fun c1 => ?_) (fun c1 => ?_)
  · skip
    refine lv_iload_n hx hb dX7_size_9 rfl (lv_at hl 0 rfl) ?_
    exact wv_iretP hx hb hr hlocks hS (by simp [*]) dX7_size_10
  · skip
    refine lv_iload_n hx hb dX7_size_4 rfl (lv_at hl 0 rfl) ?_
    refine lv_ineg hx hb dX7_size_5 ?_
    refine lv_goto (tgt := 10) hx hb dX7_size_6 (by decide) ?_
    exact wv_iretP hx hb hr hlocks hS (by simp [*]) dX7_size_10

set_option maxHeartbeats 4000000 in
set_option maxRecDepth 100000 in
theorem kX7_of (l : Launch) (D : va_G) (mo : Nat) (sa : Nat) (pa : Nat) (ha : Nat) (ta : Nat) (cJ : ClassId) (cI : ClassId) (n : Nat) (b : Nat) (fl : Bool) (me : Bool) (st : Int64) (lk : Int64) (cm : Int64) (v : Nat → Int64) (nu : Nat → Int64) (pt : Nat → Int64) (hd : Nat → Int64) (tx : Nat → Int32) (ps : Nat) (ru : Bool) (ty : Nat) (rf : Nat) (lks : Nat) (lo1 : Int32) (hi1 : Int32) (sp : Nat) (cd : Int32) (pl : Int32) (gv : Int64) (k : Nat) (hk : k < 71) : PMi l yX7_of wsX7_of ({ frames := 0, cells := 0, slots := 0, locals := 0 } : Room) [.ref mo, .int (nI k)] D (ModC mo sa pa ha ta cJ cI (sM n b fl me st lk cm v nu) pt hd tx ps ru ty rf lks lo1 hi1 sp cd pl gv) [(cJ, .long), (cI, .int)] ((sM n b fl me st lk cm v nu k).toInt32) := by
  refine PMi_of (cc := cX7_of) (maxL := 2) (ret := some .int) (by decide +kernel) rfl (Nat.le_of_ble_eq_true rfl) ?_
  intro p e s m args below meth c hx hb hr hts hown hlocks hml hP hK hN ls hl
  have hown : s.vm.findClass RX7 = some m.cls := hown
  have hl : lv_has ls 2 [(0, .ref mo), (1, .int (nI k))] := hl
  have hS : va_S (va_A [] s.heap.size) s.heap s.heap [] := va_S.rf
  have hA := wk_hA [] s.heap.size
  have hD9 : True := trivial
  have hinX7 : ∀ w ∈ wsX70, w ∈ wsX7_of := by decide +kernel
  refine lv_aload_n hx hb dX7_of_0 rfl (lv_at hl 0 rfl) ?_
  refine va_get (D := D) (ci := 5) (C := RX7) (T := TX7) (N := 15) hx hb hts hinX7 hown hK hP 0 rfl rfl 0 (by decide) (hts (.fieldLink RX7 7 "NearRanksModel" "s" "[J") (by decide +kernel)) (fun _ h9 => h9) rfl dX7_of_1 ?_
  refine lv_iload_n hx hb dX7_of_4 rfl (lv_at hl 1 rfl) ?_
  refine wv_lald hx hb hK hP 1 0 rfl rfl (k := k) (by omega) (by decide) dX7_of_5 ?_
  refine lv_l2i (v := ((sM n b fl me st lk cm v nu) k).toInt32) hx hb dX7_of_6 rfl ?_
  exact wv_iretP hx hb hr hlocks hS (by rfl) dX7_of_7

set_option maxHeartbeats 4000000 in
set_option maxRecDepth 100000 in
theorem kX7_isPlace (l : Launch) (D : va_G) (mo : Nat) (sa : Nat) (pa : Nat) (ha : Nat) (ta : Nat) (cJ : ClassId) (cI : ClassId) (n : Nat) (b : Nat) (fl : Bool) (me : Bool) (st : Int64) (lk : Int64) (cm : Int64) (v : Nat → Int64) (nu : Nat → Int64) (pt : Nat → Int64) (hd : Nat → Int64) (tx : Nat → Int32) (ps : Nat) (ru : Bool) (ty : Nat) (rf : Nat) (lks : Nat) (lo1 : Int32) (hi1 : Int32) (sp : Nat) (cd : Int32) (pl : Int32) (gv : Int64) (x : Int32) (hn : n ≤ 32) : PMi l yX7_isPlace wsX7_isPlace ({ frames := 0, cells := 0, slots := 0, locals := 0 } : Room) [.ref mo, .int x] D (ModC mo sa pa ha ta cJ cI (sM n b fl me st lk cm v nu) pt hd tx ps ru ty rf lks lo1 hi1 sp cd pl gv) [(cJ, .long), (cI, .int)] (bI (inR x n)) := by
  refine PMi_of (cc := cX7_isPlace) (maxL := 2) (ret := some .boolean) (by decide +kernel) rfl (Nat.le_of_ble_eq_true rfl) ?_
  intro p e s m args below meth c hx hb hr hts hown hlocks hml hP hK hN ls hl
  have hown : s.vm.findClass RX7 = some m.cls := hown
  have hl : lv_has ls 2 [(0, .ref mo), (1, .int x)] := hl
  have hS : va_S (va_A [] s.heap.size) s.heap s.heap [] := va_S.rf
  have hA := wk_hA [] s.heap.size
  have hD9 : True := trivial
  have hinX7 : ∀ w ∈ wsX70, w ∈ wsX7_isPlace := by decide +kernel
  refine lv_iload_n hx hb dX7_isPlace_0 rfl (lv_at hl 1 rfl) ?_
  refine lv_if_lt (tgt := 20) hx hb dX7_isPlace_1 (by decide) (fun c1 => ?_) (fun c1 => ?_)
  · skip
    refine lv_iconst (v := nI 0) hx hb dX7_isPlace_20 (by decide) ?_
    exact wv_zretP (b := false) hx hb hr hlocks hS (rfl : nI 0 = bI false) (by simp [bI, inR, nI_0, wk_1, *]) dX7_isPlace_21
  · skip
    refine lv_iload_n hx hb dX7_isPlace_4 rfl (lv_at hl 1 rfl) ?_
    refine lv_i2l (v := x.toInt64) hx hb dX7_isPlace_5 rfl ?_
    refine lv_aload_n hx hb dX7_isPlace_6 rfl (lv_at hl 0 rfl) ?_
    refine va_get (D := D) (ci := 5) (C := RX7) (T := TX7) (N := 15) hx hb hts hinX7 hown hK hP 0 rfl rfl 0 (by decide) (hts (.fieldLink RX7 7 "NearRanksModel" "s" "[J") (by decide +kernel)) (fun _ h9 => h9) rfl dX7_isPlace_7 ?_
    refine lv_iconst (v := nI 0) hx hb dX7_isPlace_10 (by decide) ?_
    refine wv_lald hx hb hK hP 1 0 rfl rfl (k := 0) (by omega) (by decide) dX7_isPlace_11 ?_
    refine wv_tl (y := lN n) sM_0 ?_
    refine wv_lc_ge (tgt := 20) hx hb dX7_isPlace_12 dX7_isPlace_13 (by decide) (fun c13 => ?_) (fun c13 => ?_)
    · skip
      have c13 : nI n ≤ x := (wk_il (by omega)).mp c13
      refine lv_iconst (v := nI 0) hx hb dX7_isPlace_20 (by decide) ?_
      exact wv_zretP (b := false) hx hb hr hlocks hS (rfl : nI 0 = bI false) (by simp [bI, inR, nI_0, wk_1, *]) dX7_isPlace_21
    · skip
      have c13 : ¬ nI n ≤ x := fun z => c13 ((wk_il (by omega)).mpr z)
      refine lv_iconst (v := nI 1) hx hb dX7_isPlace_16 (by decide) ?_
      refine lv_goto (tgt := 21) hx hb dX7_isPlace_17 (by decide) ?_
      exact wv_zretP (b := true) hx hb hr hlocks hS (rfl : nI 1 = bI true) (by simp [bI, inR, nI_0, wk_1, *]) dX7_isPlace_21

set_option maxHeartbeats 4000000 in
set_option maxRecDepth 100000 in
theorem kX7_isAhead (l : Launch) (D : va_G) (mo : Nat) (sa : Nat) (pa : Nat) (ha : Nat) (ta : Nat) (cJ : ClassId) (cI : ClassId) (n : Nat) (b : Nat) (fl : Bool) (me : Bool) (st : Int64) (lk : Int64) (cm : Int64) (v : Nat → Int64) (nu : Nat → Int64) (pt : Nat → Int64) (hd : Nat → Int64) (tx : Nat → Int32) (ps : Nat) (ru : Bool) (ty : Nat) (rf : Nat) (lks : Nat) (lo1 : Int32) (hi1 : Int32) (sp : Nat) (cd : Int32) (pl : Int32) (gv : Int64) (x : Int64) (y : Int64)  : PMi l yX7_isAhead wsX7_isAhead ({ frames := 0, cells := 0, slots := 0, locals := 0 } : Room) [.ref mo, .long x, .long y] D (ModC mo sa pa ha ta cJ cI (sM n b fl me st lk cm v nu) pt hd tx ps ru ty rf lks lo1 hi1 sp cd pl gv) [(cJ, .long), (cI, .int)] (bI (ahd fl x y)) := by
  refine PMi_of (cc := cX7_isAhead) (maxL := 5) (ret := some .boolean) (by decide +kernel) rfl (Nat.le_of_ble_eq_true rfl) ?_
  intro p e s m args below meth c hx hb hr hts hown hlocks hml hP hK hN ls hl
  have hown : s.vm.findClass RX7 = some m.cls := hown
  have hl : lv_has ls 5 [(0, .ref mo), (1, .long x), (3, .long y)] := hl
  have hS : va_S (va_A [] s.heap.size) s.heap s.heap [] := va_S.rf
  have hA := wk_hA [] s.heap.size
  have hD9 : True := trivial
  have hinX7 : ∀ w ∈ wsX70, w ∈ wsX7_isAhead := by decide +kernel
  refine lv_aload_n hx hb dX7_isAhead_0 rfl (lv_at hl 0 rfl) ?_
  refine va_get (D := D) (ci := 5) (C := RX7) (T := TX7) (N := 15) hx hb hts hinX7 hown hK hP 0 rfl rfl 0 (by decide) (hts (.fieldLink RX7 7 "NearRanksModel" "s" "[J") (by decide +kernel)) (fun _ h9 => h9) rfl dX7_isAhead_1 ?_
  refine lv_iconst (v := nI 2) hx hb dX7_isAhead_4 (by decide) ?_
  refine wv_lald hx hb hK hP 1 0 rfl rfl (k := 2) (by omega) (by decide) dX7_isAhead_5 ?_
  refine wv_tl (y := bL fl) sM_2 ?_
  refine lv_lconst (v := lN 1) hx hb dX7_isAhead_6 rfl ?_
  refine wv_lc_ne (tgt := 25) hx hb dX7_isAhead_7 dX7_isAhead_8 (by decide) (fun c8 => ?_) (fun c8 => ?_)
  · skip
    have c8 : fl = false := Bool.eq_false_iff.mpr (fun z => c8 (bL_1.mpr z))
    refine lv_lload_n hx hb dX7_isAhead_25 rfl (lv_at hl 1 rfl) ?_
    refine lv_lload_n hx hb dX7_isAhead_26 rfl (lv_at hl 2 rfl) ?_
    refine wv_lc_ge (tgt := 35) hx hb dX7_isAhead_27 dX7_isAhead_28 (by decide) (fun c28 => ?_) (fun c28 => ?_)
    · skip
      refine lv_iconst (v := nI 0) hx hb dX7_isAhead_35 (by decide) ?_
      exact wv_zretP (b := false) hx hb hr hlocks hS (rfl : nI 0 = bI false) (by simp [bI, ahd, nI_0, wk_1, *]) dX7_isAhead_36
    · skip
      refine lv_iconst (v := nI 1) hx hb dX7_isAhead_31 (by decide) ?_
      refine lv_goto (tgt := 36) hx hb dX7_isAhead_32 (by decide) ?_
      exact wv_zretP (b := true) hx hb hr hlocks hS (rfl : nI 1 = bI true) (by simp [bI, ahd, nI_0, wk_1, *]) dX7_isAhead_36
  · skip
    have c8 : fl = true := bL_1.mp c8
    refine lv_lload_n hx hb dX7_isAhead_11 rfl (lv_at hl 1 rfl) ?_
    refine lv_lload_n hx hb dX7_isAhead_12 rfl (lv_at hl 2 rfl) ?_
    refine wv_lc_le (tgt := 21) hx hb dX7_isAhead_13 dX7_isAhead_14 (by decide) (fun c14 => ?_) (fun c14 => ?_)
    · skip
      refine lv_iconst (v := nI 0) hx hb dX7_isAhead_21 (by decide) ?_
      refine lv_goto (tgt := 36) hx hb dX7_isAhead_22 (by decide) ?_
      exact wv_zretP (b := false) hx hb hr hlocks hS (rfl : nI 0 = bI false) (by simp [bI, ahd, nI_0, wk_1, *]) dX7_isAhead_36
    · skip
      refine lv_iconst (v := nI 1) hx hb dX7_isAhead_17 (by decide) ?_
      refine lv_goto (tgt := 36) hx hb dX7_isAhead_18 (by decide) ?_
      exact wv_zretP (b := true) hx hb hr hlocks hS (rfl : nI 1 = bI true) (by simp [bI, ahd, nI_0, wk_1, *]) dX7_isAhead_36

set_option maxHeartbeats 4000000 in
set_option maxRecDepth 100000 in
theorem kX7_rank (l : Launch) (D : va_G) (mo : Nat) (sa : Nat) (pa : Nat) (ha : Nat) (ta : Nat) (cJ : ClassId) (cI : ClassId) (n : Nat) (b : Nat) (fl : Bool) (me : Bool) (st : Int64) (lk : Int64) (cm : Int64) (v : Nat → Int64) (nu : Nat → Int64) (pt : Nat → Int64) (hd : Nat → Int64) (tx : Nat → Int32) (ps : Nat) (ru : Bool) (ty : Nat) (rf : Nat) (lks : Nat) (lo1 : Int32) (hi1 : Int32) (sp : Nat) (cd : Int32) (pl : Int32) (gv : Int64) (k : Nat) (hn : n ≤ 32) (hk : k < n) : PMi l yX7_rank wsX7_rank ({ frames := 1, cells := 0, slots := 0, locals := 24 } : Room) [.ref mo, .int (nI k)] D (ModC mo sa pa ha ta cJ cI (sM n b fl me st lk cm v nu) pt hd tx ps ru ty rf lks lo1 hi1 sp cd pl gv) [(cJ, .long), (cI, .int)] (nI (rk0 fl v n k)) := by
  refine PMi_of (cc := cX7_rank) (maxL := 5) (ret := some .int) (by decide +kernel) rfl (Nat.le_of_ble_eq_true rfl) ?_
  intro p e s m args below meth c hx hb hr hts hown hlocks hml hP hK hN ls hl
  have hown : s.vm.findClass RX7 = some m.cls := hown
  have hl : lv_has ls 5 [(0, .ref mo), (1, .int (nI k))] := hl
  have hS : va_S (va_A [] s.heap.size) s.heap s.heap [] := va_S.rf
  have hA := wk_hA [] s.heap.size
  have hD9 : True := trivial
  have hinX7 : ∀ w ∈ wsX70, w ∈ wsX7_rank := by decide +kernel
  refine lv_iconst (v := nI 0) hx hb dX7_rank_0 (by decide) ?_
  refine lv_istore_n (lv' := [(2, .int (nI 0)), (0, .ref mo), (1, .int (nI k))]) hx hb dX7_rank_1 rfl hl (by decide) rfl (fun ls hl => ?_)
  refine lv_iconst (v := nI 0) hx hb dX7_rank_2 (by decide) ?_
  refine lv_istore_n (lv' := [(3, .int (nI 0)), (2, .int (nI 0)), (0, .ref mo), (1, .int (nI k))]) hx hb dX7_rank_3 rfl hl (by decide) rfl (fun ls hl => ?_)
  have el_l2 : cnt (rkp fl v k) 0 = 0 := by rfl
  have loop4 : ∀ (K : Nat) (i : Nat), n - i < K → i ≤ n → ∀ (H : Heap) (locs : List Loc), va_P D vwCl (ModC mo sa pa ha ta cJ cI (sM n b fl me st lk cm v nu) pt hd tx ps ru ty rf lks lo1 hi1 sp cd pl gv) H → va_S (va_A [] s.heap.size) s.heap H locs → ∀ ls : Array Slot, lv_has ls 5 [(0, .ref mo), (1, .int (nI k)), (2, .int (nI (cnt (rkp fl v k) i))), (3, .int (nI i))] → W p l e ({ frames := 1, cells := 0, slots := 0, locals := 24 } : Room) s m args below meth c H locs 0 0 (ZPi below args s (nI (rk0 fl v n k))) (F0 m 4 ls []) := by
    intro K
    induction K with
    | zero => intro i hK0; exact absurd hK0 (Nat.not_lt_zero _)
    | succ K ih4 =>
      intro i hKm hi H locs hP hS ls hl
      refine lv_iload_n hx hb dX7_rank_4 rfl (lv_at hl 3 rfl) ?_
      refine lv_aload_n hx hb dX7_rank_5 rfl (lv_at hl 0 rfl) ?_
      refine lv_iconst (v := nI 0) hx hb dX7_rank_6 (by decide) ?_
      refine wv_callPi (As := [.int (nI 0)]) (rest := [.int (nI i)]) ⟨hx, hb, hml, hown, hts⟩ (kX7_of l D mo sa pa ha ta cJ cI n b fl me st lk cm v nu pt hd tx ps ru ty rf lks lo1 hi1 sp cd pl gv 0 (by first | assumption | omega)) (cwV 1 hts gX7_rank_X7_of rfl rfl rfl (by decide +kernel) ⟨Nat.le_of_ble_eq_true rfl, Nat.le_of_ble_eq_true rfl⟩) hK hN hP hS hA [0, 1, 2, 3, 4] [0, 1] rfl rfl 0 5 rfl rfl rfl rfl hl.1 rfl (Nat.le_of_ble_eq_true rfl) dX7_rank_7 ⟨Nat.zero_le _, Nat.zero_le _⟩ (fun H locs hz9 hP hS => ?_)
      refine wv_ti (y := nI n) of_0 ?_
      refine wv_icmp_ge (tgt := 83) hx hb (by omega) (by omega) dX7_rank_10 (by decide) (fun c10 => ?_) (fun c10 => ?_)
      · skip
        refine lv_iload_n hx hb dX7_rank_83 rfl (lv_at hl 2 rfl) ?_
        exact wv_iretP hx hb hr hlocks hS (by rw [show i = n by omega]; rfl) dX7_rank_84
      · skip
        refine lv_aload_n hx hb dX7_rank_13 rfl (lv_at hl 0 rfl) ?_
        refine lv_aload_n hx hb dX7_rank_14 rfl (lv_at hl 0 rfl) ?_
        refine va_get (D := D) (ci := 5) (C := RX7) (T := TX7) (N := 15) hx hb hts hinX7 hown hK hP 0 rfl rfl 0 (by decide) (hts (.fieldLink RX7 7 "NearRanksModel" "s" "[J") (by decide +kernel)) (fun _ h9 => h9) rfl dX7_rank_15 ?_
        refine lv_bipush (v := nI 7) hx hb dX7_rank_18 (by decide) ?_
        refine lv_iload_n hx hb dX7_rank_20 rfl (lv_at hl 3 rfl) ?_
        refine lv_iadd hx hb dX7_rank_21 ?_
        refine wv_ti (nI_add _ _) ?_
        refine wv_lald hx hb hK hP 1 0 rfl rfl (k := 7 + i) (by omega) (by decide) dX7_rank_22 ?_
        refine wv_tl (y := v i) (sM_v (by omega) (by omega)) ?_
        refine lv_aload_n hx hb dX7_rank_23 rfl (lv_at hl 0 rfl) ?_
        refine va_get (D := D) (ci := 5) (C := RX7) (T := TX7) (N := 15) hx hb hts hinX7 hown hK hP 0 rfl rfl 0 (by decide) (hts (.fieldLink RX7 7 "NearRanksModel" "s" "[J") (by decide +kernel)) (fun _ h9 => h9) rfl dX7_rank_24 ?_
        refine lv_bipush (v := nI 7) hx hb dX7_rank_27 (by decide) ?_
        refine lv_iload_n hx hb dX7_rank_29 rfl (lv_at hl 1 rfl) ?_
        refine lv_iadd hx hb dX7_rank_30 ?_
        refine wv_ti (nI_add _ _) ?_
        refine wv_lald hx hb hK hP 1 0 rfl rfl (k := 7 + k) (by omega) (by decide) dX7_rank_31 ?_
        refine wv_tl (y := v k) (sM_v (by omega) (by omega)) ?_
        refine wv_callPi (As := [.long (v i), .long (v k)]) (rest := []) ⟨hx, hb, hml, hown, hts⟩ (kX7_isAhead l D mo sa pa ha ta cJ cI n b fl me st lk cm v nu pt hd tx ps ru ty rf lks lo1 hi1 sp cd pl gv (v i) (v k)) (cwV 2 hts gX7_rank_X7_isAhead rfl rfl rfl (by decide +kernel) ⟨Nat.le_of_ble_eq_true rfl, Nat.le_of_ble_eq_true rfl⟩) hK hN hP hS hA [0, 1, 2, 3, 4] [0, 1] rfl rfl 0 5 rfl rfl rfl rfl hl.1 rfl (Nat.le_of_ble_eq_true rfl) dX7_rank_32 ⟨Nat.zero_le _, Nat.zero_le _⟩ (fun H locs hz9 hP hS => ?_)
        refine lv_istore (lv' := [(4, .int (bI (ahd fl (v i) (v k)))), (0, .ref mo), (1, .int (nI k)), (2, .int (nI (cnt (rkp fl v k) i))), (3, .int (nI i))]) hx hb dX7_rank_35 hl (by decide) rfl (fun ls hl => ?_)
        refine lv_iload_n hx hb dX7_rank_37 rfl (lv_at hl 3 rfl) ?_
        refine lv_iload hx hb dX7_rank_38 (lv_at hl 0 rfl) ?_
        refine wv_ifneB (tgt := 70) hx hb dX7_rank_40 (by decide) (fun c40 => ?_) (fun c40 => ?_)
        · skip
          refine lv_iconst (v := nI 1) hx hb dX7_rank_70 (by decide) ?_
          refine lv_goto (tgt := 75) hx hb dX7_rank_71 (by decide) ?_
          refine lv_iadd hx hb dX7_rank_75 ?_
          refine wv_ti (nI_add _ _) ?_
          refine lv_istore_n (lv' := [(2, .int (nI ((cnt (rkp fl v k) i) + 1))), (4, .int (bI (ahd fl (v i) (v k)))), (0, .ref mo), (1, .int (nI k)), (3, .int (nI i))]) hx hb dX7_rank_76 rfl hl (by decide) rfl (fun ls hl => ?_)
          refine lv_iinc (v := nI (i + 1)) (lv' := [(3, .int (nI (i + 1))), (2, .int (nI ((cnt (rkp fl v k) i) + 1))), (4, .int (bI (ahd fl (v i) (v k)))), (0, .ref mo), (1, .int (nI k))]) hx hb dX7_rank_77 hl (k := 4) rfl (nI_1 _) (by decide) rfl (fun ls hl => ?_)
          refine lv_goto (tgt := 4) hx hb dX7_rank_80 (by decide) ?_
          have el_l2 : cnt (rkp fl v k) (i + 1) = (cnt (rkp fl v k) i) + 1 := by first | exact cnt_t (rkp_t1 c40) | exact cnt_t (rkp_t2 c45 c67) | exact cnt_f (rkp_f (fun z => absurd z.1 (by omega)) c40) | exact cnt_f (rkp_f (fun z => c67 z.2) c40)
          exact ih4 (i + 1) (by omega) (by first | assumption | omega) _ _ (by first | (rw [el_l2]; exact hP) | (simp only [el_l2]; exact hP) | exact hP) hS ls (by first | (rw [el_l2]; exact lv_sub hl [3, 4, 1, 0] rfl) | (simp only [el_l2]; exact lv_sub hl [3, 4, 1, 0] rfl) | exact lv_sub hl [3, 4, 1, 0] rfl)
        · skip
          refine lv_iload_n hx hb dX7_rank_43 rfl (lv_at hl 4 rfl) ?_
          refine lv_iload_n hx hb dX7_rank_44 rfl (lv_at hl 2 rfl) ?_
          refine wv_icmp_ge (tgt := 74) hx hb (by omega) (by omega) dX7_rank_45 (by decide) (fun c45 => ?_) (fun c45 => ?_)
          · skip
            refine lv_iconst (v := nI 0) hx hb dX7_rank_74 (by decide) ?_
            refine lv_iadd hx hb dX7_rank_75 ?_
            refine wv_ti (nI_add _ _) ?_
            refine lv_istore_n (lv' := [(2, .int (nI ((cnt (rkp fl v k) i) + 0))), (4, .int (bI (ahd fl (v i) (v k)))), (0, .ref mo), (1, .int (nI k)), (3, .int (nI i))]) hx hb dX7_rank_76 rfl hl (by decide) rfl (fun ls hl => ?_)
            refine lv_iinc (v := nI (i + 1)) (lv' := [(3, .int (nI (i + 1))), (2, .int (nI ((cnt (rkp fl v k) i) + 0))), (4, .int (bI (ahd fl (v i) (v k)))), (0, .ref mo), (1, .int (nI k))]) hx hb dX7_rank_77 hl (k := 4) rfl (nI_1 _) (by decide) rfl (fun ls hl => ?_)
            refine lv_goto (tgt := 4) hx hb dX7_rank_80 (by decide) ?_
            have el_l2 : cnt (rkp fl v k) (i + 1) = (cnt (rkp fl v k) i) + 0 := by first | exact cnt_t (rkp_t1 c40) | exact cnt_t (rkp_t2 c45 c67) | exact cnt_f (rkp_f (fun z => absurd z.1 (by omega)) c40) | exact cnt_f (rkp_f (fun z => c67 z.2) c40)
            exact ih4 (i + 1) (by omega) (by first | assumption | omega) _ _ (by first | (rw [el_l2]; exact hP) | (simp only [el_l2]; exact hP) | exact hP) hS ls (by first | (rw [el_l2]; exact lv_sub hl [3, 4, 1, 0] rfl) | (simp only [el_l2]; exact lv_sub hl [3, 4, 1, 0] rfl) | exact lv_sub hl [3, 4, 1, 0] rfl)
          · skip
            refine lv_aload_n hx hb dX7_rank_48 rfl (lv_at hl 1 rfl) ?_
            refine va_get (D := D) (ci := 5) (C := RX7) (T := TX7) (N := 15) hx hb hts hinX7 hown hK hP 0 rfl rfl 0 (by decide) (hts (.fieldLink RX7 7 "NearRanksModel" "s" "[J") (by decide +kernel)) (fun _ h9 => h9) rfl dX7_rank_49 ?_
            refine lv_bipush (v := nI 7) hx hb dX7_rank_52 (by decide) ?_
            refine lv_iload_n hx hb dX7_rank_54 rfl (lv_at hl 4 rfl) ?_
            refine lv_iadd hx hb dX7_rank_55 ?_
            refine wv_ti (nI_add _ _) ?_
            refine wv_lald hx hb hK hP 1 0 rfl rfl (k := 7 + i) (by omega) (by decide) dX7_rank_56 ?_
            refine wv_tl (y := v i) (sM_v (by omega) (by omega)) ?_
            refine lv_aload_n hx hb dX7_rank_57 rfl (lv_at hl 1 rfl) ?_
            refine va_get (D := D) (ci := 5) (C := RX7) (T := TX7) (N := 15) hx hb hts hinX7 hown hK hP 0 rfl rfl 0 (by decide) (hts (.fieldLink RX7 7 "NearRanksModel" "s" "[J") (by decide +kernel)) (fun _ h9 => h9) rfl dX7_rank_58 ?_
            refine lv_bipush (v := nI 7) hx hb dX7_rank_61 (by decide) ?_
            refine lv_iload_n hx hb dX7_rank_63 rfl (lv_at hl 2 rfl) ?_
            refine lv_iadd hx hb dX7_rank_64 ?_
            refine wv_ti (nI_add _ _) ?_
            refine wv_lald hx hb hK hP 1 0 rfl rfl (k := 7 + k) (by omega) (by decide) dX7_rank_65 ?_
            refine wv_tl (y := v k) (sM_v (by omega) (by omega)) ?_
            refine wv_lc_ne (tgt := 74) hx hb dX7_rank_66 dX7_rank_67 (by decide) (fun c67 => ?_) (fun c67 => ?_)
            · skip
              refine lv_iconst (v := nI 0) hx hb dX7_rank_74 (by decide) ?_
              refine lv_iadd hx hb dX7_rank_75 ?_
              refine wv_ti (nI_add _ _) ?_
              refine lv_istore_n (lv' := [(2, .int (nI ((cnt (rkp fl v k) i) + 0))), (4, .int (bI (ahd fl (v i) (v k)))), (0, .ref mo), (1, .int (nI k)), (3, .int (nI i))]) hx hb dX7_rank_76 rfl hl (by decide) rfl (fun ls hl => ?_)
              refine lv_iinc (v := nI (i + 1)) (lv' := [(3, .int (nI (i + 1))), (2, .int (nI ((cnt (rkp fl v k) i) + 0))), (4, .int (bI (ahd fl (v i) (v k)))), (0, .ref mo), (1, .int (nI k))]) hx hb dX7_rank_77 hl (k := 4) rfl (nI_1 _) (by decide) rfl (fun ls hl => ?_)
              refine lv_goto (tgt := 4) hx hb dX7_rank_80 (by decide) ?_
              have el_l2 : cnt (rkp fl v k) (i + 1) = (cnt (rkp fl v k) i) + 0 := by first | exact cnt_t (rkp_t1 c40) | exact cnt_t (rkp_t2 c45 c67) | exact cnt_f (rkp_f (fun z => absurd z.1 (by omega)) c40) | exact cnt_f (rkp_f (fun z => c67 z.2) c40)
              exact ih4 (i + 1) (by omega) (by first | assumption | omega) _ _ (by first | (rw [el_l2]; exact hP) | (simp only [el_l2]; exact hP) | exact hP) hS ls (by first | (rw [el_l2]; exact lv_sub hl [3, 4, 1, 0] rfl) | (simp only [el_l2]; exact lv_sub hl [3, 4, 1, 0] rfl) | exact lv_sub hl [3, 4, 1, 0] rfl)
            · skip
              refine lv_iconst (v := nI 1) hx hb dX7_rank_70 (by decide) ?_
              refine lv_goto (tgt := 75) hx hb dX7_rank_71 (by decide) ?_
              refine lv_iadd hx hb dX7_rank_75 ?_
              refine wv_ti (nI_add _ _) ?_
              refine lv_istore_n (lv' := [(2, .int (nI ((cnt (rkp fl v k) i) + 1))), (4, .int (bI (ahd fl (v i) (v k)))), (0, .ref mo), (1, .int (nI k)), (3, .int (nI i))]) hx hb dX7_rank_76 rfl hl (by decide) rfl (fun ls hl => ?_)
              refine lv_iinc (v := nI (i + 1)) (lv' := [(3, .int (nI (i + 1))), (2, .int (nI ((cnt (rkp fl v k) i) + 1))), (4, .int (bI (ahd fl (v i) (v k)))), (0, .ref mo), (1, .int (nI k))]) hx hb dX7_rank_77 hl (k := 4) rfl (nI_1 _) (by decide) rfl (fun ls hl => ?_)
              refine lv_goto (tgt := 4) hx hb dX7_rank_80 (by decide) ?_
              have el_l2 : cnt (rkp fl v k) (i + 1) = (cnt (rkp fl v k) i) + 1 := by first | exact cnt_t (rkp_t1 c40) | exact cnt_t (rkp_t2 c45 c67) | exact cnt_f (rkp_f (fun z => absurd z.1 (by omega)) c40) | exact cnt_f (rkp_f (fun z => c67 z.2) c40)
              exact ih4 (i + 1) (by omega) (by first | assumption | omega) _ _ (by first | (rw [el_l2]; exact hP) | (simp only [el_l2]; exact hP) | exact hP) hS ls (by first | (rw [el_l2]; exact lv_sub hl [3, 4, 1, 0] rfl) | (simp only [el_l2]; exact lv_sub hl [3, 4, 1, 0] rfl) | exact lv_sub hl [3, 4, 1, 0] rfl)
  exact loop4 (n - 0 + 1) 0 (by omega) (by first | assumption | omega) _ _ (by first | (rw [el_l2]; exact hP) | (simp only [el_l2]; exact hP) | exact hP) hS ls (by first | (rw [el_l2]; exact lv_sub hl [2, 3, 1, 0] rfl) | (simp only [el_l2]; exact lv_sub hl [2, 3, 1, 0] rfl) | exact lv_sub hl [2, 3, 1, 0] rfl)

set_option maxHeartbeats 4000000 in
set_option maxRecDepth 100000 in
theorem kX7_distance (l : Launch) (D : va_G) (mo : Nat) (sa : Nat) (pa : Nat) (ha : Nat) (ta : Nat) (cJ : ClassId) (cI : ClassId) (n : Nat) (b : Nat) (fl : Bool) (me : Bool) (st : Int64) (lk : Int64) (cm : Int64) (v : Nat → Int64) (nu : Nat → Int64) (pt : Nat → Int64) (hd : Nat → Int64) (tx : Nat → Int32) (ps : Nat) (ru : Bool) (ty : Nat) (rf : Nat) (lks : Nat) (lo1 : Int32) (hi1 : Int32) (sp : Nat) (cd : Int32) (pl : Int32) (gv : Int64) (k : Nat) (hn : n ≤ 32) (hk : k < n) : PMi l yX7_distance wsX7_distance ({ frames := 2, cells := 0, slots := 0, locals := 48 } : Room) [.ref mo, .int (nI k)] D (ModC mo sa pa ha ta cJ cI (sM n b fl me st lk cm v nu) pt hd tx ps ru ty rf lks lo1 hi1 sp cd pl gv) [(cJ, .long), (cI, .int)] (dst fl v n k) := by
  refine PMi_of (cc := cX7_distance) (maxL := 2) (ret := some .int) (by decide +kernel) rfl (Nat.le_of_ble_eq_true rfl) ?_
  intro p e s m args below meth c hx hb hr hts hown hlocks hml hP hK hN ls hl
  have hown : s.vm.findClass RX7 = some m.cls := hown
  have hl : lv_has ls 2 [(0, .ref mo), (1, .int (nI k))] := hl
  have hS : va_S (va_A [] s.heap.size) s.heap s.heap [] := va_S.rf
  have hA := wk_hA [] s.heap.size
  have hD9 : True := trivial
  refine lv_iload_n hx hb dX7_distance_0 rfl (lv_at hl 1 rfl) ?_
  refine lv_aload_n hx hb dX7_distance_1 rfl (lv_at hl 0 rfl) ?_
  refine lv_iload_n hx hb dX7_distance_2 rfl (lv_at hl 1 rfl) ?_
  refine wv_callPi (As := [.int (nI k)]) (rest := [.int (nI k)]) ⟨hx, hb, hml, hown, hts⟩ (kX7_rank l D mo sa pa ha ta cJ cI n b fl me st lk cm v nu pt hd tx ps ru ty rf lks lo1 hi1 sp cd pl gv k (by first | assumption | omega) (by first | assumption | omega)) (cwV 1 hts gX7_distance_X7_rank rfl rfl rfl (by decide +kernel) ⟨Nat.le_of_ble_eq_true rfl, Nat.le_of_ble_eq_true rfl⟩) hK hN hP hS hA [0, 1, 2, 3, 4] [0, 1] rfl rfl 0 5 rfl rfl rfl rfl hl.1 rfl (Nat.le_of_ble_eq_true rfl) dX7_distance_3 ⟨Nat.zero_le _, Nat.zero_le _⟩ (fun H locs hz9 hP hS => ?_)
  refine lv_isub hx hb dX7_distance_6 ?_
  exact wv_iretP hx hb hr hlocks hS (by rfl) dX7_distance_7

set_option maxHeartbeats 4000000 in
set_option maxRecDepth 100000 in
theorem kX7_isBroken (l : Launch) (D : va_G) (mo : Nat) (sa : Nat) (pa : Nat) (ha : Nat) (ta : Nat) (cJ : ClassId) (cI : ClassId) (n : Nat) (b : Nat) (fl : Bool) (me : Bool) (st : Int64) (lk : Int64) (cm : Int64) (v : Nat → Int64) (nu : Nat → Int64) (pt : Nat → Int64) (hd : Nat → Int64) (tx : Nat → Int32) (ps : Nat) (ru : Bool) (ty : Nat) (rf : Nat) (lks : Nat) (lo1 : Int32) (hi1 : Int32) (sp : Nat) (cd : Int32) (pl : Int32) (gv : Int64) (k : Nat) (hn : n ≤ 32) (hb : b ≤ 31) (hk : k < n) : PMi l yX7_isBroken wsX7_isBroken ({ frames := 3, cells := 0, slots := 0, locals := 69 } : Room) [.ref mo, .int (nI k)] D (ModC mo sa pa ha ta cJ cI (sM n b fl me st lk cm v nu) pt hd tx ps ru ty rf lks lo1 hi1 sp cd pl gv) [(cJ, .long), (cI, .int)] (bI (brk fl v n b k)) := by
  refine PMi_of (cc := cX7_isBroken) (maxL := 2) (ret := some .boolean) (by decide +kernel) rfl (Nat.le_of_ble_eq_true rfl) ?_
  intro p e s m args below meth c hx hb hr hts hown hlocks hml hP hK hN ls hl
  have hown : s.vm.findClass RX7 = some m.cls := hown
  have hl : lv_has ls 2 [(0, .ref mo), (1, .int (nI k))] := hl
  have hS : va_S (va_A [] s.heap.size) s.heap s.heap [] := va_S.rf
  have hA := wk_hA [] s.heap.size
  have hD9 : True := trivial
  have hinX7 : ∀ w ∈ wsX70, w ∈ wsX7_isBroken := by decide +kernel
  have hfar := far_le (fl := fl) (v := v) hk
  refine lv_aload_n hx hb dX7_isBroken_0 rfl (lv_at hl 0 rfl) ?_
  refine lv_iload_n hx hb dX7_isBroken_1 rfl (lv_at hl 1 rfl) ?_
  refine wv_callPi (As := [.int (nI k)]) (rest := []) ⟨hx, hb, hml, hown, hts⟩ (kX7_distance l D mo sa pa ha ta cJ cI n b fl me st lk cm v nu pt hd tx ps ru ty rf lks lo1 hi1 sp cd pl gv k (by first | assumption | omega) (by first | assumption | omega)) (cwV 1 hts gX7_isBroken_X7_distance rfl rfl rfl (by decide +kernel) ⟨Nat.le_of_ble_eq_true rfl, Nat.le_of_ble_eq_true rfl⟩) hK hN hP hS hA [0, 1, 2, 3, 4] [0, 1] rfl rfl 0 5 rfl rfl rfl rfl hl.1 rfl (Nat.le_of_ble_eq_true rfl) dX7_isBroken_2 ⟨Nat.zero_le _, Nat.zero_le _⟩ (fun H locs hz9 hP hS => ?_)
  refine wv_callSi (As := [.int (dst fl v n k)]) (rest := []) ⟨hx, hb, hml, hown, hts⟩ (kX7_size l D (dst fl v n k)) (va_cwS 1 hts gX7_isBroken_X7_size rfl rfl rfl (by decide +kernel) ⟨Nat.le_of_ble_eq_true rfl, Nat.le_of_ble_eq_true rfl⟩) hK hN hP hS hA [] [] rfl rfl rfl hl.1 rfl (Nat.le_of_ble_eq_true rfl) dX7_isBroken_5 ⟨Nat.zero_le _, Nat.zero_le _⟩ (fun H locs hz9 hP hS => ?_)
  refine wv_ti (y := nI (far fl v n k)) (dst_sz hk hn) ?_
  refine lv_i2l (v := lN (far fl v n k)) hx hb dX7_isBroken_8 (nI_l (by omega)) ?_
  refine lv_aload_n hx hb dX7_isBroken_9 rfl (lv_at hl 0 rfl) ?_
  refine va_get (D := D) (ci := 5) (C := RX7) (T := TX7) (N := 15) hx hb hts hinX7 hown hK hP 0 rfl rfl 0 (by decide) (hts (.fieldLink RX7 7 "NearRanksModel" "s" "[J") (by decide +kernel)) (fun _ h9 => h9) rfl dX7_isBroken_10 ?_
  refine lv_iconst (v := nI 1) hx hb dX7_isBroken_13 (by decide) ?_
  refine wv_lald hx hb hK hP 1 0 rfl rfl (k := 1) (by omega) (by decide) dX7_isBroken_14 ?_
  refine wv_tl (y := lN b) sM_1 ?_
  refine wv_lcN_le (tgt := 23) hx hb (by omega) (by omega) dX7_isBroken_15 dX7_isBroken_16 (by decide) (fun c16 => ?_) (fun c16 => ?_)
  · skip
    refine lv_iconst (v := nI 0) hx hb dX7_isBroken_23 (by decide) ?_
    exact wv_zretP (b := false) hx hb hr hlocks hS (rfl : nI 0 = bI false) (by first | (rw [show brk fl v n b k = true from decide_eq_true (by omega)]; rfl) | (rw [show brk fl v n b k = false from decide_eq_false (by omega)]; rfl)) dX7_isBroken_24
  · skip
    refine lv_iconst (v := nI 1) hx hb dX7_isBroken_19 (by decide) ?_
    refine lv_goto (tgt := 24) hx hb dX7_isBroken_20 (by decide) ?_
    exact wv_zretP (b := true) hx hb hr hlocks hS (rfl : nI 1 = bI true) (by first | (rw [show brk fl v n b k = true from decide_eq_true (by omega)]; rfl) | (rw [show brk fl v n b k = false from decide_eq_false (by omega)]; rfl)) dX7_isBroken_24

set_option maxHeartbeats 4000000 in
set_option maxRecDepth 100000 in
theorem kX7_brokenOnes (l : Launch) (D : va_G) (mo : Nat) (sa : Nat) (pa : Nat) (ha : Nat) (ta : Nat) (cJ : ClassId) (cI : ClassId) (n : Nat) (b : Nat) (fl : Bool) (me : Bool) (st : Int64) (lk : Int64) (cm : Int64) (v : Nat → Int64) (nu : Nat → Int64) (pt : Nat → Int64) (hd : Nat → Int64) (tx : Nat → Int32) (ps : Nat) (ru : Bool) (ty : Nat) (rf : Nat) (lks : Nat) (lo1 : Int32) (hi1 : Int32) (sp : Nat) (cd : Int32) (pl : Int32) (gv : Int64) (hn : n ≤ 32) (hb : b ≤ 31) : PMi l yX7_brokenOnes wsX7_brokenOnes ({ frames := 4, cells := 0, slots := 0, locals := 90 } : Room) [.ref mo] D (ModC mo sa pa ha ta cJ cI (sM n b fl me st lk cm v nu) pt hd tx ps ru ty rf lks lo1 hi1 sp cd pl gv) [(cJ, .long), (cI, .int)] (nI (cnt (brk fl v n b) n)) := by
  refine PMi_of (cc := cX7_brokenOnes) (maxL := 3) (ret := some .int) (by decide +kernel) rfl (Nat.le_of_ble_eq_true rfl) ?_
  intro p e s m args below meth c hx hb hr hts hown hlocks hml hP hK hN ls hl
  have hown : s.vm.findClass RX7 = some m.cls := hown
  have hl : lv_has ls 3 [(0, .ref mo)] := hl
  have hS : va_S (va_A [] s.heap.size) s.heap s.heap [] := va_S.rf
  have hA := wk_hA [] s.heap.size
  have hD9 : True := trivial
  refine lv_iconst (v := nI 0) hx hb dX7_brokenOnes_0 (by decide) ?_
  refine lv_istore_n (lv' := [(1, .int (nI 0)), (0, .ref mo)]) hx hb dX7_brokenOnes_1 rfl hl (by decide) rfl (fun ls hl => ?_)
  refine lv_iconst (v := nI 0) hx hb dX7_brokenOnes_2 (by decide) ?_
  refine lv_istore_n (lv' := [(2, .int (nI 0)), (1, .int (nI 0)), (0, .ref mo)]) hx hb dX7_brokenOnes_3 rfl hl (by decide) rfl (fun ls hl => ?_)
  have el_l1 : cnt (brk fl v n b) 0 = 0 := by rfl
  have loop4 : ∀ (K : Nat) (i : Nat), n - i < K → i ≤ n → ∀ (H : Heap) (locs : List Loc), va_P D vwCl (ModC mo sa pa ha ta cJ cI (sM n b fl me st lk cm v nu) pt hd tx ps ru ty rf lks lo1 hi1 sp cd pl gv) H → va_S (va_A [] s.heap.size) s.heap H locs → ∀ ls : Array Slot, lv_has ls 3 [(0, .ref mo), (1, .int (nI (cnt (brk fl v n b) i))), (2, .int (nI i))] → W p l e ({ frames := 4, cells := 0, slots := 0, locals := 90 } : Room) s m args below meth c H locs 0 0 (ZPi below args s (nI (cnt (brk fl v n b) n))) (F0 m 4 ls []) := by
    intro K
    induction K with
    | zero => intro i hK0; exact absurd hK0 (Nat.not_lt_zero _)
    | succ K ih4 =>
      intro i hKm hi H locs hP hS ls hl
      refine lv_iload_n hx hb dX7_brokenOnes_4 rfl (lv_at hl 2 rfl) ?_
      refine lv_aload_n hx hb dX7_brokenOnes_5 rfl (lv_at hl 0 rfl) ?_
      refine lv_iconst (v := nI 0) hx hb dX7_brokenOnes_6 (by decide) ?_
      refine wv_callPi (As := [.int (nI 0)]) (rest := [.int (nI i)]) ⟨hx, hb, hml, hown, hts⟩ (kX7_of l D mo sa pa ha ta cJ cI n b fl me st lk cm v nu pt hd tx ps ru ty rf lks lo1 hi1 sp cd pl gv 0 (by first | assumption | omega)) (cwV 1 hts gX7_brokenOnes_X7_of rfl rfl rfl (by decide +kernel) ⟨Nat.le_of_ble_eq_true rfl, Nat.le_of_ble_eq_true rfl⟩) hK hN hP hS hA [0, 1, 2, 3, 4] [0, 1] rfl rfl 0 5 rfl rfl rfl rfl hl.1 rfl (Nat.le_of_ble_eq_true rfl) dX7_brokenOnes_7 ⟨Nat.zero_le _, Nat.zero_le _⟩ (fun H locs hz9 hP hS => ?_)
      refine wv_ti (y := nI n) of_0 ?_
      refine wv_icmp_ge (tgt := 35) hx hb (by omega) (by omega) dX7_brokenOnes_10 (by decide) (fun c10 => ?_) (fun c10 => ?_)
      · skip
        refine lv_iload_n hx hb dX7_brokenOnes_35 rfl (lv_at hl 1 rfl) ?_
        exact wv_iretP hx hb hr hlocks hS (by rw [show i = n by omega]) dX7_brokenOnes_36
      · skip
        refine lv_iload_n hx hb dX7_brokenOnes_13 rfl (lv_at hl 1 rfl) ?_
        refine lv_aload_n hx hb dX7_brokenOnes_14 rfl (lv_at hl 0 rfl) ?_
        refine lv_iload_n hx hb dX7_brokenOnes_15 rfl (lv_at hl 2 rfl) ?_
        refine wv_callPi (As := [.int (nI i)]) (rest := [.int (nI (cnt (brk fl v n b) i))]) ⟨hx, hb, hml, hown, hts⟩ (kX7_isBroken l D mo sa pa ha ta cJ cI n b fl me st lk cm v nu pt hd tx ps ru ty rf lks lo1 hi1 sp cd pl gv i (by first | assumption | omega) (by first | assumption | omega) (by first | assumption | omega)) (cwV 1 hts gX7_brokenOnes_X7_isBroken rfl rfl rfl (by decide +kernel) ⟨Nat.le_of_ble_eq_true rfl, Nat.le_of_ble_eq_true rfl⟩) hK hN hP hS hA [0, 1, 2, 3, 4] [0, 1] rfl rfl 0 5 rfl rfl rfl rfl hl.1 rfl (Nat.le_of_ble_eq_true rfl) dX7_brokenOnes_16 ⟨Nat.zero_le _, Nat.zero_le _⟩ (fun H locs hz9 hP hS => ?_)
        refine wv_ifeqB (tgt := 26) hx hb dX7_brokenOnes_19 (by decide) (fun c19 => ?_) (fun c19 => ?_)
        · skip
          refine lv_iconst (v := nI 0) hx hb dX7_brokenOnes_26 (by decide) ?_
          refine lv_iadd hx hb dX7_brokenOnes_27 ?_
          refine wv_ti (nI_add _ _) ?_
          refine lv_istore_n (lv' := [(1, .int (nI ((cnt (brk fl v n b) i) + 0))), (0, .ref mo), (2, .int (nI i))]) hx hb dX7_brokenOnes_28 rfl hl (by decide) rfl (fun ls hl => ?_)
          refine lv_iinc (v := nI (i + 1)) (lv' := [(2, .int (nI (i + 1))), (1, .int (nI ((cnt (brk fl v n b) i) + 0))), (0, .ref mo)]) hx hb dX7_brokenOnes_29 hl (k := 2) rfl (nI_1 _) (by decide) rfl (fun ls hl => ?_)
          refine lv_goto (tgt := 4) hx hb dX7_brokenOnes_32 (by decide) ?_
          have el_l1 : cnt (brk fl v n b) (i + 1) = (cnt (brk fl v n b) i) + 0 := by first | exact cnt_t c19 | exact cnt_f c19
          exact ih4 (i + 1) (by omega) (by first | assumption | omega) _ _ (by first | (rw [el_l1]; exact hP) | (simp only [el_l1]; exact hP) | exact hP) hS ls (by first | (rw [el_l1]; exact lv_sub hl [2, 1, 0] rfl) | (simp only [el_l1]; exact lv_sub hl [2, 1, 0] rfl) | exact lv_sub hl [2, 1, 0] rfl)
        · skip
          refine lv_iconst (v := nI 1) hx hb dX7_brokenOnes_22 (by decide) ?_
          refine lv_goto (tgt := 27) hx hb dX7_brokenOnes_23 (by decide) ?_
          refine lv_iadd hx hb dX7_brokenOnes_27 ?_
          refine wv_ti (nI_add _ _) ?_
          refine lv_istore_n (lv' := [(1, .int (nI ((cnt (brk fl v n b) i) + 1))), (0, .ref mo), (2, .int (nI i))]) hx hb dX7_brokenOnes_28 rfl hl (by decide) rfl (fun ls hl => ?_)
          refine lv_iinc (v := nI (i + 1)) (lv' := [(2, .int (nI (i + 1))), (1, .int (nI ((cnt (brk fl v n b) i) + 1))), (0, .ref mo)]) hx hb dX7_brokenOnes_29 hl (k := 2) rfl (nI_1 _) (by decide) rfl (fun ls hl => ?_)
          refine lv_goto (tgt := 4) hx hb dX7_brokenOnes_32 (by decide) ?_
          have el_l1 : cnt (brk fl v n b) (i + 1) = (cnt (brk fl v n b) i) + 1 := by first | exact cnt_t c19 | exact cnt_f c19
          exact ih4 (i + 1) (by omega) (by first | assumption | omega) _ _ (by first | (rw [el_l1]; exact hP) | (simp only [el_l1]; exact hP) | exact hP) hS ls (by first | (rw [el_l1]; exact lv_sub hl [2, 1, 0] rfl) | (simp only [el_l1]; exact lv_sub hl [2, 1, 0] rfl) | exact lv_sub hl [2, 1, 0] rfl)
  exact loop4 (n - 0 + 1) 0 (by omega) (by first | assumption | omega) _ _ (by first | (rw [el_l1]; exact hP) | (simp only [el_l1]; exact hP) | exact hP) hS ls (by first | (rw [el_l1]; exact lv_sub hl [2, 1, 0] rfl) | (simp only [el_l1]; exact lv_sub hl [2, 1, 0] rfl) | exact lv_sub hl [2, 1, 0] rfl)

set_option maxHeartbeats 4000000 in
set_option maxRecDepth 100000 in
theorem kX7_isFall (l : Launch) (D : va_G) (mo : Nat) (sa : Nat) (pa : Nat) (ha : Nat) (ta : Nat) (cJ : ClassId) (cI : ClassId) (n : Nat) (b : Nat) (fl : Bool) (me : Bool) (st : Int64) (lk : Int64) (cm : Int64) (v : Nat → Int64) (nu : Nat → Int64) (pt : Nat → Int64) (hd : Nat → Int64) (tx : Nat → Int32) (ps : Nat) (ru : Bool) (ty : Nat) (rf : Nat) (lks : Nat) (lo1 : Int32) (hi1 : Int32) (sp : Nat) (cd : Int32) (pl : Int32) (gv : Int64) (k : Nat) (hn : n ≤ 32) (hk : k < n) : PMi l yX7_isFall wsX7_isFall ({ frames := 1, cells := 0, slots := 0, locals := 24 } : Room) [.ref mo, .int (nI k)] D (ModC mo sa pa ha ta cJ cI (sM n b fl me st lk cm v nu) pt hd tx ps ru ty rf lks lo1 hi1 sp cd pl gv) [(cJ, .long), (cI, .int)] (bI (fal fl v n k)) := by
  refine PMi_of (cc := cX7_isFall) (maxL := 2) (ret := some .boolean) (by decide +kernel) rfl (Nat.le_of_ble_eq_true rfl) ?_
  intro p e s m args below meth c hx hb hr hts hown hlocks hml hP hK hN ls hl
  have hown : s.vm.findClass RX7 = some m.cls := hown
  have hl : lv_has ls 2 [(0, .ref mo), (1, .int (nI k))] := hl
  have hS : va_S (va_A [] s.heap.size) s.heap s.heap [] := va_S.rf
  have hA := wk_hA [] s.heap.size
  have hD9 : True := trivial
  have hinX7 : ∀ w ∈ wsX70, w ∈ wsX7_isFall := by decide +kernel
  refine lv_iload_n hx hb dX7_isFall_0 rfl (lv_at hl 1 rfl) ?_
  refine lv_iconst (v := nI 1) hx hb dX7_isFall_1 (by decide) ?_
  refine lv_iadd hx hb dX7_isFall_2 ?_
  refine wv_ti (nI_add _ _) ?_
  refine lv_i2l (v := lN (k + 1)) hx hb dX7_isFall_3 (nI_l (by omega)) ?_
  refine lv_aload_n hx hb dX7_isFall_4 rfl (lv_at hl 0 rfl) ?_
  refine va_get (D := D) (ci := 5) (C := RX7) (T := TX7) (N := 15) hx hb hts hinX7 hown hK hP 0 rfl rfl 0 (by decide) (hts (.fieldLink RX7 7 "NearRanksModel" "s" "[J") (by decide +kernel)) (fun _ h9 => h9) rfl dX7_isFall_5 ?_
  refine lv_iconst (v := nI 0) hx hb dX7_isFall_8 (by decide) ?_
  refine wv_lald hx hb hK hP 1 0 rfl rfl (k := 0) (by omega) (by decide) dX7_isFall_9 ?_
  refine wv_tl (y := lN n) sM_0 ?_
  refine wv_lcN_ge (tgt := 45) hx hb (by omega) (by omega) dX7_isFall_10 dX7_isFall_11 (by decide) (fun c11 => ?_) (fun c11 => ?_)
  · skip
    have c11b : ¬ k + 1 < n := by omega
    refine lv_iconst (v := nI 0) hx hb dX7_isFall_45 (by decide) ?_
    exact wv_zretP (b := false) hx hb hr hlocks hS (rfl : nI 0 = bI false) (by simp [fal, bI, nI_0, wk_1, *]) dX7_isFall_46
  · skip
    refine lv_aload_n hx hb dX7_isFall_14 rfl (lv_at hl 0 rfl) ?_
    refine lv_aload_n hx hb dX7_isFall_15 rfl (lv_at hl 0 rfl) ?_
    refine va_get (D := D) (ci := 5) (C := RX7) (T := TX7) (N := 15) hx hb hts hinX7 hown hK hP 0 rfl rfl 0 (by decide) (hts (.fieldLink RX7 7 "NearRanksModel" "s" "[J") (by decide +kernel)) (fun _ h9 => h9) rfl dX7_isFall_16 ?_
    refine lv_bipush (v := nI 7) hx hb dX7_isFall_19 (by decide) ?_
    refine lv_iload_n hx hb dX7_isFall_21 rfl (lv_at hl 1 rfl) ?_
    refine lv_iadd hx hb dX7_isFall_22 ?_
    refine wv_ti (nI_add _ _) ?_
    refine lv_iconst (v := nI 1) hx hb dX7_isFall_23 (by decide) ?_
    refine lv_iadd hx hb dX7_isFall_24 ?_
    refine wv_ti (nI_add _ _) ?_
    refine wv_lald hx hb hK hP 1 0 rfl rfl (k := (7 + k) + 1) (by omega) (by decide) dX7_isFall_25 ?_
    refine wv_tl (y := v (k + 1)) (sM_v (by omega) (by omega)) ?_
    refine lv_aload_n hx hb dX7_isFall_26 rfl (lv_at hl 0 rfl) ?_
    refine va_get (D := D) (ci := 5) (C := RX7) (T := TX7) (N := 15) hx hb hts hinX7 hown hK hP 0 rfl rfl 0 (by decide) (hts (.fieldLink RX7 7 "NearRanksModel" "s" "[J") (by decide +kernel)) (fun _ h9 => h9) rfl dX7_isFall_27 ?_
    refine lv_bipush (v := nI 7) hx hb dX7_isFall_30 (by decide) ?_
    refine lv_iload_n hx hb dX7_isFall_32 rfl (lv_at hl 1 rfl) ?_
    refine lv_iadd hx hb dX7_isFall_33 ?_
    refine wv_ti (nI_add _ _) ?_
    refine wv_lald hx hb hK hP 1 0 rfl rfl (k := 7 + k) (by omega) (by decide) dX7_isFall_34 ?_
    refine wv_tl (y := v k) (sM_v (by omega) (by omega)) ?_
    refine wv_callPi (As := [.long (v (k + 1)), .long (v k)]) (rest := []) ⟨hx, hb, hml, hown, hts⟩ (kX7_isAhead l D mo sa pa ha ta cJ cI n b fl me st lk cm v nu pt hd tx ps ru ty rf lks lo1 hi1 sp cd pl gv (v (k + 1)) (v k)) (cwV 2 hts gX7_isFall_X7_isAhead rfl rfl rfl (by decide +kernel) ⟨Nat.le_of_ble_eq_true rfl, Nat.le_of_ble_eq_true rfl⟩) hK hN hP hS hA [0, 1, 2, 3, 4] [0, 1] rfl rfl 0 5 rfl rfl rfl rfl hl.1 rfl (Nat.le_of_ble_eq_true rfl) dX7_isFall_35 ⟨Nat.zero_le _, Nat.zero_le _⟩ (fun H locs hz9 hP hS => ?_)
    refine wv_ifeqB (tgt := 45) hx hb dX7_isFall_38 (by decide) (fun c38 => ?_) (fun c38 => ?_)
    · skip
      refine lv_iconst (v := nI 0) hx hb dX7_isFall_45 (by decide) ?_
      exact wv_zretP (b := false) hx hb hr hlocks hS (rfl : nI 0 = bI false) (by simp [fal, bI, nI_0, wk_1, *]) dX7_isFall_46
    · skip
      refine lv_iconst (v := nI 1) hx hb dX7_isFall_41 (by decide) ?_
      refine lv_goto (tgt := 46) hx hb dX7_isFall_42 (by decide) ?_
      exact wv_zretP (b := true) hx hb hr hlocks hS (rfl : nI 1 = bI true) (by simp [fal, bI, nI_0, wk_1, *]) dX7_isFall_46

set_option maxHeartbeats 4000000 in
set_option maxRecDepth 100000 in
theorem kX7_inversionsOf (l : Launch) (D : va_G) (mo : Nat) (sa : Nat) (pa : Nat) (ha : Nat) (ta : Nat) (cJ : ClassId) (cI : ClassId) (n : Nat) (b : Nat) (fl : Bool) (me : Bool) (st : Int64) (lk : Int64) (cm : Int64) (v : Nat → Int64) (nu : Nat → Int64) (pt : Nat → Int64) (hd : Nat → Int64) (tx : Nat → Int32) (ps : Nat) (ru : Bool) (ty : Nat) (rf : Nat) (lks : Nat) (lo1 : Int32) (hi1 : Int32) (sp : Nat) (cd : Int32) (pl : Int32) (gv : Int64) (k : Nat) (hn : n ≤ 32) (hk : k < n) : PMi l yX7_inversionsOf wsX7_inversionsOf ({ frames := 1, cells := 0, slots := 0, locals := 24 } : Room) [.ref mo, .int (nI k)] D (ModC mo sa pa ha ta cJ cI (sM n b fl me st lk cm v nu) pt hd tx ps ru ty rf lks lo1 hi1 sp cd pl gv) [(cJ, .long), (cI, .int)] (nI (ivo fl v n k)) := by
  refine PMi_of (cc := cX7_inversionsOf) (maxL := 5) (ret := some .int) (by decide +kernel) rfl (Nat.le_of_ble_eq_true rfl) ?_
  intro p e s m args below meth c hx hb hr hts hown hlocks hml hP hK hN ls hl
  have hown : s.vm.findClass RX7 = some m.cls := hown
  have hl : lv_has ls 5 [(0, .ref mo), (1, .int (nI k))] := hl
  have hS : va_S (va_A [] s.heap.size) s.heap s.heap [] := va_S.rf
  have hA := wk_hA [] s.heap.size
  have hD9 : True := trivial
  have hinX7 : ∀ w ∈ wsX70, w ∈ wsX7_inversionsOf := by decide +kernel
  refine lv_iconst (v := nI 0) hx hb dX7_inversionsOf_0 (by decide) ?_
  refine lv_istore_n (lv' := [(2, .int (nI 0)), (0, .ref mo), (1, .int (nI k))]) hx hb dX7_inversionsOf_1 rfl hl (by decide) rfl (fun ls hl => ?_)
  refine lv_iconst (v := nI 0) hx hb dX7_inversionsOf_2 (by decide) ?_
  refine lv_istore_n (lv' := [(3, .int (nI 0)), (2, .int (nI 0)), (0, .ref mo), (1, .int (nI k))]) hx hb dX7_inversionsOf_3 rfl hl (by decide) rfl (fun ls hl => ?_)
  have el_l2 : cnt (ivp fl v k) 0 = 0 := by rfl
  have loop4 : ∀ (K : Nat) (i : Nat), n - i < K → i ≤ n → ∀ (H : Heap) (locs : List Loc), va_P D vwCl (ModC mo sa pa ha ta cJ cI (sM n b fl me st lk cm v nu) pt hd tx ps ru ty rf lks lo1 hi1 sp cd pl gv) H → va_S (va_A [] s.heap.size) s.heap H locs → ∀ ls : Array Slot, lv_has ls 5 [(0, .ref mo), (1, .int (nI k)), (2, .int (nI (cnt (ivp fl v k) i))), (3, .int (nI i))] → W p l e ({ frames := 1, cells := 0, slots := 0, locals := 24 } : Room) s m args below meth c H locs 0 0 (ZPi below args s (nI (ivo fl v n k))) (F0 m 4 ls []) := by
    intro K
    induction K with
    | zero => intro i hK0; exact absurd hK0 (Nat.not_lt_zero _)
    | succ K ih4 =>
      intro i hKm hi H locs hP hS ls hl
      refine lv_iload_n hx hb dX7_inversionsOf_4 rfl (lv_at hl 3 rfl) ?_
      refine lv_aload_n hx hb dX7_inversionsOf_5 rfl (lv_at hl 0 rfl) ?_
      refine lv_iconst (v := nI 0) hx hb dX7_inversionsOf_6 (by decide) ?_
      refine wv_callPi (As := [.int (nI 0)]) (rest := [.int (nI i)]) ⟨hx, hb, hml, hown, hts⟩ (kX7_of l D mo sa pa ha ta cJ cI n b fl me st lk cm v nu pt hd tx ps ru ty rf lks lo1 hi1 sp cd pl gv 0 (by first | assumption | omega)) (cwV 1 hts gX7_inversionsOf_X7_of rfl rfl rfl (by decide +kernel) ⟨Nat.le_of_ble_eq_true rfl, Nat.le_of_ble_eq_true rfl⟩) hK hN hP hS hA [0, 1, 2, 3, 4] [0, 1] rfl rfl 0 5 rfl rfl rfl rfl hl.1 rfl (Nat.le_of_ble_eq_true rfl) dX7_inversionsOf_7 ⟨Nat.zero_le _, Nat.zero_le _⟩ (fun H locs hz9 hP hS => ?_)
      refine wv_ti (y := nI n) of_0 ?_
      refine wv_icmp_ge (tgt := 99) hx hb (by omega) (by omega) dX7_inversionsOf_10 (by decide) (fun c10 => ?_) (fun c10 => ?_)
      · skip
        refine lv_iload_n hx hb dX7_inversionsOf_99 rfl (lv_at hl 2 rfl) ?_
        exact wv_iretP hx hb hr hlocks hS (by rw [show i = n by omega]; rfl) dX7_inversionsOf_100
      · skip
        refine lv_iload_n hx hb dX7_inversionsOf_13 rfl (lv_at hl 3 rfl) ?_
        refine lv_iload_n hx hb dX7_inversionsOf_14 rfl (lv_at hl 1 rfl) ?_
        refine wv_icmp_ge (tgt := 43) hx hb (by omega) (by omega) dX7_inversionsOf_15 (by decide) (fun c15 => ?_) (fun c15 => ?_)
        · skip
          refine lv_iload_n hx hb dX7_inversionsOf_43 rfl (lv_at hl 3 rfl) ?_
          refine lv_iload_n hx hb dX7_inversionsOf_44 rfl (lv_at hl 1 rfl) ?_
          refine wv_icmp_le (tgt := 77) hx hb (by omega) (by omega) dX7_inversionsOf_45 (by decide) (fun c45 => ?_) (fun c45 => ?_)
          · skip
            refine lv_iconst (v := nI 0) hx hb dX7_inversionsOf_77 (by decide) ?_
            refine lv_istore (lv' := [(4, .int (nI 0)), (0, .ref mo), (1, .int (nI k)), (2, .int (nI (cnt (ivp fl v k) i))), (3, .int (nI i))]) hx hb dX7_inversionsOf_78 hl (by decide) rfl (fun ls hl => ?_)
            refine lv_iload_n hx hb dX7_inversionsOf_80 rfl (lv_at hl 3 rfl) ?_
            refine lv_iload hx hb dX7_inversionsOf_81 (lv_at hl 0 rfl) ?_
            refine lv_if_eq (tgt := 90) hx hb dX7_inversionsOf_83 (by decide) (fun _ => ?_) (fun h => absurd h (by decide))
            refine lv_iconst (v := nI 0) hx hb dX7_inversionsOf_90 (by decide) ?_
            refine lv_iadd hx hb dX7_inversionsOf_91 ?_
            refine wv_ti (nI_add _ _) ?_
            refine lv_istore_n (lv' := [(2, .int (nI ((cnt (ivp fl v k) i) + 0))), (4, .int (nI 0)), (0, .ref mo), (1, .int (nI k)), (3, .int (nI i))]) hx hb dX7_inversionsOf_92 rfl hl (by decide) rfl (fun ls hl => ?_)
            refine lv_iinc (v := nI (i + 1)) (lv' := [(3, .int (nI (i + 1))), (2, .int (nI ((cnt (ivp fl v k) i) + 0))), (4, .int (nI 0)), (0, .ref mo), (1, .int (nI k))]) hx hb dX7_inversionsOf_93 hl (k := 4) rfl (nI_1 _) (by decide) rfl (fun ls hl => ?_)
            refine lv_goto (tgt := 4) hx hb dX7_inversionsOf_96 (by decide) ?_
            have el_l2 : cnt (ivp fl v k) (i + 1) = (cnt (ivp fl v k) i) + 0 := by first | exact cnt_t (by rw [ivp_lt c15]; assumption) | exact cnt_f (by rw [ivp_lt c15]; assumption) | exact cnt_t (by rw [ivp_gt c45]; assumption) | exact cnt_f (by rw [ivp_gt c45]; assumption) | exact cnt_f (by rw [show i = k by omega]; exact ivp_eq)
            exact ih4 (i + 1) (by omega) (by first | assumption | omega) _ _ (by first | (rw [el_l2]; exact hP) | (simp only [el_l2]; exact hP) | exact hP) hS ls (by first | (rw [el_l2]; exact lv_sub hl [3, 4, 1, 0] rfl) | (simp only [el_l2]; exact lv_sub hl [3, 4, 1, 0] rfl) | exact lv_sub hl [3, 4, 1, 0] rfl)
          · skip
            refine lv_aload_n hx hb dX7_inversionsOf_48 rfl (lv_at hl 0 rfl) ?_
            refine lv_aload_n hx hb dX7_inversionsOf_49 rfl (lv_at hl 0 rfl) ?_
            refine va_get (D := D) (ci := 5) (C := RX7) (T := TX7) (N := 15) hx hb hts hinX7 hown hK hP 0 rfl rfl 0 (by decide) (hts (.fieldLink RX7 7 "NearRanksModel" "s" "[J") (by decide +kernel)) (fun _ h9 => h9) rfl dX7_inversionsOf_50 ?_
            refine lv_bipush (v := nI 7) hx hb dX7_inversionsOf_53 (by decide) ?_
            refine lv_iload_n hx hb dX7_inversionsOf_55 rfl (lv_at hl 3 rfl) ?_
            refine lv_iadd hx hb dX7_inversionsOf_56 ?_
            refine wv_ti (nI_add _ _) ?_
            refine wv_lald hx hb hK hP 1 0 rfl rfl (k := 7 + i) (by omega) (by decide) dX7_inversionsOf_57 ?_
            refine wv_tl (y := v i) (sM_v (by omega) (by omega)) ?_
            refine lv_aload_n hx hb dX7_inversionsOf_58 rfl (lv_at hl 0 rfl) ?_
            refine va_get (D := D) (ci := 5) (C := RX7) (T := TX7) (N := 15) hx hb hts hinX7 hown hK hP 0 rfl rfl 0 (by decide) (hts (.fieldLink RX7 7 "NearRanksModel" "s" "[J") (by decide +kernel)) (fun _ h9 => h9) rfl dX7_inversionsOf_59 ?_
            refine lv_bipush (v := nI 7) hx hb dX7_inversionsOf_62 (by decide) ?_
            refine lv_iload_n hx hb dX7_inversionsOf_64 rfl (lv_at hl 1 rfl) ?_
            refine lv_iadd hx hb dX7_inversionsOf_65 ?_
            refine wv_ti (nI_add _ _) ?_
            refine wv_lald hx hb hK hP 1 0 rfl rfl (k := 7 + k) (by omega) (by decide) dX7_inversionsOf_66 ?_
            refine wv_tl (y := v k) (sM_v (by omega) (by omega)) ?_
            refine wv_callPi (As := [.long (v i), .long (v k)]) (rest := []) ⟨hx, hb, hml, hown, hts⟩ (kX7_isAhead l D mo sa pa ha ta cJ cI n b fl me st lk cm v nu pt hd tx ps ru ty rf lks lo1 hi1 sp cd pl gv (v i) (v k)) (cwV 2 hts gX7_inversionsOf_X7_isAhead rfl rfl rfl (by decide +kernel) ⟨Nat.le_of_ble_eq_true rfl, Nat.le_of_ble_eq_true rfl⟩) hK hN hP hS hA [0, 1, 2, 3, 4] [0, 1] rfl rfl 0 5 rfl rfl rfl rfl hl.1 rfl (Nat.le_of_ble_eq_true rfl) dX7_inversionsOf_67 ⟨Nat.zero_le _, Nat.zero_le _⟩ (fun H locs hz9 hP hS => ?_)
            refine wv_ifeqB (tgt := 77) hx hb dX7_inversionsOf_70 (by decide) (fun c70 => ?_) (fun c70 => ?_)
            · skip
              refine lv_iconst (v := nI 0) hx hb dX7_inversionsOf_77 (by decide) ?_
              refine lv_istore (lv' := [(4, .int (nI 0)), (0, .ref mo), (1, .int (nI k)), (2, .int (nI (cnt (ivp fl v k) i))), (3, .int (nI i))]) hx hb dX7_inversionsOf_78 hl (by decide) rfl (fun ls hl => ?_)
              refine lv_iload_n hx hb dX7_inversionsOf_80 rfl (lv_at hl 3 rfl) ?_
              refine lv_iload hx hb dX7_inversionsOf_81 (lv_at hl 0 rfl) ?_
              refine lv_if_eq (tgt := 90) hx hb dX7_inversionsOf_83 (by decide) (fun _ => ?_) (fun h => absurd h (by decide))
              refine lv_iconst (v := nI 0) hx hb dX7_inversionsOf_90 (by decide) ?_
              refine lv_iadd hx hb dX7_inversionsOf_91 ?_
              refine wv_ti (nI_add _ _) ?_
              refine lv_istore_n (lv' := [(2, .int (nI ((cnt (ivp fl v k) i) + 0))), (4, .int (nI 0)), (0, .ref mo), (1, .int (nI k)), (3, .int (nI i))]) hx hb dX7_inversionsOf_92 rfl hl (by decide) rfl (fun ls hl => ?_)
              refine lv_iinc (v := nI (i + 1)) (lv' := [(3, .int (nI (i + 1))), (2, .int (nI ((cnt (ivp fl v k) i) + 0))), (4, .int (nI 0)), (0, .ref mo), (1, .int (nI k))]) hx hb dX7_inversionsOf_93 hl (k := 4) rfl (nI_1 _) (by decide) rfl (fun ls hl => ?_)
              refine lv_goto (tgt := 4) hx hb dX7_inversionsOf_96 (by decide) ?_
              have el_l2 : cnt (ivp fl v k) (i + 1) = (cnt (ivp fl v k) i) + 0 := by first | exact cnt_t (by rw [ivp_lt c15]; assumption) | exact cnt_f (by rw [ivp_lt c15]; assumption) | exact cnt_t (by rw [ivp_gt c45]; assumption) | exact cnt_f (by rw [ivp_gt c45]; assumption) | exact cnt_f (by rw [show i = k by omega]; exact ivp_eq)
              exact ih4 (i + 1) (by omega) (by first | assumption | omega) _ _ (by first | (rw [el_l2]; exact hP) | (simp only [el_l2]; exact hP) | exact hP) hS ls (by first | (rw [el_l2]; exact lv_sub hl [3, 4, 1, 0] rfl) | (simp only [el_l2]; exact lv_sub hl [3, 4, 1, 0] rfl) | exact lv_sub hl [3, 4, 1, 0] rfl)
            · skip
              refine lv_iconst (v := nI 1) hx hb dX7_inversionsOf_73 (by decide) ?_
              refine lv_goto (tgt := 78) hx hb dX7_inversionsOf_74 (by decide) ?_
              refine lv_istore (lv' := [(4, .int (nI 1)), (0, .ref mo), (1, .int (nI k)), (2, .int (nI (cnt (ivp fl v k) i))), (3, .int (nI i))]) hx hb dX7_inversionsOf_78 hl (by decide) rfl (fun ls hl => ?_)
              refine lv_iload_n hx hb dX7_inversionsOf_80 rfl (lv_at hl 3 rfl) ?_
              refine lv_iload hx hb dX7_inversionsOf_81 (lv_at hl 0 rfl) ?_
              refine lv_if_eq (tgt := 90) hx hb dX7_inversionsOf_83 (by decide) (fun h => absurd h (by decide)) (fun _ => ?_)
              refine lv_iconst (v := nI 1) hx hb dX7_inversionsOf_86 (by decide) ?_
              refine lv_goto (tgt := 91) hx hb dX7_inversionsOf_87 (by decide) ?_
              refine lv_iadd hx hb dX7_inversionsOf_91 ?_
              refine wv_ti (nI_add _ _) ?_
              refine lv_istore_n (lv' := [(2, .int (nI ((cnt (ivp fl v k) i) + 1))), (4, .int (nI 1)), (0, .ref mo), (1, .int (nI k)), (3, .int (nI i))]) hx hb dX7_inversionsOf_92 rfl hl (by decide) rfl (fun ls hl => ?_)
              refine lv_iinc (v := nI (i + 1)) (lv' := [(3, .int (nI (i + 1))), (2, .int (nI ((cnt (ivp fl v k) i) + 1))), (4, .int (nI 1)), (0, .ref mo), (1, .int (nI k))]) hx hb dX7_inversionsOf_93 hl (k := 4) rfl (nI_1 _) (by decide) rfl (fun ls hl => ?_)
              refine lv_goto (tgt := 4) hx hb dX7_inversionsOf_96 (by decide) ?_
              have el_l2 : cnt (ivp fl v k) (i + 1) = (cnt (ivp fl v k) i) + 1 := by first | exact cnt_t (by rw [ivp_lt c15]; assumption) | exact cnt_f (by rw [ivp_lt c15]; assumption) | exact cnt_t (by rw [ivp_gt c45]; assumption) | exact cnt_f (by rw [ivp_gt c45]; assumption) | exact cnt_f (by rw [show i = k by omega]; exact ivp_eq)
              exact ih4 (i + 1) (by omega) (by first | assumption | omega) _ _ (by first | (rw [el_l2]; exact hP) | (simp only [el_l2]; exact hP) | exact hP) hS ls (by first | (rw [el_l2]; exact lv_sub hl [3, 4, 1, 0] rfl) | (simp only [el_l2]; exact lv_sub hl [3, 4, 1, 0] rfl) | exact lv_sub hl [3, 4, 1, 0] rfl)
        · skip
          refine lv_aload_n hx hb dX7_inversionsOf_18 rfl (lv_at hl 0 rfl) ?_
          refine lv_aload_n hx hb dX7_inversionsOf_19 rfl (lv_at hl 0 rfl) ?_
          refine va_get (D := D) (ci := 5) (C := RX7) (T := TX7) (N := 15) hx hb hts hinX7 hown hK hP 0 rfl rfl 0 (by decide) (hts (.fieldLink RX7 7 "NearRanksModel" "s" "[J") (by decide +kernel)) (fun _ h9 => h9) rfl dX7_inversionsOf_20 ?_
          refine lv_bipush (v := nI 7) hx hb dX7_inversionsOf_23 (by decide) ?_
          refine lv_iload_n hx hb dX7_inversionsOf_25 rfl (lv_at hl 1 rfl) ?_
          refine lv_iadd hx hb dX7_inversionsOf_26 ?_
          refine wv_ti (nI_add _ _) ?_
          refine wv_lald hx hb hK hP 1 0 rfl rfl (k := 7 + k) (by omega) (by decide) dX7_inversionsOf_27 ?_
          refine wv_tl (y := v k) (sM_v (by omega) (by omega)) ?_
          refine lv_aload_n hx hb dX7_inversionsOf_28 rfl (lv_at hl 0 rfl) ?_
          refine va_get (D := D) (ci := 5) (C := RX7) (T := TX7) (N := 15) hx hb hts hinX7 hown hK hP 0 rfl rfl 0 (by decide) (hts (.fieldLink RX7 7 "NearRanksModel" "s" "[J") (by decide +kernel)) (fun _ h9 => h9) rfl dX7_inversionsOf_29 ?_
          refine lv_bipush (v := nI 7) hx hb dX7_inversionsOf_32 (by decide) ?_
          refine lv_iload_n hx hb dX7_inversionsOf_34 rfl (lv_at hl 3 rfl) ?_
          refine lv_iadd hx hb dX7_inversionsOf_35 ?_
          refine wv_ti (nI_add _ _) ?_
          refine wv_lald hx hb hK hP 1 0 rfl rfl (k := 7 + i) (by omega) (by decide) dX7_inversionsOf_36 ?_
          refine wv_tl (y := v i) (sM_v (by omega) (by omega)) ?_
          refine wv_callPi (As := [.long (v k), .long (v i)]) (rest := []) ⟨hx, hb, hml, hown, hts⟩ (kX7_isAhead l D mo sa pa ha ta cJ cI n b fl me st lk cm v nu pt hd tx ps ru ty rf lks lo1 hi1 sp cd pl gv (v k) (v i)) (cwV 2 hts gX7_inversionsOf_X7_isAhead rfl rfl rfl (by decide +kernel) ⟨Nat.le_of_ble_eq_true rfl, Nat.le_of_ble_eq_true rfl⟩) hK hN hP hS hA [0, 1, 2, 3, 4] [0, 1] rfl rfl 0 5 rfl rfl rfl rfl hl.1 rfl (Nat.le_of_ble_eq_true rfl) dX7_inversionsOf_37 ⟨Nat.zero_le _, Nat.zero_le _⟩ (fun H locs hz9 hP hS => ?_)
          refine lv_goto (tgt := 78) hx hb dX7_inversionsOf_40 (by decide) ?_
          refine lv_istore (lv' := [(4, .int (bI (ahd fl (v k) (v i)))), (0, .ref mo), (1, .int (nI k)), (2, .int (nI (cnt (ivp fl v k) i))), (3, .int (nI i))]) hx hb dX7_inversionsOf_78 hl (by decide) rfl (fun ls hl => ?_)
          refine lv_iload_n hx hb dX7_inversionsOf_80 rfl (lv_at hl 3 rfl) ?_
          refine lv_iload hx hb dX7_inversionsOf_81 (lv_at hl 0 rfl) ?_
          refine wv_ifeqB (tgt := 90) hx hb dX7_inversionsOf_83 (by decide) (fun c83 => ?_) (fun c83 => ?_)
          · skip
            refine lv_iconst (v := nI 0) hx hb dX7_inversionsOf_90 (by decide) ?_
            refine lv_iadd hx hb dX7_inversionsOf_91 ?_
            refine wv_ti (nI_add _ _) ?_
            refine lv_istore_n (lv' := [(2, .int (nI ((cnt (ivp fl v k) i) + 0))), (4, .int (bI (ahd fl (v k) (v i)))), (0, .ref mo), (1, .int (nI k)), (3, .int (nI i))]) hx hb dX7_inversionsOf_92 rfl hl (by decide) rfl (fun ls hl => ?_)
            refine lv_iinc (v := nI (i + 1)) (lv' := [(3, .int (nI (i + 1))), (2, .int (nI ((cnt (ivp fl v k) i) + 0))), (4, .int (bI (ahd fl (v k) (v i)))), (0, .ref mo), (1, .int (nI k))]) hx hb dX7_inversionsOf_93 hl (k := 4) rfl (nI_1 _) (by decide) rfl (fun ls hl => ?_)
            refine lv_goto (tgt := 4) hx hb dX7_inversionsOf_96 (by decide) ?_
            have el_l2 : cnt (ivp fl v k) (i + 1) = (cnt (ivp fl v k) i) + 0 := by first | exact cnt_t (by rw [ivp_lt c15]; assumption) | exact cnt_f (by rw [ivp_lt c15]; assumption) | exact cnt_t (by rw [ivp_gt c45]; assumption) | exact cnt_f (by rw [ivp_gt c45]; assumption) | exact cnt_f (by rw [show i = k by omega]; exact ivp_eq)
            exact ih4 (i + 1) (by omega) (by first | assumption | omega) _ _ (by first | (rw [el_l2]; exact hP) | (simp only [el_l2]; exact hP) | exact hP) hS ls (by first | (rw [el_l2]; exact lv_sub hl [3, 4, 1, 0] rfl) | (simp only [el_l2]; exact lv_sub hl [3, 4, 1, 0] rfl) | exact lv_sub hl [3, 4, 1, 0] rfl)
          · skip
            refine lv_iconst (v := nI 1) hx hb dX7_inversionsOf_86 (by decide) ?_
            refine lv_goto (tgt := 91) hx hb dX7_inversionsOf_87 (by decide) ?_
            refine lv_iadd hx hb dX7_inversionsOf_91 ?_
            refine wv_ti (nI_add _ _) ?_
            refine lv_istore_n (lv' := [(2, .int (nI ((cnt (ivp fl v k) i) + 1))), (4, .int (bI (ahd fl (v k) (v i)))), (0, .ref mo), (1, .int (nI k)), (3, .int (nI i))]) hx hb dX7_inversionsOf_92 rfl hl (by decide) rfl (fun ls hl => ?_)
            refine lv_iinc (v := nI (i + 1)) (lv' := [(3, .int (nI (i + 1))), (2, .int (nI ((cnt (ivp fl v k) i) + 1))), (4, .int (bI (ahd fl (v k) (v i)))), (0, .ref mo), (1, .int (nI k))]) hx hb dX7_inversionsOf_93 hl (k := 4) rfl (nI_1 _) (by decide) rfl (fun ls hl => ?_)
            refine lv_goto (tgt := 4) hx hb dX7_inversionsOf_96 (by decide) ?_
            have el_l2 : cnt (ivp fl v k) (i + 1) = (cnt (ivp fl v k) i) + 1 := by first | exact cnt_t (by rw [ivp_lt c15]; assumption) | exact cnt_f (by rw [ivp_lt c15]; assumption) | exact cnt_t (by rw [ivp_gt c45]; assumption) | exact cnt_f (by rw [ivp_gt c45]; assumption) | exact cnt_f (by rw [show i = k by omega]; exact ivp_eq)
            exact ih4 (i + 1) (by omega) (by first | assumption | omega) _ _ (by first | (rw [el_l2]; exact hP) | (simp only [el_l2]; exact hP) | exact hP) hS ls (by first | (rw [el_l2]; exact lv_sub hl [3, 4, 1, 0] rfl) | (simp only [el_l2]; exact lv_sub hl [3, 4, 1, 0] rfl) | exact lv_sub hl [3, 4, 1, 0] rfl)
  exact loop4 (n - 0 + 1) 0 (by omega) (by first | assumption | omega) _ _ (by first | (rw [el_l2]; exact hP) | (simp only [el_l2]; exact hP) | exact hP) hS ls (by first | (rw [el_l2]; exact lv_sub hl [2, 3, 1, 0] rfl) | (simp only [el_l2]; exact lv_sub hl [2, 3, 1, 0] rfl) | exact lv_sub hl [2, 3, 1, 0] rfl)

set_option maxHeartbeats 4000000 in
set_option maxRecDepth 100000 in
theorem kX7_inversions (l : Launch) (D : va_G) (mo : Nat) (sa : Nat) (pa : Nat) (ha : Nat) (ta : Nat) (cJ : ClassId) (cI : ClassId) (n : Nat) (b : Nat) (fl : Bool) (me : Bool) (st : Int64) (lk : Int64) (cm : Int64) (v : Nat → Int64) (nu : Nat → Int64) (pt : Nat → Int64) (hd : Nat → Int64) (tx : Nat → Int32) (ps : Nat) (ru : Bool) (ty : Nat) (rf : Nat) (lks : Nat) (lo1 : Int32) (hi1 : Int32) (sp : Nat) (cd : Int32) (pl : Int32) (gv : Int64) (hn : n ≤ 32) : PMi l yX7_inversions wsX7_inversions ({ frames := 2, cells := 0, slots := 0, locals := 48 } : Room) [.ref mo] D (ModC mo sa pa ha ta cJ cI (sM n b fl me st lk cm v nu) pt hd tx ps ru ty rf lks lo1 hi1 sp cd pl gv) [(cJ, .long), (cI, .int)] (nI (ivs fl v n)) := by
  refine PMi_of (cc := cX7_inversions) (maxL := 3) (ret := some .int) (by decide +kernel) rfl (Nat.le_of_ble_eq_true rfl) ?_
  intro p e s m args below meth c hx hb hr hts hown hlocks hml hP hK hN ls hl
  have hown : s.vm.findClass RX7 = some m.cls := hown
  have hl : lv_has ls 3 [(0, .ref mo)] := hl
  have hS : va_S (va_A [] s.heap.size) s.heap s.heap [] := va_S.rf
  have hA := wk_hA [] s.heap.size
  have hD9 : True := trivial
  refine lv_iconst (v := nI 0) hx hb dX7_inversions_0 (by decide) ?_
  refine lv_istore_n (lv' := [(1, .int (nI 0)), (0, .ref mo)]) hx hb dX7_inversions_1 rfl hl (by decide) rfl (fun ls hl => ?_)
  refine lv_iconst (v := nI 0) hx hb dX7_inversions_2 (by decide) ?_
  refine lv_istore_n (lv' := [(2, .int (nI 0)), (1, .int (nI 0)), (0, .ref mo)]) hx hb dX7_inversions_3 rfl hl (by decide) rfl (fun ls hl => ?_)
  have el_l1 : sm (ivo fl v n) 0 = 0 := by first | rfl | omega | (simp [*]; done)
  have loop4 : ∀ (K : Nat) (i : Nat), n - i < K → i ≤ n → ∀ (H : Heap) (locs : List Loc), va_P D vwCl (ModC mo sa pa ha ta cJ cI (sM n b fl me st lk cm v nu) pt hd tx ps ru ty rf lks lo1 hi1 sp cd pl gv) H → va_S (va_A [] s.heap.size) s.heap H locs → ∀ ls : Array Slot, lv_has ls 3 [(0, .ref mo), (1, .int (nI (sm (ivo fl v n) i))), (2, .int (nI i))] → W p l e ({ frames := 2, cells := 0, slots := 0, locals := 48 } : Room) s m args below meth c H locs 0 0 (ZPi below args s (nI (ivs fl v n))) (F0 m 4 ls []) := by
    intro K
    induction K with
    | zero => intro i hK0; exact absurd hK0 (Nat.not_lt_zero _)
    | succ K ih4 =>
      intro i hKm hi H locs hP hS ls hl
      have hsm : sm (ivo fl v n) i ≤ i * 32 := sm_le (fun k _ => Nat.le_trans (ivo_le fl v n k) hn)
      have hs2 : sm (ivo fl v n) i ≤ 1024 := by have : i * 32 ≤ 32 * 32 := Nat.mul_le_mul_right 32 (by omega); omega
      refine lv_iload_n hx hb dX7_inversions_4 rfl (lv_at hl 2 rfl) ?_
      refine lv_aload_n hx hb dX7_inversions_5 rfl (lv_at hl 0 rfl) ?_
      refine lv_iconst (v := nI 0) hx hb dX7_inversions_6 (by decide) ?_
      refine wv_callPi (As := [.int (nI 0)]) (rest := [.int (nI i)]) ⟨hx, hb, hml, hown, hts⟩ (kX7_of l D mo sa pa ha ta cJ cI n b fl me st lk cm v nu pt hd tx ps ru ty rf lks lo1 hi1 sp cd pl gv 0 (by first | assumption | omega)) (cwV 1 hts gX7_inversions_X7_of rfl rfl rfl (by decide +kernel) ⟨Nat.le_of_ble_eq_true rfl, Nat.le_of_ble_eq_true rfl⟩) hK hN hP hS hA [0, 1, 2, 3, 4] [0, 1] rfl rfl 0 5 rfl rfl rfl rfl hl.1 rfl (Nat.le_of_ble_eq_true rfl) dX7_inversions_7 ⟨Nat.zero_le _, Nat.zero_le _⟩ (fun H locs hz9 hP hS => ?_)
      refine wv_ti (y := nI n) of_0 ?_
      refine wv_icmp_ge (tgt := 27) hx hb (by omega) (by omega) dX7_inversions_10 (by decide) (fun c10 => ?_) (fun c10 => ?_)
      · skip
        refine lv_iload_n hx hb dX7_inversions_27 rfl (lv_at hl 1 rfl) ?_
        refine lv_iconst (v := nI 2) hx hb dX7_inversions_28 (by decide) ?_
        refine lv_idiv hx hb dX7_inversions_29 (by decide) ?_
        refine wv_ti (pk_div (by omega) (by omega) (by omega)) ?_
        exact wv_iretP hx hb hr hlocks hS (by rw [show i = n by omega]; rfl) dX7_inversions_30
      · skip
        refine lv_iload_n hx hb dX7_inversions_13 rfl (lv_at hl 1 rfl) ?_
        refine lv_aload_n hx hb dX7_inversions_14 rfl (lv_at hl 0 rfl) ?_
        refine lv_iload_n hx hb dX7_inversions_15 rfl (lv_at hl 2 rfl) ?_
        refine wv_callPi (As := [.int (nI i)]) (rest := [.int (nI (sm (ivo fl v n) i))]) ⟨hx, hb, hml, hown, hts⟩ (kX7_inversionsOf l D mo sa pa ha ta cJ cI n b fl me st lk cm v nu pt hd tx ps ru ty rf lks lo1 hi1 sp cd pl gv i (by first | assumption | omega) (by first | assumption | omega)) (cwV 1 hts gX7_inversions_X7_inversionsOf rfl rfl rfl (by decide +kernel) ⟨Nat.le_of_ble_eq_true rfl, Nat.le_of_ble_eq_true rfl⟩) hK hN hP hS hA [0, 1, 2, 3, 4] [0, 1] rfl rfl 0 5 rfl rfl rfl rfl hl.1 rfl (Nat.le_of_ble_eq_true rfl) dX7_inversions_16 ⟨Nat.zero_le _, Nat.zero_le _⟩ (fun H locs hz9 hP hS => ?_)
        refine lv_iadd hx hb dX7_inversions_19 ?_
        refine wv_ti (nI_add _ _) ?_
        refine lv_istore_n (lv' := [(1, .int (nI ((sm (ivo fl v n) i) + (ivo fl v n i)))), (0, .ref mo), (2, .int (nI i))]) hx hb dX7_inversions_20 rfl hl (by decide) rfl (fun ls hl => ?_)
        refine lv_iinc (v := nI (i + 1)) (lv' := [(2, .int (nI (i + 1))), (1, .int (nI ((sm (ivo fl v n) i) + (ivo fl v n i)))), (0, .ref mo)]) hx hb dX7_inversions_21 hl (k := 2) rfl (nI_1 _) (by decide) rfl (fun ls hl => ?_)
        refine lv_goto (tgt := 4) hx hb dX7_inversions_24 (by decide) ?_
        have el_l1 : sm (ivo fl v n) (i + 1) = (sm (ivo fl v n) i) + (ivo fl v n i) := by first | rfl | omega | (simp [*]; done)
        exact ih4 (i + 1) (by omega) (by first | assumption | omega) _ _ (by first | (rw [el_l1]; exact hP) | (simp only [el_l1]; exact hP) | exact hP) hS ls (by first | (rw [el_l1]; exact lv_sub hl [2, 1, 0] rfl) | (simp only [el_l1]; exact lv_sub hl [2, 1, 0] rfl) | exact lv_sub hl [2, 1, 0] rfl)
  exact loop4 (n - 0 + 1) 0 (by omega) (by first | assumption | omega) _ _ (by first | (rw [el_l1]; exact hP) | (simp only [el_l1]; exact hP) | exact hP) hS ls (by first | (rw [el_l1]; exact lv_sub hl [2, 1, 0] rfl) | (simp only [el_l1]; exact lv_sub hl [2, 1, 0] rfl) | exact lv_sub hl [2, 1, 0] rfl)

set_option maxHeartbeats 4000000 in
set_option maxRecDepth 100000 in
theorem kX7_falls (l : Launch) (D : va_G) (mo : Nat) (sa : Nat) (pa : Nat) (ha : Nat) (ta : Nat) (cJ : ClassId) (cI : ClassId) (n : Nat) (b : Nat) (fl : Bool) (me : Bool) (st : Int64) (lk : Int64) (cm : Int64) (v : Nat → Int64) (nu : Nat → Int64) (pt : Nat → Int64) (hd : Nat → Int64) (tx : Nat → Int32) (ps : Nat) (ru : Bool) (ty : Nat) (rf : Nat) (lks : Nat) (lo1 : Int32) (hi1 : Int32) (sp : Nat) (cd : Int32) (pl : Int32) (gv : Int64) (hn : n ≤ 32) : PMi l yX7_falls wsX7_falls ({ frames := 2, cells := 0, slots := 0, locals := 45 } : Room) [.ref mo] D (ModC mo sa pa ha ta cJ cI (sM n b fl me st lk cm v nu) pt hd tx ps ru ty rf lks lo1 hi1 sp cd pl gv) [(cJ, .long), (cI, .int)] (nI (cnt (fal fl v n) n)) := by
  refine PMi_of (cc := cX7_falls) (maxL := 3) (ret := some .int) (by decide +kernel) rfl (Nat.le_of_ble_eq_true rfl) ?_
  intro p e s m args below meth c hx hb hr hts hown hlocks hml hP hK hN ls hl
  have hown : s.vm.findClass RX7 = some m.cls := hown
  have hl : lv_has ls 3 [(0, .ref mo)] := hl
  have hS : va_S (va_A [] s.heap.size) s.heap s.heap [] := va_S.rf
  have hA := wk_hA [] s.heap.size
  have hD9 : True := trivial
  refine lv_iconst (v := nI 0) hx hb dX7_falls_0 (by decide) ?_
  refine lv_istore_n (lv' := [(1, .int (nI 0)), (0, .ref mo)]) hx hb dX7_falls_1 rfl hl (by decide) rfl (fun ls hl => ?_)
  refine lv_iconst (v := nI 0) hx hb dX7_falls_2 (by decide) ?_
  refine lv_istore_n (lv' := [(2, .int (nI 0)), (1, .int (nI 0)), (0, .ref mo)]) hx hb dX7_falls_3 rfl hl (by decide) rfl (fun ls hl => ?_)
  have el_l1 : cnt (fal fl v n) 0 = 0 := by rfl
  have loop4 : ∀ (K : Nat) (i : Nat), n - i < K → i ≤ n → ∀ (H : Heap) (locs : List Loc), va_P D vwCl (ModC mo sa pa ha ta cJ cI (sM n b fl me st lk cm v nu) pt hd tx ps ru ty rf lks lo1 hi1 sp cd pl gv) H → va_S (va_A [] s.heap.size) s.heap H locs → ∀ ls : Array Slot, lv_has ls 3 [(0, .ref mo), (1, .int (nI (cnt (fal fl v n) i))), (2, .int (nI i))] → W p l e ({ frames := 2, cells := 0, slots := 0, locals := 45 } : Room) s m args below meth c H locs 0 0 (ZPi below args s (nI (cnt (fal fl v n) n))) (F0 m 4 ls []) := by
    intro K
    induction K with
    | zero => intro i hK0; exact absurd hK0 (Nat.not_lt_zero _)
    | succ K ih4 =>
      intro i hKm hi H locs hP hS ls hl
      refine lv_iload_n hx hb dX7_falls_4 rfl (lv_at hl 2 rfl) ?_
      refine lv_aload_n hx hb dX7_falls_5 rfl (lv_at hl 0 rfl) ?_
      refine lv_iconst (v := nI 0) hx hb dX7_falls_6 (by decide) ?_
      refine wv_callPi (As := [.int (nI 0)]) (rest := [.int (nI i)]) ⟨hx, hb, hml, hown, hts⟩ (kX7_of l D mo sa pa ha ta cJ cI n b fl me st lk cm v nu pt hd tx ps ru ty rf lks lo1 hi1 sp cd pl gv 0 (by first | assumption | omega)) (cwV 1 hts gX7_falls_X7_of rfl rfl rfl (by decide +kernel) ⟨Nat.le_of_ble_eq_true rfl, Nat.le_of_ble_eq_true rfl⟩) hK hN hP hS hA [0, 1, 2, 3, 4] [0, 1] rfl rfl 0 5 rfl rfl rfl rfl hl.1 rfl (Nat.le_of_ble_eq_true rfl) dX7_falls_7 ⟨Nat.zero_le _, Nat.zero_le _⟩ (fun H locs hz9 hP hS => ?_)
      refine wv_ti (y := nI n) of_0 ?_
      refine wv_icmp_ge (tgt := 35) hx hb (by omega) (by omega) dX7_falls_10 (by decide) (fun c10 => ?_) (fun c10 => ?_)
      · skip
        refine lv_iload_n hx hb dX7_falls_35 rfl (lv_at hl 1 rfl) ?_
        exact wv_iretP hx hb hr hlocks hS (by rw [show i = n by omega]) dX7_falls_36
      · skip
        refine lv_iload_n hx hb dX7_falls_13 rfl (lv_at hl 1 rfl) ?_
        refine lv_aload_n hx hb dX7_falls_14 rfl (lv_at hl 0 rfl) ?_
        refine lv_iload_n hx hb dX7_falls_15 rfl (lv_at hl 2 rfl) ?_
        refine wv_callPi (As := [.int (nI i)]) (rest := [.int (nI (cnt (fal fl v n) i))]) ⟨hx, hb, hml, hown, hts⟩ (kX7_isFall l D mo sa pa ha ta cJ cI n b fl me st lk cm v nu pt hd tx ps ru ty rf lks lo1 hi1 sp cd pl gv i (by first | assumption | omega) (by first | assumption | omega)) (cwV 1 hts gX7_falls_X7_isFall rfl rfl rfl (by decide +kernel) ⟨Nat.le_of_ble_eq_true rfl, Nat.le_of_ble_eq_true rfl⟩) hK hN hP hS hA [0, 1, 2, 3, 4] [0, 1] rfl rfl 0 5 rfl rfl rfl rfl hl.1 rfl (Nat.le_of_ble_eq_true rfl) dX7_falls_16 ⟨Nat.zero_le _, Nat.zero_le _⟩ (fun H locs hz9 hP hS => ?_)
        refine wv_ifeqB (tgt := 26) hx hb dX7_falls_19 (by decide) (fun c19 => ?_) (fun c19 => ?_)
        · skip
          refine lv_iconst (v := nI 0) hx hb dX7_falls_26 (by decide) ?_
          refine lv_iadd hx hb dX7_falls_27 ?_
          refine wv_ti (nI_add _ _) ?_
          refine lv_istore_n (lv' := [(1, .int (nI ((cnt (fal fl v n) i) + 0))), (0, .ref mo), (2, .int (nI i))]) hx hb dX7_falls_28 rfl hl (by decide) rfl (fun ls hl => ?_)
          refine lv_iinc (v := nI (i + 1)) (lv' := [(2, .int (nI (i + 1))), (1, .int (nI ((cnt (fal fl v n) i) + 0))), (0, .ref mo)]) hx hb dX7_falls_29 hl (k := 2) rfl (nI_1 _) (by decide) rfl (fun ls hl => ?_)
          refine lv_goto (tgt := 4) hx hb dX7_falls_32 (by decide) ?_
          have el_l1 : cnt (fal fl v n) (i + 1) = (cnt (fal fl v n) i) + 0 := by first | exact cnt_t c19 | exact cnt_f c19
          exact ih4 (i + 1) (by omega) (by first | assumption | omega) _ _ (by first | (rw [el_l1]; exact hP) | (simp only [el_l1]; exact hP) | exact hP) hS ls (by first | (rw [el_l1]; exact lv_sub hl [2, 1, 0] rfl) | (simp only [el_l1]; exact lv_sub hl [2, 1, 0] rfl) | exact lv_sub hl [2, 1, 0] rfl)
        · skip
          refine lv_iconst (v := nI 1) hx hb dX7_falls_22 (by decide) ?_
          refine lv_goto (tgt := 27) hx hb dX7_falls_23 (by decide) ?_
          refine lv_iadd hx hb dX7_falls_27 ?_
          refine wv_ti (nI_add _ _) ?_
          refine lv_istore_n (lv' := [(1, .int (nI ((cnt (fal fl v n) i) + 1))), (0, .ref mo), (2, .int (nI i))]) hx hb dX7_falls_28 rfl hl (by decide) rfl (fun ls hl => ?_)
          refine lv_iinc (v := nI (i + 1)) (lv' := [(2, .int (nI (i + 1))), (1, .int (nI ((cnt (fal fl v n) i) + 1))), (0, .ref mo)]) hx hb dX7_falls_29 hl (k := 2) rfl (nI_1 _) (by decide) rfl (fun ls hl => ?_)
          refine lv_goto (tgt := 4) hx hb dX7_falls_32 (by decide) ?_
          have el_l1 : cnt (fal fl v n) (i + 1) = (cnt (fal fl v n) i) + 1 := by first | exact cnt_t c19 | exact cnt_f c19
          exact ih4 (i + 1) (by omega) (by first | assumption | omega) _ _ (by first | (rw [el_l1]; exact hP) | (simp only [el_l1]; exact hP) | exact hP) hS ls (by first | (rw [el_l1]; exact lv_sub hl [2, 1, 0] rfl) | (simp only [el_l1]; exact lv_sub hl [2, 1, 0] rfl) | exact lv_sub hl [2, 1, 0] rfl)
  exact loop4 (n - 0 + 1) 0 (by omega) (by first | assumption | omega) _ _ (by first | (rw [el_l1]; exact hP) | (simp only [el_l1]; exact hP) | exact hP) hS ls (by first | (rw [el_l1]; exact lv_sub hl [2, 1, 0] rfl) | (simp only [el_l1]; exact lv_sub hl [2, 1, 0] rfl) | exact lv_sub hl [2, 1, 0] rfl)

set_option maxHeartbeats 4000000 in
set_option maxRecDepth 100000 in
theorem kX7_farthest (l : Launch) (D : va_G) (mo : Nat) (sa : Nat) (pa : Nat) (ha : Nat) (ta : Nat) (cJ : ClassId) (cI : ClassId) (n : Nat) (b : Nat) (fl : Bool) (me : Bool) (st : Int64) (lk : Int64) (cm : Int64) (v : Nat → Int64) (nu : Nat → Int64) (pt : Nat → Int64) (hd : Nat → Int64) (tx : Nat → Int32) (ps : Nat) (ru : Bool) (ty : Nat) (rf : Nat) (lks : Nat) (lo1 : Int32) (hi1 : Int32) (sp : Nat) (cd : Int32) (pl : Int32) (gv : Int64) (hn : n ≤ 32) : PMi l yX7_farthest wsX7_farthest ({ frames := 3, cells := 0, slots := 0, locals := 69 } : Room) [.ref mo] D (ModC mo sa pa ha ta cJ cI (sM n b fl me st lk cm v nu) pt hd tx ps ru ty rf lks lo1 hi1 sp cd pl gv) [(cJ, .long), (cI, .int)] (nI (mx (far fl v n) n)) := by
  refine PMi_of (cc := cX7_farthest) (maxL := 3) (ret := some .int) (by decide +kernel) rfl (Nat.le_of_ble_eq_true rfl) ?_
  intro p e s m args below meth c hx hb hr hts hown hlocks hml hP hK hN ls hl
  have hown : s.vm.findClass RX7 = some m.cls := hown
  have hl : lv_has ls 3 [(0, .ref mo)] := hl
  have hS : va_S (va_A [] s.heap.size) s.heap s.heap [] := va_S.rf
  have hA := wk_hA [] s.heap.size
  have hD9 : True := trivial
  refine lv_iconst (v := nI 0) hx hb dX7_farthest_0 (by decide) ?_
  refine lv_istore_n (lv' := [(1, .int (nI 0)), (0, .ref mo)]) hx hb dX7_farthest_1 rfl hl (by decide) rfl (fun ls hl => ?_)
  refine lv_iconst (v := nI 0) hx hb dX7_farthest_2 (by decide) ?_
  refine lv_istore_n (lv' := [(2, .int (nI 0)), (1, .int (nI 0)), (0, .ref mo)]) hx hb dX7_farthest_3 rfl hl (by decide) rfl (fun ls hl => ?_)
  have el_l1 : mx (far fl v n) 0 = 0 := by rfl
  have loop4 : ∀ (K : Nat) (i : Nat), n - i < K → i ≤ n → ∀ (H : Heap) (locs : List Loc), va_P D vwCl (ModC mo sa pa ha ta cJ cI (sM n b fl me st lk cm v nu) pt hd tx ps ru ty rf lks lo1 hi1 sp cd pl gv) H → va_S (va_A [] s.heap.size) s.heap H locs → ∀ ls : Array Slot, lv_has ls 3 [(0, .ref mo), (1, .int (nI (mx (far fl v n) i))), (2, .int (nI i))] → W p l e ({ frames := 3, cells := 0, slots := 0, locals := 69 } : Room) s m args below meth c H locs 0 0 (ZPi below args s (nI (mx (far fl v n) n))) (F0 m 4 ls []) := by
    intro K
    induction K with
    | zero => intro i hK0; exact absurd hK0 (Nat.not_lt_zero _)
    | succ K ih4 =>
      intro i hKm hi H locs hP hS ls hl
      refine lv_iload_n hx hb dX7_farthest_4 rfl (lv_at hl 2 rfl) ?_
      refine lv_aload_n hx hb dX7_farthest_5 rfl (lv_at hl 0 rfl) ?_
      refine lv_iconst (v := nI 0) hx hb dX7_farthest_6 (by decide) ?_
      refine wv_callPi (As := [.int (nI 0)]) (rest := [.int (nI i)]) ⟨hx, hb, hml, hown, hts⟩ (kX7_of l D mo sa pa ha ta cJ cI n b fl me st lk cm v nu pt hd tx ps ru ty rf lks lo1 hi1 sp cd pl gv 0 (by first | assumption | omega)) (cwV 1 hts gX7_farthest_X7_of rfl rfl rfl (by decide +kernel) ⟨Nat.le_of_ble_eq_true rfl, Nat.le_of_ble_eq_true rfl⟩) hK hN hP hS hA [0, 1, 2, 3, 4] [0, 1] rfl rfl 0 5 rfl rfl rfl rfl hl.1 rfl (Nat.le_of_ble_eq_true rfl) dX7_farthest_7 ⟨Nat.zero_le _, Nat.zero_le _⟩ (fun H locs hz9 hP hS => ?_)
      refine wv_ti (y := nI n) of_0 ?_
      refine wv_icmp_ge (tgt := 44) hx hb (by omega) (by omega) dX7_farthest_10 (by decide) (fun c10 => ?_) (fun c10 => ?_)
      · skip
        refine lv_iload_n hx hb dX7_farthest_44 rfl (lv_at hl 1 rfl) ?_
        exact wv_iretP hx hb hr hlocks hS (by rw [show i = n by omega]) dX7_farthest_45
      · skip
        have hfi := far_le (fl := fl) (v := v) (n := n) (k := i) (by omega)
        have hmi : mx (far fl v n) i ≤ n := mx_le (fun k hk => far_le (by omega))
        refine lv_aload_n hx hb dX7_farthest_13 rfl (lv_at hl 0 rfl) ?_
        refine lv_iload_n hx hb dX7_farthest_14 rfl (lv_at hl 2 rfl) ?_
        refine wv_callPi (As := [.int (nI i)]) (rest := []) ⟨hx, hb, hml, hown, hts⟩ (kX7_distance l D mo sa pa ha ta cJ cI n b fl me st lk cm v nu pt hd tx ps ru ty rf lks lo1 hi1 sp cd pl gv i (by first | assumption | omega) (by first | assumption | omega)) (cwV 1 hts gX7_farthest_X7_distance rfl rfl rfl (by decide +kernel) ⟨Nat.le_of_ble_eq_true rfl, Nat.le_of_ble_eq_true rfl⟩) hK hN hP hS hA [0, 1, 2, 3, 4] [0, 1] rfl rfl 0 5 rfl rfl rfl rfl hl.1 rfl (Nat.le_of_ble_eq_true rfl) dX7_farthest_15 ⟨Nat.zero_le _, Nat.zero_le _⟩ (fun H locs hz9 hP hS => ?_)
        refine wv_callSi (As := [.int (dst fl v n i)]) (rest := []) ⟨hx, hb, hml, hown, hts⟩ (kX7_size l D (dst fl v n i)) (va_cwS 1 hts gX7_farthest_X7_size rfl rfl rfl (by decide +kernel) ⟨Nat.le_of_ble_eq_true rfl, Nat.le_of_ble_eq_true rfl⟩) hK hN hP hS hA [] [] rfl rfl rfl hl.1 rfl (Nat.le_of_ble_eq_true rfl) dX7_farthest_18 ⟨Nat.zero_le _, Nat.zero_le _⟩ (fun H locs hz9 hP hS => ?_)
        refine wv_ti (y := nI (far fl v n i)) (dst_sz (by omega) hn) ?_
        refine lv_iload_n hx hb dX7_farthest_21 rfl (lv_at hl 1 rfl) ?_
        refine wv_icmp_le (tgt := 36) hx hb (by omega) (by omega) dX7_farthest_22 (by decide) (fun c22 => ?_) (fun c22 => ?_)
        · skip
          refine lv_iload_n hx hb dX7_farthest_36 rfl (lv_at hl 1 rfl) ?_
          refine lv_istore_n (lv' := [(1, .int (nI (mx (far fl v n) i))), (0, .ref mo), (2, .int (nI i))]) hx hb dX7_farthest_37 rfl hl (by decide) rfl (fun ls hl => ?_)
          refine lv_iinc (v := nI (i + 1)) (lv' := [(2, .int (nI (i + 1))), (1, .int (nI (mx (far fl v n) i))), (0, .ref mo)]) hx hb dX7_farthest_38 hl (k := 2) rfl (nI_1 _) (by decide) rfl (fun ls hl => ?_)
          refine lv_goto (tgt := 4) hx hb dX7_farthest_41 (by decide) ?_
          have el_l1 : mx (far fl v n) (i + 1) = mx (far fl v n) i := by rw [mx_s]; omega
          exact ih4 (i + 1) (by omega) (by first | assumption | omega) _ _ (by first | (rw [el_l1]; exact hP) | (simp only [el_l1]; exact hP) | exact hP) hS ls (by first | (rw [el_l1]; exact lv_sub hl [2, 1, 0] rfl) | (simp only [el_l1]; exact lv_sub hl [2, 1, 0] rfl) | exact lv_sub hl [2, 1, 0] rfl)
        · skip
          refine lv_aload_n hx hb dX7_farthest_25 rfl (lv_at hl 0 rfl) ?_
          refine lv_iload_n hx hb dX7_farthest_26 rfl (lv_at hl 2 rfl) ?_
          refine wv_callPi (As := [.int (nI i)]) (rest := []) ⟨hx, hb, hml, hown, hts⟩ (kX7_distance l D mo sa pa ha ta cJ cI n b fl me st lk cm v nu pt hd tx ps ru ty rf lks lo1 hi1 sp cd pl gv i (by first | assumption | omega) (by first | assumption | omega)) (cwV 1 hts gX7_farthest_X7_distance rfl rfl rfl (by decide +kernel) ⟨Nat.le_of_ble_eq_true rfl, Nat.le_of_ble_eq_true rfl⟩) hK hN hP hS hA [0, 1, 2, 3, 4] [0, 1] rfl rfl 0 5 rfl rfl rfl rfl hl.1 rfl (Nat.le_of_ble_eq_true rfl) dX7_farthest_27 ⟨Nat.zero_le _, Nat.zero_le _⟩ (fun H locs hz9 hP hS => ?_)
          refine wv_callSi (As := [.int (dst fl v n i)]) (rest := []) ⟨hx, hb, hml, hown, hts⟩ (kX7_size l D (dst fl v n i)) (va_cwS 1 hts gX7_farthest_X7_size rfl rfl rfl (by decide +kernel) ⟨Nat.le_of_ble_eq_true rfl, Nat.le_of_ble_eq_true rfl⟩) hK hN hP hS hA [] [] rfl rfl rfl hl.1 rfl (Nat.le_of_ble_eq_true rfl) dX7_farthest_30 ⟨Nat.zero_le _, Nat.zero_le _⟩ (fun H locs hz9 hP hS => ?_)
          refine wv_ti (y := nI (far fl v n i)) (dst_sz (by omega) hn) ?_
          refine lv_goto (tgt := 37) hx hb dX7_farthest_33 (by decide) ?_
          refine lv_istore_n (lv' := [(1, .int (nI (far fl v n i))), (0, .ref mo), (2, .int (nI i))]) hx hb dX7_farthest_37 rfl hl (by decide) rfl (fun ls hl => ?_)
          refine lv_iinc (v := nI (i + 1)) (lv' := [(2, .int (nI (i + 1))), (1, .int (nI (far fl v n i))), (0, .ref mo)]) hx hb dX7_farthest_38 hl (k := 2) rfl (nI_1 _) (by decide) rfl (fun ls hl => ?_)
          refine lv_goto (tgt := 4) hx hb dX7_farthest_41 (by decide) ?_
          have el_l1 : mx (far fl v n) (i + 1) = far fl v n i := by rw [mx_s]; omega
          exact ih4 (i + 1) (by omega) (by first | assumption | omega) _ _ (by first | (rw [el_l1]; exact hP) | (simp only [el_l1]; exact hP) | exact hP) hS ls (by first | (rw [el_l1]; exact lv_sub hl [2, 1, 0] rfl) | (simp only [el_l1]; exact lv_sub hl [2, 1, 0] rfl) | exact lv_sub hl [2, 1, 0] rfl)
  exact loop4 (n - 0 + 1) 0 (by omega) (by first | assumption | omega) _ _ (by first | (rw [el_l1]; exact hP) | (simp only [el_l1]; exact hP) | exact hP) hS ls (by first | (rw [el_l1]; exact lv_sub hl [2, 1, 0] rfl) | (simp only [el_l1]; exact lv_sub hl [2, 1, 0] rfl) | exact lv_sub hl [2, 1, 0] rfl)

set_option maxHeartbeats 4000000 in
set_option maxRecDepth 100000 in
theorem kX7_brokenSet (l : Launch) (D : va_G) (mo : Nat) (sa : Nat) (pa : Nat) (ha : Nat) (ta : Nat) (cJ : ClassId) (cI : ClassId) (n : Nat) (b : Nat) (fl : Bool) (me : Bool) (st : Int64) (lk : Int64) (cm : Int64) (v : Nat → Int64) (nu : Nat → Int64) (pt : Nat → Int64) (hd : Nat → Int64) (tx : Nat → Int32) (ps : Nat) (ru : Bool) (ty : Nat) (rf : Nat) (lks : Nat) (lo1 : Int32) (hi1 : Int32) (sp : Nat) (cd : Int32) (pl : Int32) (gv : Int64) (hn : n ≤ 32) (hb : b ≤ 31) : PMl l yX7_brokenSet wsX7_brokenSet ({ frames := 4, cells := 0, slots := 0, locals := 90 } : Room) [.ref mo] D (ModC mo sa pa ha ta cJ cI (sM n b fl me st lk cm v nu) pt hd tx ps ru ty rf lks lo1 hi1 sp cd pl gv) [(cJ, .long), (cI, .int)] (bst fl v n b n) := by
  refine PMl_of (cc := cX7_brokenSet) (maxL := 4) (ret := some .long) (by decide +kernel) rfl (Nat.le_of_ble_eq_true rfl) ?_
  intro p e s m args below meth c hx hb hr hts hown hlocks hml hP hK hN ls hl
  have hown : s.vm.findClass RX7 = some m.cls := hown
  have hl : lv_has ls 4 [(0, .ref mo)] := hl
  have hS : va_S (va_A [] s.heap.size) s.heap s.heap [] := va_S.rf
  have hA := wk_hA [] s.heap.size
  have hD9 : True := trivial
  refine lv_lconst (v := lN 0) hx hb dX7_brokenSet_0 rfl ?_
  refine lv_lstore_n (lv' := [(1, .long (lN 0)), (0, .ref mo)]) hx hb dX7_brokenSet_1 rfl hl (by decide) rfl (fun ls hl => ?_)
  refine lv_iconst (v := nI 0) hx hb dX7_brokenSet_2 (by decide) ?_
  refine lv_istore_n (lv' := [(3, .int (nI 0)), (1, .long (lN 0)), (0, .ref mo)]) hx hb dX7_brokenSet_3 rfl hl (by decide) rfl (fun ls hl => ?_)
  have el_l1 : bst fl v n b 0 = lN 0 := by rfl
  have loop4 : ∀ (K : Nat) (i : Nat), n - i < K → i ≤ n → ∀ (H : Heap) (locs : List Loc), va_P D vwCl (ModC mo sa pa ha ta cJ cI (sM n b fl me st lk cm v nu) pt hd tx ps ru ty rf lks lo1 hi1 sp cd pl gv) H → va_S (va_A [] s.heap.size) s.heap H locs → ∀ ls : Array Slot, lv_has ls 4 [(0, .ref mo), (1, .long (bst fl v n b i)), (3, .int (nI i))] → W p l e ({ frames := 4, cells := 0, slots := 0, locals := 90 } : Room) s m args below meth c H locs 0 0 (ZPl below args s (bst fl v n b n)) (F0 m 4 ls []) := by
    intro K
    induction K with
    | zero => intro i hK0; exact absurd hK0 (Nat.not_lt_zero _)
    | succ K ih4 =>
      intro i hKm hi H locs hP hS ls hl
      refine lv_iload_n hx hb dX7_brokenSet_4 rfl (lv_at hl 2 rfl) ?_
      refine lv_aload_n hx hb dX7_brokenSet_5 rfl (lv_at hl 0 rfl) ?_
      refine lv_iconst (v := nI 0) hx hb dX7_brokenSet_6 (by decide) ?_
      refine wv_callPi (As := [.int (nI 0)]) (rest := [.int (nI i)]) ⟨hx, hb, hml, hown, hts⟩ (kX7_of l D mo sa pa ha ta cJ cI n b fl me st lk cm v nu pt hd tx ps ru ty rf lks lo1 hi1 sp cd pl gv 0 (by first | assumption | omega)) (cwV 1 hts gX7_brokenSet_X7_of rfl rfl rfl (by decide +kernel) ⟨Nat.le_of_ble_eq_true rfl, Nat.le_of_ble_eq_true rfl⟩) hK hN hP hS hA [0, 1, 2, 3, 4] [0, 1] rfl rfl 0 5 rfl rfl rfl rfl hl.1 rfl (Nat.le_of_ble_eq_true rfl) dX7_brokenSet_7 ⟨Nat.zero_le _, Nat.zero_le _⟩ (fun H locs hz9 hP hS => ?_)
      refine wv_ti (y := nI n) of_0 ?_
      refine wv_icmp_ge (tgt := 37) hx hb (by omega) (by omega) dX7_brokenSet_10 (by decide) (fun c10 => ?_) (fun c10 => ?_)
      · skip
        refine lv_lload_n hx hb dX7_brokenSet_37 rfl (lv_at hl 1 rfl) ?_
        exact wv_lretP hx hb hr hlocks hS (by rw [show i = n by omega]) dX7_brokenSet_38
      · skip
        refine lv_lload_n hx hb dX7_brokenSet_13 rfl (lv_at hl 1 rfl) ?_
        refine lv_aload_n hx hb dX7_brokenSet_14 rfl (lv_at hl 0 rfl) ?_
        refine lv_iload_n hx hb dX7_brokenSet_15 rfl (lv_at hl 2 rfl) ?_
        refine wv_callPi (As := [.int (nI i)]) (rest := [.long (bst fl v n b i)]) ⟨hx, hb, hml, hown, hts⟩ (kX7_isBroken l D mo sa pa ha ta cJ cI n b fl me st lk cm v nu pt hd tx ps ru ty rf lks lo1 hi1 sp cd pl gv i (by first | assumption | omega) (by first | assumption | omega) (by first | assumption | omega)) (cwV 1 hts gX7_brokenSet_X7_isBroken rfl rfl rfl (by decide +kernel) ⟨Nat.le_of_ble_eq_true rfl, Nat.le_of_ble_eq_true rfl⟩) hK hN hP hS hA [0, 1, 2, 3, 4] [0, 1] rfl rfl 0 5 rfl rfl rfl rfl hl.1 rfl (Nat.le_of_ble_eq_true rfl) dX7_brokenSet_16 ⟨Nat.zero_le _, Nat.zero_le _⟩ (fun H locs hz9 hP hS => ?_)
        refine wv_ifeqB (tgt := 28) hx hb dX7_brokenSet_19 (by decide) (fun c19 => ?_) (fun c19 => ?_)
        · skip
          refine lv_lconst (v := lN 0) hx hb dX7_brokenSet_28 rfl ?_
          refine lv_lor hx hb dX7_brokenSet_29 ?_
          refine lv_lstore_n (lv' := [(1, .long ((bst fl v n b i) ||| (lN 0))), (0, .ref mo), (3, .int (nI i))]) hx hb dX7_brokenSet_30 rfl hl (by decide) rfl (fun ls hl => ?_)
          refine lv_iinc (v := nI (i + 1)) (lv' := [(3, .int (nI (i + 1))), (1, .long ((bst fl v n b i) ||| (lN 0))), (0, .ref mo)]) hx hb dX7_brokenSet_31 hl (k := 2) rfl (nI_1 _) (by decide) rfl (fun ls hl => ?_)
          refine lv_goto (tgt := 4) hx hb dX7_brokenSet_34 (by decide) ?_
          have el_l1 : bst fl v n b (i + 1) = (bst fl v n b i) ||| (lN 0) := by first | (rw [bst_s, if_pos c19]; done) | (rw [bst_s, if_neg (by rw [c19]; decide), wk_or0])
          exact ih4 (i + 1) (by omega) (by first | assumption | omega) _ _ (by first | (rw [el_l1]; exact hP) | (simp only [el_l1]; exact hP) | exact hP) hS ls (by first | (rw [el_l1]; exact lv_sub hl [2, 1, 0] rfl) | (simp only [el_l1]; exact lv_sub hl [2, 1, 0] rfl) | exact lv_sub hl [2, 1, 0] rfl)
        · skip
          refine lv_lconst (v := lN 1) hx hb dX7_brokenSet_22 rfl ?_
          refine lv_iload_n hx hb dX7_brokenSet_23 rfl (lv_at hl 2 rfl) ?_
          refine lv_lshl (v := (lN 1) <<< ((nI i).toInt64 &&& 63)) hx hb dX7_brokenSet_24 rfl ?_
          refine lv_goto (tgt := 29) hx hb dX7_brokenSet_25 (by decide) ?_
          refine lv_lor hx hb dX7_brokenSet_29 ?_
          refine lv_lstore_n (lv' := [(1, .long ((bst fl v n b i) ||| ((lN 1) <<< ((nI i).toInt64 &&& 63)))), (0, .ref mo), (3, .int (nI i))]) hx hb dX7_brokenSet_30 rfl hl (by decide) rfl (fun ls hl => ?_)
          refine lv_iinc (v := nI (i + 1)) (lv' := [(3, .int (nI (i + 1))), (1, .long ((bst fl v n b i) ||| ((lN 1) <<< ((nI i).toInt64 &&& 63)))), (0, .ref mo)]) hx hb dX7_brokenSet_31 hl (k := 2) rfl (nI_1 _) (by decide) rfl (fun ls hl => ?_)
          refine lv_goto (tgt := 4) hx hb dX7_brokenSet_34 (by decide) ?_
          have el_l1 : bst fl v n b (i + 1) = (bst fl v n b i) ||| ((lN 1) <<< ((nI i).toInt64 &&& 63)) := by first | (rw [bst_s, if_pos c19]; done) | (rw [bst_s, if_neg (by rw [c19]; decide), wk_or0])
          exact ih4 (i + 1) (by omega) (by first | assumption | omega) _ _ (by first | (rw [el_l1]; exact hP) | (simp only [el_l1]; exact hP) | exact hP) hS ls (by first | (rw [el_l1]; exact lv_sub hl [2, 1, 0] rfl) | (simp only [el_l1]; exact lv_sub hl [2, 1, 0] rfl) | exact lv_sub hl [2, 1, 0] rfl)
  exact loop4 (n - 0 + 1) 0 (by omega) (by first | assumption | omega) _ _ (by first | (rw [el_l1]; exact hP) | (simp only [el_l1]; exact hP) | exact hP) hS ls (by first | (rw [el_l1]; exact lv_sub hl [2, 1, 0] rfl) | (simp only [el_l1]; exact lv_sub hl [2, 1, 0] rfl) | exact lv_sub hl [2, 1, 0] rfl)
