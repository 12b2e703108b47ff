/-! The methods of a row that change nothing. RowC: a row's four cells. -/
abbrev RowC (r va na ra : Nat) (cJ cI : ClassId) (v : Nat → Int64) (nu rk : Nat → Int32) (n b : Nat) (fl me : Bool) (st lk cm : Int32) : va_W := [(r, .inr (2, [.ref va, .ref na, .ref ra, .int (nI n), .int (nI b), .int (bI fl), .int (bI me), .int st, .int lk, .int cm])), (va, .inl (cJ, 32, .inr (.inl v))), (na, .inl (cI, 32, .inl nu)), (ra, .inl (cI, 32, .inl rk))]
set_option maxHeartbeats 4000000 in
set_option maxRecDepth 100000 in
theorem kX3_hasRoom (l : Launch) (D : va_G) (r : Nat) (va : Nat) (na : Nat) (ra : Nat) (cJ : ClassId) (cI : ClassId) (v : Nat → Int64) (nu : Nat → Int32) (rk : Nat → Int32) (n : Nat) (b : Nat) (fl : Bool) (me : Bool) (st : Int32) (lk : Int32) (cm : Int32) (hn : n ≤ 32) : PMi l yX3_hasRoom wsX3_hasRoom ({ frames := 0, cells := 0, slots := 0, locals := 0 } : Room) [.ref r] D (RowC r va na ra cJ cI v nu rk n b fl me st lk cm) [(cJ, .long), (cI, .int)] (bI (decide (n < 32))) := by
  refine PMi_of (cc := cX3_hasRoom) (maxL := 1) (ret := some .boolean) (by decide +kernel) rfl (Nat.le_of_ble_eq_true rfl) ?_
  intro p e s m args below meth c hx hb hr hts hown hlocks hml hP hK hN ls hl
  have hown : s.vm.findClass RX3 = some m.cls := hown
  have hl : lv_has ls 1 [(0, .ref r)] := hl
  have hS : va_S (va_A [] s.heap.size) s.heap s.heap [] := va_S.rf
  have hA := wk_hA [] s.heap.size
  have hD9 : True := trivial
  have hinX3 : ∀ w ∈ wsX30, w ∈ wsX3_hasRoom := by decide +kernel
  refine lv_aload_n hx hb dX3_hasRoom_0 rfl (lv_at hl 0 rfl) ?_
  refine va_get (D := D) (ci := 2) (C := RX3) (T := TX3) (N := 10) hx hb hts hinX3 hown hK hP 0 rfl rfl 3 (by decide) (hts (.fieldLink RX3 32 "NearRanks$Row" "size" "I") (by decide +kernel)) (fun _ h9 => h9) rfl dX3_hasRoom_1 ?_
  refine lv_bipush (v := nI 32) hx hb dX3_hasRoom_4 (by decide) ?_
  refine wv_icmp_ge (tgt := 13) hx hb (by omega) (by omega) dX3_hasRoom_6 (by decide) (fun c6 => ?_) (fun c6 => ?_)
  · skip
    refine lv_iconst (v := nI 0) hx hb dX3_hasRoom_13 (by decide) ?_
    exact wv_zretP (b := false) hx hb hr hlocks hS (rfl : nI 0 = bI false) (by simp [bI, nI_0, wk_1]; omega) dX3_hasRoom_14
  · skip
    refine lv_iconst (v := nI 1) hx hb dX3_hasRoom_9 (by decide) ?_
    refine lv_goto (tgt := 14) hx hb dX3_hasRoom_10 (by decide) ?_
    exact wv_zretP (b := true) hx hb hr hlocks hS (rfl : nI 1 = bI true) (by simp [bI, nI_0, wk_1]; omega) dX3_hasRoom_14

set_option maxHeartbeats 4000000 in
set_option maxRecDepth 100000 in
theorem kX3_isPlace (l : Launch) (D : va_G) (r : Nat) (va : Nat) (na : Nat) (ra : Nat) (cJ : ClassId) (cI : ClassId) (v : Nat → Int64) (nu : Nat → Int32) (rk : Nat → Int32) (n : Nat) (b : Nat) (fl : Bool) (me : Bool) (st : Int32) (lk : Int32) (cm : Int32) (x : Int32)  : PMi l yX3_isPlace wsX3_isPlace ({ frames := 0, cells := 0, slots := 0, locals := 0 } : Room) [.ref r, .int x] D (RowC r va na ra cJ cI v nu rk n b fl me st lk cm) [(cJ, .long), (cI, .int)] (bI (inR x n)) := by
  refine PMi_of (cc := cX3_isPlace) (maxL := 2) (ret := some .boolean) (by decide +kernel) rfl (Nat.le_of_ble_eq_true rfl) ?_
  intro p e s m args below meth c hx hb hr hts hown hlocks hml hP hK hN ls hl
  have hown : s.vm.findClass RX3 = some m.cls := hown
  have hl : lv_has ls 2 [(0, .ref r), (1, .int x)] := hl
  have hS : va_S (va_A [] s.heap.size) s.heap s.heap [] := va_S.rf
  have hA := wk_hA [] s.heap.size
  have hD9 : True := trivial
  have hinX3 : ∀ w ∈ wsX30, w ∈ wsX3_isPlace := by decide +kernel
  refine lv_iload_n hx hb dX3_isPlace_0 rfl (lv_at hl 1 rfl) ?_
  refine lv_if_lt (tgt := 16) hx hb dX3_isPlace_1 (by decide) (fun c1 => ?_) (fun c1 => ?_)
  · skip
    refine lv_iconst (v := nI 0) hx hb dX3_isPlace_16 (by decide) ?_
    exact wv_zretP (b := false) hx hb hr hlocks hS (rfl : nI 0 = bI false) (by simp [bI, inR, inB, hnx, opn, nI_0, wk_1, *]) dX3_isPlace_17
  · skip
    refine lv_iload_n hx hb dX3_isPlace_4 rfl (lv_at hl 1 rfl) ?_
    refine lv_aload_n hx hb dX3_isPlace_5 rfl (lv_at hl 0 rfl) ?_
    refine va_get (D := D) (ci := 2) (C := RX3) (T := TX3) (N := 10) hx hb hts hinX3 hown hK hP 0 rfl rfl 3 (by decide) (hts (.fieldLink RX3 32 "NearRanks$Row" "size" "I") (by decide +kernel)) (fun _ h9 => h9) rfl dX3_isPlace_6 ?_
    refine lv_icmp_ge (tgt := 16) hx hb dX3_isPlace_9 (by decide) (fun c9 => ?_) (fun c9 => ?_)
    · skip
      refine lv_iconst (v := nI 0) hx hb dX3_isPlace_16 (by decide) ?_
      exact wv_zretP (b := false) hx hb hr hlocks hS (rfl : nI 0 = bI false) (by simp [bI, inR, inB, hnx, opn, nI_0, wk_1, *]) dX3_isPlace_17
    · skip
      refine lv_iconst (v := nI 1) hx hb dX3_isPlace_12 (by decide) ?_
      refine lv_goto (tgt := 17) hx hb dX3_isPlace_13 (by decide) ?_
      exact wv_zretP (b := true) hx hb hr hlocks hS (rfl : nI 1 = bI true) (by simp [bI, inR, inB, hnx, opn, nI_0, wk_1, *]) dX3_isPlace_17

set_option maxHeartbeats 4000000 in
set_option maxRecDepth 100000 in
theorem kX3_hasNext (l : Launch) (D : va_G) (r : Nat) (va : Nat) (na : Nat) (ra : Nat) (cJ : ClassId) (cI : ClassId) (v : Nat → Int64) (nu : Nat → Int32) (rk : Nat → Int32) (n : Nat) (b : Nat) (fl : Bool) (me : Bool) (st : Int32) (lk : Int32) (cm : Int32) (x : Int32)  : PMi l yX3_hasNext wsX3_hasNext ({ frames := 0, cells := 0, slots := 0, locals := 0 } : Room) [.ref r, .int x] D (RowC r va na ra cJ cI v nu rk n b fl me st lk cm) [(cJ, .long), (cI, .int)] (bI (hnx x n)) := by
  refine PMi_of (cc := cX3_hasNext) (maxL := 2) (ret := some .boolean) (by decide +kernel) rfl (Nat.le_of_ble_eq_true rfl) ?_
  intro p e s m args below meth c hx hb hr hts hown hlocks hml hP hK hN ls hl
  have hown : s.vm.findClass RX3 = some m.cls := hown
  have hl : lv_has ls 2 [(0, .ref r), (1, .int x)] := hl
  have hS : va_S (va_A [] s.heap.size) s.heap s.heap [] := va_S.rf
  have hA := wk_hA [] s.heap.size
  have hD9 : True := trivial
  have hinX3 : ∀ w ∈ wsX30, w ∈ wsX3_hasNext := by decide +kernel
  refine lv_iload_n hx hb dX3_hasNext_0 rfl (lv_at hl 1 rfl) ?_
  refine lv_if_lt (tgt := 18) hx hb dX3_hasNext_1 (by decide) (fun c1 => ?_) (fun c1 => ?_)
  · skip
    refine lv_iconst (v := nI 0) hx hb dX3_hasNext_18 (by decide) ?_
    exact wv_zretP (b := false) hx hb hr hlocks hS (rfl : nI 0 = bI false) (by first | (rw [show hnx x n = true from by unfold hnx; rw [decide_eq_true c1, decide_eq_true c11]; rfl]; rfl) | (rw [show hnx x n = false from by unfold hnx; rw [decide_eq_false (p := ¬ nI n - nI 1 ≤ x) (fun z => z c11), Bool.and_false]]; rfl) | (rw [show hnx x n = false from by unfold hnx; rw [decide_eq_false (p := ¬ x < 0) (fun z => z c1), Bool.false_and]]; rfl)) dX3_hasNext_19
  · skip
    refine lv_iload_n hx hb dX3_hasNext_4 rfl (lv_at hl 1 rfl) ?_
    refine lv_aload_n hx hb dX3_hasNext_5 rfl (lv_at hl 0 rfl) ?_
    refine va_get (D := D) (ci := 2) (C := RX3) (T := TX3) (N := 10) hx hb hts hinX3 hown hK hP 0 rfl rfl 3 (by decide) (hts (.fieldLink RX3 32 "NearRanks$Row" "size" "I") (by decide +kernel)) (fun _ h9 => h9) rfl dX3_hasNext_6 ?_
    refine lv_iconst (v := nI 1) hx hb dX3_hasNext_9 (by decide) ?_
    refine lv_isub hx hb dX3_hasNext_10 ?_
    refine lv_icmp_ge (tgt := 18) hx hb dX3_hasNext_11 (by decide) (fun c11 => ?_) (fun c11 => ?_)
    · skip
      refine lv_iconst (v := nI 0) hx hb dX3_hasNext_18 (by decide) ?_
      exact wv_zretP (b := false) hx hb hr hlocks hS (rfl : nI 0 = bI false) (by first | (rw [show hnx x n = true from by unfold hnx; rw [decide_eq_true c1, decide_eq_true c11]; rfl]; rfl) | (rw [show hnx x n = false from by unfold hnx; rw [decide_eq_false (p := ¬ nI n - nI 1 ≤ x) (fun z => z c11), Bool.and_false]]; rfl) | (rw [show hnx x n = false from by unfold hnx; rw [decide_eq_false (p := ¬ x < 0) (fun z => z c1), Bool.false_and]]; rfl)) dX3_hasNext_19
    · skip
      refine lv_iconst (v := nI 1) hx hb dX3_hasNext_14 (by decide) ?_
      refine lv_goto (tgt := 19) hx hb dX3_hasNext_15 (by decide) ?_
      exact wv_zretP (b := true) hx hb hr hlocks hS (rfl : nI 1 = bI true) (by first | (rw [show hnx x n = true from by unfold hnx; rw [decide_eq_true c1, decide_eq_true c11]; rfl]; rfl) | (rw [show hnx x n = false from by unfold hnx; rw [decide_eq_false (p := ¬ nI n - nI 1 ≤ x) (fun z => z c11), Bool.and_false]]; rfl) | (rw [show hnx x n = false from by unfold hnx; rw [decide_eq_false (p := ¬ x < 0) (fun z => z c1), Bool.false_and]]; rfl)) dX3_hasNext_19

set_option maxHeartbeats 4000000 in
set_option maxRecDepth 100000 in
theorem kX3_canOpen (l : Launch) (D : va_G) (r : Nat) (va : Nat) (na : Nat) (ra : Nat) (cJ : ClassId) (cI : ClassId) (v : Nat → Int64) (nu : Nat → Int32) (rk : Nat → Int32) (n : Nat) (b : Nat) (fl : Bool) (me : Bool) (st : Int32) (lk : Int32) (cm : Int32) (x : Int32)  : PMi l yX3_canOpen wsX3_canOpen ({ frames := 0, cells := 0, slots := 0, locals := 0 } : Room) [.ref r, .int x] D (RowC r va na ra cJ cI v nu rk n b fl me st lk cm) [(cJ, .long), (cI, .int)] (bI (opn x n)) := by
  refine PMi_of (cc := cX3_canOpen) (maxL := 2) (ret := some .boolean) (by decide +kernel) rfl (Nat.le_of_ble_eq_true rfl) ?_
  intro p e s m args below meth c hx hb hr hts hown hlocks hml hP hK hN ls hl
  have hown : s.vm.findClass RX3 = some m.cls := hown
  have hl : lv_has ls 2 [(0, .ref r), (1, .int x)] := hl
  have hS : va_S (va_A [] s.heap.size) s.heap s.heap [] := va_S.rf
  have hA := wk_hA [] s.heap.size
  have hD9 : True := trivial
  have hinX3 : ∀ w ∈ wsX30, w ∈ wsX3_canOpen := by decide +kernel
  refine lv_iload_n hx hb dX3_canOpen_0 rfl (lv_at hl 1 rfl) ?_
  refine lv_if_lt (tgt := 16) hx hb dX3_canOpen_1 (by decide) (fun c1 => ?_) (fun c1 => ?_)
  · skip
    refine lv_iconst (v := nI 0) hx hb dX3_canOpen_16 (by decide) ?_
    exact wv_zretP (b := false) hx hb hr hlocks hS (rfl : nI 0 = bI false) (by simp [bI, inR, inB, hnx, opn, nI_0, wk_1, *]) dX3_canOpen_17
  · skip
    refine lv_iload_n hx hb dX3_canOpen_4 rfl (lv_at hl 1 rfl) ?_
    refine lv_aload_n hx hb dX3_canOpen_5 rfl (lv_at hl 0 rfl) ?_
    refine va_get (D := D) (ci := 2) (C := RX3) (T := TX3) (N := 10) hx hb hts hinX3 hown hK hP 0 rfl rfl 3 (by decide) (hts (.fieldLink RX3 32 "NearRanks$Row" "size" "I") (by decide +kernel)) (fun _ h9 => h9) rfl dX3_canOpen_6 ?_
    refine lv_icmp_gt (tgt := 16) hx hb dX3_canOpen_9 (by decide) (fun c9 => ?_) (fun c9 => ?_)
    · skip
      refine lv_iconst (v := nI 0) hx hb dX3_canOpen_16 (by decide) ?_
      exact wv_zretP (b := false) hx hb hr hlocks hS (rfl : nI 0 = bI false) (by simp [bI, inR, inB, hnx, opn, nI_0, wk_1, *]) dX3_canOpen_17
    · skip
      refine lv_iconst (v := nI 1) hx hb dX3_canOpen_12 (by decide) ?_
      refine lv_goto (tgt := 17) hx hb dX3_canOpen_13 (by decide) ?_
      exact wv_zretP (b := true) hx hb hr hlocks hS (rfl : nI 1 = bI true) (by simp [bI, inR, inB, hnx, opn, nI_0, wk_1, *]) dX3_canOpen_17

set_option maxHeartbeats 4000000 in
set_option maxRecDepth 100000 in
theorem kX3_isBound (l : Launch) (D : va_G) (r : Nat) (va : Nat) (na : Nat) (ra : Nat) (cJ : ClassId) (cI : ClassId) (v : Nat → Int64) (nu : Nat → Int32) (rk : Nat → Int32) (n : Nat) (b : Nat) (fl : Bool) (me : Bool) (st : Int32) (lk : Int32) (cm : Int32) (x : Int32)  : PMi l yX3_isBound wsX3_isBound ({ frames := 0, cells := 0, slots := 0, locals := 0 } : Room) [.ref r, .int x] D (RowC r va na ra cJ cI v nu rk n b fl me st lk cm) [(cJ, .long), (cI, .int)] (bI (inB x)) := by
  refine PMi_of (cc := cX3_isBound) (maxL := 2) (ret := some .boolean) (by decide +kernel) rfl (Nat.le_of_ble_eq_true rfl) ?_
  intro p e s m args below meth c hx hb hr hts hown hlocks hml hP hK hN ls hl
  have hown : s.vm.findClass RX3 = some m.cls := hown
  have hl : lv_has ls 2 [(0, .ref r), (1, .int x)] := hl
  have hS : va_S (va_A [] s.heap.size) s.heap s.heap [] := va_S.rf
  have hA := wk_hA [] s.heap.size
  have hD9 : True := trivial
  refine lv_iload_n hx hb dX3_isBound_0 rfl (lv_at hl 1 rfl) ?_
  refine lv_if_lt (tgt := 14) hx hb dX3_isBound_1 (by decide) (fun c1 => ?_) (fun c1 => ?_)
  · skip
    refine lv_iconst (v := nI 0) hx hb dX3_isBound_14 (by decide) ?_
    exact wv_zretP (b := false) hx hb hr hlocks hS (rfl : nI 0 = bI false) (by simp [bI, inR, inB, hnx, opn, nI_0, wk_1, *]) dX3_isBound_15
  · skip
    refine lv_iload_n hx hb dX3_isBound_4 rfl (lv_at hl 1 rfl) ?_
    refine lv_bipush (v := nI 31) hx hb dX3_isBound_5 (by decide) ?_
    refine lv_icmp_gt (tgt := 14) hx hb dX3_isBound_7 (by decide) (fun c7 => ?_) (fun c7 => ?_)
    · skip
      refine lv_iconst (v := nI 0) hx hb dX3_isBound_14 (by decide) ?_
      exact wv_zretP (b := false) hx hb hr hlocks hS (rfl : nI 0 = bI false) (by simp [bI, inR, inB, hnx, opn, nI_0, wk_1, *]) dX3_isBound_15
    · skip
      refine lv_iconst (v := nI 1) hx hb dX3_isBound_10 (by decide) ?_
      refine lv_goto (tgt := 15) hx hb dX3_isBound_11 (by decide) ?_
      exact wv_zretP (b := true) hx hb hr hlocks hS (rfl : nI 1 = bI true) (by simp [bI, inR, inB, hnx, opn, nI_0, wk_1, *]) dX3_isBound_15

set_option maxHeartbeats 4000000 in
set_option maxRecDepth 100000 in
theorem kX3_isAhead (l : Launch) (D : va_G) (r : Nat) (va : Nat) (na : Nat) (ra : Nat) (cJ : ClassId) (cI : ClassId) (v : Nat → Int64) (nu : Nat → Int32) (rk : Nat → Int32) (n : Nat) (b : Nat) (fl : Bool) (me : Bool) (st : Int32) (lk : Int32) (cm : Int32) (x : Int64) (y : Int64)  : PMi l yX3_isAhead wsX3_isAhead ({ frames := 0, cells := 0, slots := 0, locals := 0 } : Room) [.ref r, .long x, .long y] D (RowC r va na ra cJ cI v nu rk n b fl me st lk cm) [(cJ, .long), (cI, .int)] (bI (ahd fl x y)) := by
  refine PMi_of (cc := cX3_isAhead) (maxL := 5) (ret := some .boolean) (by decide +kernel) rfl (Nat.le_of_ble_eq_true rfl) ?_
  intro p e s m args below meth c hx hb hr hts hown hlocks hml hP hK hN ls hl
  have hown : s.vm.findClass RX3 = some m.cls := hown
  have hl : lv_has ls 5 [(0, .ref r), (1, .long x), (3, .long y)] := hl
  have hS : va_S (va_A [] s.heap.size) s.heap s.heap [] := va_S.rf
  have hA := wk_hA [] s.heap.size
  have hD9 : True := trivial
  have hinX3 : ∀ w ∈ wsX30, w ∈ wsX3_isAhead := by decide +kernel
  refine lv_aload_n hx hb dX3_isAhead_0 rfl (lv_at hl 0 rfl) ?_
  refine va_get (D := D) (ci := 2) (C := RX3) (T := TX3) (N := 10) hx hb hts hinX3 hown hK hP 0 rfl rfl 5 (by decide) (hts (.fieldLink RX3 35 "NearRanks$Row" "falling" "Z") (by decide +kernel)) (fun _ h9 => h9) rfl dX3_isAhead_1 ?_
  refine wv_ifeqB (tgt := 21) hx hb dX3_isAhead_4 (by decide) (fun c4 => ?_) (fun c4 => ?_)
  · skip
    refine lv_lload_n hx hb dX3_isAhead_21 rfl (lv_at hl 1 rfl) ?_
    refine lv_lload_n hx hb dX3_isAhead_22 rfl (lv_at hl 2 rfl) ?_
    refine wv_lc_ge (tgt := 31) hx hb dX3_isAhead_23 dX3_isAhead_24 (by decide) (fun c24 => ?_) (fun c24 => ?_)
    · skip
      refine lv_iconst (v := nI 0) hx hb dX3_isAhead_31 (by decide) ?_
      exact wv_zretP (b := false) hx hb hr hlocks hS (rfl : nI 0 = bI false) (by simp [bI, ahd, nI_0, wk_1, *]) dX3_isAhead_32
    · skip
      refine lv_iconst (v := nI 1) hx hb dX3_isAhead_27 (by decide) ?_
      refine lv_goto (tgt := 32) hx hb dX3_isAhead_28 (by decide) ?_
      exact wv_zretP (b := true) hx hb hr hlocks hS (rfl : nI 1 = bI true) (by simp [bI, ahd, nI_0, wk_1, *]) dX3_isAhead_32
  · skip
    refine lv_lload_n hx hb dX3_isAhead_7 rfl (lv_at hl 1 rfl) ?_
    refine lv_lload_n hx hb dX3_isAhead_8 rfl (lv_at hl 2 rfl) ?_
    refine wv_lc_le (tgt := 17) hx hb dX3_isAhead_9 dX3_isAhead_10 (by decide) (fun c10 => ?_) (fun c10 => ?_)
    · skip
      refine lv_iconst (v := nI 0) hx hb dX3_isAhead_17 (by decide) ?_
      refine lv_goto (tgt := 32) hx hb dX3_isAhead_18 (by decide) ?_
      exact wv_zretP (b := false) hx hb hr hlocks hS (rfl : nI 0 = bI false) (by simp [bI, ahd, nI_0, wk_1, *]) dX3_isAhead_32
    · skip
      refine lv_iconst (v := nI 1) hx hb dX3_isAhead_13 (by decide) ?_
      refine lv_goto (tgt := 32) hx hb dX3_isAhead_14 (by decide) ?_
      exact wv_zretP (b := true) hx hb hr hlocks hS (rfl : nI 1 = bI true) (by simp [bI, ahd, nI_0, wk_1, *]) dX3_isAhead_32

set_option maxHeartbeats 4000000 in
set_option maxRecDepth 100000 in
theorem kX3_distance (l : Launch) (D : va_G) (r : Nat) (va : Nat) (na : Nat) (ra : Nat) (cJ : ClassId) (cI : ClassId) (v : Nat → Int64) (nu : Nat → Int32) (rk : Nat → Int32) (n : Nat) (b : Nat) (fl : Bool) (me : Bool) (st : Int32) (lk : Int32) (cm : Int32) (k : Nat) (hn : n ≤ 32) (hrk : ∀ i, i < n → rk i = nI (rk0 fl v n i)) (hk : k < n) : PMi l yX3_distance wsX3_distance ({ frames := 1, cells := 0, slots := 0, locals := 21 } : Room) [.ref r, .int (nI k)] D (RowC r va na ra cJ cI v nu rk n b fl me st lk cm) [(cJ, .long), (cI, .int)] (dst fl v n k) := by
  refine PMi_of (cc := cX3_distance) (maxL := 2) (ret := some .int) (by decide +kernel) rfl (Nat.le_of_ble_eq_true rfl) ?_
  intro p e s m args below meth c hx hb hr hts hown hlocks hml hP hK hN ls hl
  have hown : s.vm.findClass RX3 = some m.cls := hown
  have hl : lv_has ls 2 [(0, .ref r), (1, .int (nI k))] := hl
  have hS : va_S (va_A [] s.heap.size) s.heap s.heap [] := va_S.rf
  have hA := wk_hA [] s.heap.size
  have hD9 : True := trivial
  have hinX3 : ∀ w ∈ wsX30, w ∈ wsX3_distance := by decide +kernel
  refine lv_aload_n hx hb dX3_distance_0 rfl (lv_at hl 0 rfl) ?_
  refine lv_iload_n hx hb dX3_distance_1 rfl (lv_at hl 1 rfl) ?_
  refine wv_callPi (As := [.int (nI k)]) (rest := []) ⟨hx, hb, hml, hown, hts⟩ (kX3_isPlace l D r va na ra cJ cI v nu rk n b fl me st lk cm (nI k)) (cwV 1 hts gX3_distance_X3_isPlace rfl rfl rfl (by decide +kernel) ⟨Nat.le_of_ble_eq_true rfl, Nat.le_of_ble_eq_true rfl⟩) hK hN hP hS hA [0, 1, 2, 3] [0, 1] rfl rfl 0 2 rfl rfl rfl rfl hl.1 rfl (Nat.le_of_ble_eq_true rfl) dX3_distance_2 ⟨Nat.zero_le _, Nat.zero_le _⟩ (fun H locs hz9 hP hS => ?_)
  refine wv_ti (y := bI true) (by rw [inR_t hk (by omega)]) ?_
  refine wv_ifeqB (tgt := 19) hx hb dX3_distance_5 (by decide) (fun h => by cases h) (fun _ => ?_)
  refine lv_iload_n hx hb dX3_distance_8 rfl (lv_at hl 1 rfl) ?_
  refine lv_aload_n hx hb dX3_distance_9 rfl (lv_at hl 0 rfl) ?_
  refine va_get (D := D) (ci := 2) (C := RX3) (T := TX3) (N := 10) hx hb hts hinX3 hown hK hP 0 rfl rfl 2 (by decide) (hts (.fieldLink RX3 19 "NearRanks$Row" "ranks" "[I") (by decide +kernel)) (fun _ h9 => h9) rfl dX3_distance_10 ?_
  refine lv_iload_n hx hb dX3_distance_13 rfl (lv_at hl 1 rfl) ?_
  refine wv_iald hx hb hK hP 3 1 rfl rfl (k := k) (by omega) (by decide) dX3_distance_14 ?_
  refine wv_ti (y := nI (rk0 fl v n k)) (hrk k hk) ?_
  refine lv_isub hx hb dX3_distance_15 ?_
  refine lv_goto (tgt := 20) hx hb dX3_distance_16 (by decide) ?_
  exact wv_iretP hx hb hr hlocks hS (by rfl) dX3_distance_20

set_option maxHeartbeats 4000000 in
set_option maxRecDepth 100000 in
theorem kX3_isBroken (l : Launch) (D : va_G) (r : Nat) (va : Nat) (na : Nat) (ra : Nat) (cJ : ClassId) (cI : ClassId) (v : Nat → Int64) (nu : Nat → Int32) (rk : Nat → Int32) (n : Nat) (b : Nat) (fl : Bool) (me : Bool) (st : Int32) (lk : Int32) (cm : Int32) (k : Nat) (hn : n ≤ 32) (hb : b ≤ 31) (hrk : ∀ i, i < n → rk i = nI (rk0 fl v n i)) (hk : k < n) : PMi l yX3_isBroken wsX3_isBroken ({ frames := 2, cells := 0, slots := 0, locals := 42 } : Room) [.ref r, .int (nI k)] D (RowC r va na ra cJ cI v nu rk n b fl me st lk cm) [(cJ, .long), (cI, .int)] (bI (brk fl v n b k)) := by
  refine PMi_of (cc := cX3_isBroken) (maxL := 2) (ret := some .boolean) (by decide +kernel) rfl (Nat.le_of_ble_eq_true rfl) ?_
  intro p e s m args below meth c hx hb hr hts hown hlocks hml hP hK hN ls hl
  have hown : s.vm.findClass RX3 = some m.cls := hown
  have hl : lv_has ls 2 [(0, .ref r), (1, .int (nI k))] := hl
  have hS : va_S (va_A [] s.heap.size) s.heap s.heap [] := va_S.rf
  have hA := wk_hA [] s.heap.size
  have hD9 : True := trivial
  have hinX3 : ∀ w ∈ wsX30, w ∈ wsX3_isBroken := by decide +kernel
  have hfar := far_le (fl := fl) (v := v) hk
  refine lv_aload_n hx hb dX3_isBroken_0 rfl (lv_at hl 0 rfl) ?_
  refine lv_iload_n hx hb dX3_isBroken_1 rfl (lv_at hl 1 rfl) ?_
  refine wv_callPi (As := [.int (nI k)]) (rest := []) ⟨hx, hb, hml, hown, hts⟩ (kX3_distance l D r va na ra cJ cI v nu rk n b fl me st lk cm k (by first | assumption | omega) (by first | assumption | omega) (by first | assumption | omega)) (cwV 1 hts gX3_isBroken_X3_distance rfl rfl rfl (by decide +kernel) ⟨Nat.le_of_ble_eq_true rfl, Nat.le_of_ble_eq_true rfl⟩) hK hN hP hS hA [0, 1, 2, 3] [0, 1] rfl rfl 0 2 rfl rfl rfl rfl hl.1 rfl (Nat.le_of_ble_eq_true rfl) dX3_isBroken_2 ⟨Nat.zero_le _, Nat.zero_le _⟩ (fun H locs hz9 hP hS => ?_)
  refine va_mabs hx hb (by rw [hml]; exact hl.1.symm) hown (hts (.methodLink RX3 59 Lib.Math.abs.name) (by decide +kernel)) (hts (.static Lib.Math.abs.name) (by decide +kernel)) (hts (.initialized "java/lang/Math") (by decide +kernel)) (hts (.code Lib.Math.abs.name Lib.Math.abs.code 1 (some .int)) (by decide +kernel)) (Nat.le_of_ble_eq_true rfl) (Nat.le_of_ble_eq_true rfl) (Nat.zero_le _) (Nat.zero_le _) dX3_isBroken_5 ?_
  refine wv_ti (y := nI (far fl v n k)) (dst_abs hk hn) ?_
  refine lv_aload_n hx hb dX3_isBroken_8 rfl (lv_at hl 0 rfl) ?_
  refine va_get (D := D) (ci := 2) (C := RX3) (T := TX3) (N := 10) hx hb hts hinX3 hown hK hP 0 rfl rfl 4 (by decide) (hts (.fieldLink RX3 22 "NearRanks$Row" "bound" "I") (by decide +kernel)) (fun _ h9 => h9) rfl dX3_isBroken_9 ?_
  refine wv_icmp_le (tgt := 19) hx hb (by omega) (by omega) dX3_isBroken_12 (by decide) (fun c12 => ?_) (fun c12 => ?_)
  · skip
    refine lv_iconst (v := nI 0) hx hb dX3_isBroken_19 (by decide) ?_
    exact wv_zretP (b := false) hx hb hr hlocks hS (rfl : nI 0 = bI false) (by first | (rw [show brk fl v n b k = true from decide_eq_true (by omega)]; rfl) | (rw [show brk fl v n b k = false from decide_eq_false (by omega)]; rfl)) dX3_isBroken_20
  · skip
    refine lv_iconst (v := nI 1) hx hb dX3_isBroken_15 (by decide) ?_
    refine lv_goto (tgt := 20) hx hb dX3_isBroken_16 (by decide) ?_
    exact wv_zretP (b := true) hx hb hr hlocks hS (rfl : nI 1 = bI true) (by first | (rw [show brk fl v n b k = true from decide_eq_true (by omega)]; rfl) | (rw [show brk fl v n b k = false from decide_eq_false (by omega)]; rfl)) dX3_isBroken_20

set_option maxHeartbeats 4000000 in
set_option maxRecDepth 100000 in
theorem kX3_isFall (l : Launch) (D : va_G) (r : Nat) (va : Nat) (na : Nat) (ra : Nat) (cJ : ClassId) (cI : ClassId) (v : Nat → Int64) (nu : Nat → Int32) (rk : Nat → Int32) (n : Nat) (b : Nat) (fl : Bool) (me : Bool) (st : Int32) (lk : Int32) (cm : Int32) (k : Nat) (hn : n ≤ 32) (hk : k < n) : PMi l yX3_isFall wsX3_isFall ({ frames := 1, cells := 0, slots := 0, locals := 24 } : Room) [.ref r, .int (nI k)] D (RowC r va na ra cJ cI v nu rk n b fl me st lk cm) [(cJ, .long), (cI, .int)] (bI (fal fl v n k)) := by
  refine PMi_of (cc := cX3_isFall) (maxL := 2) (ret := some .boolean) (by decide +kernel) rfl (Nat.le_of_ble_eq_true rfl) ?_
  intro p e s m args below meth c hx hb hr hts hown hlocks hml hP hK hN ls hl
  have hown : s.vm.findClass RX3 = some m.cls := hown
  have hl : lv_has ls 2 [(0, .ref r), (1, .int (nI k))] := hl
  have hS : va_S (va_A [] s.heap.size) s.heap s.heap [] := va_S.rf
  have hA := wk_hA [] s.heap.size
  have hD9 : True := trivial
  have hinX3 : ∀ w ∈ wsX30, w ∈ wsX3_isFall := by decide +kernel
  refine lv_aload_n hx hb dX3_isFall_0 rfl (lv_at hl 0 rfl) ?_
  refine lv_iload_n hx hb dX3_isFall_1 rfl (lv_at hl 1 rfl) ?_
  refine wv_callPi (As := [.int (nI k)]) (rest := []) ⟨hx, hb, hml, hown, hts⟩ (kX3_hasNext l D r va na ra cJ cI v nu rk n b fl me st lk cm (nI k)) (cwV 1 hts gX3_isFall_X3_hasNext rfl rfl rfl (by decide +kernel) ⟨Nat.le_of_ble_eq_true rfl, Nat.le_of_ble_eq_true rfl⟩) hK hN hP hS hA [0, 1, 2, 3] [0, 1] rfl rfl 0 2 rfl rfl rfl rfl hl.1 rfl (Nat.le_of_ble_eq_true rfl) dX3_isFall_2 ⟨Nat.zero_le _, Nat.zero_le _⟩ (fun H locs hz9 hP hS => ?_)
  refine wv_ti (y := bI (decide (k + 1 < n))) (by rw [hnx_nI hk (by omega)]) ?_
  refine wv_ifeqD (tgt := 33) hx hb dX3_isFall_5 (by decide) (fun c5 => ?_) (fun c5 => ?_)
  · skip
    refine lv_iconst (v := nI 0) hx hb dX3_isFall_33 (by decide) ?_
    exact wv_zretP (b := false) hx hb hr hlocks hS (rfl : nI 0 = bI false) (by simp [fal, bI, nI_0, wk_1, *]) dX3_isFall_34
  · skip
    refine lv_aload_n hx hb dX3_isFall_8 rfl (lv_at hl 0 rfl) ?_
    refine lv_aload_n hx hb dX3_isFall_9 rfl (lv_at hl 0 rfl) ?_
    refine va_get (D := D) (ci := 2) (C := RX3) (T := TX3) (N := 10) hx hb hts hinX3 hown hK hP 0 rfl rfl 0 (by decide) (hts (.fieldLink RX3 9 "NearRanks$Row" "values" "[J") (by decide +kernel)) (fun _ h9 => h9) rfl dX3_isFall_10 ?_
    refine lv_iload_n hx hb dX3_isFall_13 rfl (lv_at hl 1 rfl) ?_
    refine lv_iconst (v := nI 1) hx hb dX3_isFall_14 (by decide) ?_
    refine lv_iadd hx hb dX3_isFall_15 ?_
    refine wv_ti (nI_add _ _) ?_
    refine wv_lald hx hb hK hP 1 0 rfl rfl (k := k + 1) (by omega) (by decide) dX3_isFall_16 ?_
    refine lv_aload_n hx hb dX3_isFall_17 rfl (lv_at hl 0 rfl) ?_
    refine va_get (D := D) (ci := 2) (C := RX3) (T := TX3) (N := 10) hx hb hts hinX3 hown hK hP 0 rfl rfl 0 (by decide) (hts (.fieldLink RX3 9 "NearRanks$Row" "values" "[J") (by decide +kernel)) (fun _ h9 => h9) rfl dX3_isFall_18 ?_
    refine lv_iload_n hx hb dX3_isFall_21 rfl (lv_at hl 1 rfl) ?_
    refine wv_lald hx hb hK hP 1 0 rfl rfl (k := k) (by omega) (by decide) dX3_isFall_22 ?_
    refine wv_callPi (As := [.long (v (k + 1)), .long (v k)]) (rest := []) ⟨hx, hb, hml, hown, hts⟩ (kX3_isAhead l D r va na ra cJ cI v nu rk n b fl me st lk cm (v (k + 1)) (v k)) (cwV 2 hts gX3_isFall_X3_isAhead rfl rfl rfl (by decide +kernel) ⟨Nat.le_of_ble_eq_true rfl, Nat.le_of_ble_eq_true rfl⟩) hK hN hP hS hA [0, 1, 2, 3] [0, 1] rfl rfl 0 2 rfl rfl rfl rfl hl.1 rfl (Nat.le_of_ble_eq_true rfl) dX3_isFall_23 ⟨Nat.zero_le _, Nat.zero_le _⟩ (fun H locs hz9 hP hS => ?_)
    refine wv_ifeqB (tgt := 33) hx hb dX3_isFall_26 (by decide) (fun c26 => ?_) (fun c26 => ?_)
    · skip
      refine lv_iconst (v := nI 0) hx hb dX3_isFall_33 (by decide) ?_
      exact wv_zretP (b := false) hx hb hr hlocks hS (rfl : nI 0 = bI false) (by simp [fal, bI, nI_0, wk_1, *]) dX3_isFall_34
    · skip
      refine lv_iconst (v := nI 1) hx hb dX3_isFall_29 (by decide) ?_
      refine lv_goto (tgt := 34) hx hb dX3_isFall_30 (by decide) ?_
      exact wv_zretP (b := true) hx hb hr hlocks hS (rfl : nI 1 = bI true) (by simp [fal, bI, nI_0, wk_1, *]) dX3_isFall_34

set_option maxHeartbeats 4000000 in
set_option maxRecDepth 100000 in
theorem kX3_inversionsBySwap (l : Launch) (D : va_G) (r : Nat) (va : Nat) (na : Nat) (ra : Nat) (cJ : ClassId) (cI : ClassId) (v : Nat → Int64) (nu : Nat → Int32) (rk : Nat → Int32) (n : Nat) (b : Nat) (fl : Bool) (me : Bool) (st : Int32) (lk : Int32) (cm : Int32) (k : Nat) (hn : n ≤ 32) (hk1 : k + 1 < n) : PMi l yX3_inversionsBySwap wsX3_inversionsBySwap ({ frames := 2, cells := 0, slots := 0, locals := 45 } : Room) [.ref r, .int (nI k)] D (RowC r va na ra cJ cI v nu rk n b fl me st lk cm) [(cJ, .long), (cI, .int)] (ibs fl v k) := by
  refine PMi_of (cc := cX3_inversionsBySwap) (maxL := 2) (ret := some .int) (by decide +kernel) rfl (Nat.le_of_ble_eq_true rfl) ?_
  intro p e s m args below meth c hx hb hr hts hown hlocks hml hP hK hN ls hl
  have hown : s.vm.findClass RX3 = some m.cls := hown
  have hl : lv_has ls 2 [(0, .ref r), (1, .int (nI k))] := hl
  have hS : va_S (va_A [] s.heap.size) s.heap s.heap [] := va_S.rf
  have hA := wk_hA [] s.heap.size
  have hD9 : True := trivial
  have hinX3 : ∀ w ∈ wsX30, w ∈ wsX3_inversionsBySwap := by decide +kernel
  have hk : k < n := by omega
  refine lv_aload_n hx hb dX3_inversionsBySwap_0 rfl (lv_at hl 0 rfl) ?_
  refine lv_iload_n hx hb dX3_inversionsBySwap_1 rfl (lv_at hl 1 rfl) ?_
  refine wv_callPi (As := [.int (nI k)]) (rest := []) ⟨hx, hb, hml, hown, hts⟩ (kX3_hasNext l D r va na ra cJ cI v nu rk n b fl me st lk cm (nI k)) (cwV 1 hts gX3_inversionsBySwap_X3_hasNext rfl rfl rfl (by decide +kernel) ⟨Nat.le_of_ble_eq_true rfl, Nat.le_of_ble_eq_true rfl⟩) hK hN hP hS hA [0, 1, 2, 3] [0, 1] rfl rfl 0 2 rfl rfl rfl rfl hl.1 rfl (Nat.le_of_ble_eq_true rfl) dX3_inversionsBySwap_2 ⟨Nat.zero_le _, Nat.zero_le _⟩ (fun H locs hz9 hP hS => ?_)
  refine wv_ti (y := bI (decide (k + 1 < n))) (by rw [hnx_nI hk (by omega)]) ?_
  refine wv_ifeqD (tgt := 26) hx hb dX3_inversionsBySwap_5 (by decide) (fun c5 => by exfalso; omega) (fun c5 => ?_)
  refine lv_aload_n hx hb dX3_inversionsBySwap_8 rfl (lv_at hl 0 rfl) ?_
  refine va_get (D := D) (ci := 2) (C := RX3) (T := TX3) (N := 10) hx hb hts hinX3 hown hK hP 0 rfl rfl 0 (by decide) (hts (.fieldLink RX3 9 "NearRanks$Row" "values" "[J") (by decide +kernel)) (fun _ h9 => h9) rfl dX3_inversionsBySwap_9 ?_
  refine lv_iload_n hx hb dX3_inversionsBySwap_12 rfl (lv_at hl 1 rfl) ?_
  refine wv_lald hx hb hK hP 1 0 rfl rfl (k := k) (by omega) (by decide) dX3_inversionsBySwap_13 ?_
  refine lv_aload_n hx hb dX3_inversionsBySwap_14 rfl (lv_at hl 0 rfl) ?_
  refine va_get (D := D) (ci := 2) (C := RX3) (T := TX3) (N := 10) hx hb hts hinX3 hown hK hP 0 rfl rfl 0 (by decide) (hts (.fieldLink RX3 9 "NearRanks$Row" "values" "[J") (by decide +kernel)) (fun _ h9 => h9) rfl dX3_inversionsBySwap_15 ?_
  refine lv_iload_n hx hb dX3_inversionsBySwap_18 rfl (lv_at hl 1 rfl) ?_
  refine lv_iconst (v := nI 1) hx hb dX3_inversionsBySwap_19 (by decide) ?_
  refine lv_iadd hx hb dX3_inversionsBySwap_20 ?_
  refine wv_ti (nI_add _ _) ?_
  refine wv_lald hx hb hK hP 1 0 rfl rfl (k := k + 1) (by omega) (by decide) dX3_inversionsBySwap_21 ?_
  refine wv_lc_ne (tgt := 28) hx hb dX3_inversionsBySwap_22 dX3_inversionsBySwap_23 (by decide) (fun c23 => ?_) (fun c23 => ?_)
  · skip
    refine lv_aload_n hx hb dX3_inversionsBySwap_28 rfl (lv_at hl 0 rfl) ?_
    refine lv_iload_n hx hb dX3_inversionsBySwap_29 rfl (lv_at hl 1 rfl) ?_
    refine wv_callPi (As := [.int (nI k)]) (rest := []) ⟨hx, hb, hml, hown, hts⟩ (kX3_isFall l D r va na ra cJ cI v nu rk n b fl me st lk cm k (by first | assumption | omega) (by first | assumption | omega)) (cwV 1 hts gX3_inversionsBySwap_X3_isFall rfl rfl rfl (by decide +kernel) ⟨Nat.le_of_ble_eq_true rfl, Nat.le_of_ble_eq_true rfl⟩) hK hN hP hS hA [0, 1, 2, 3] [0, 1] rfl rfl 0 2 rfl rfl rfl rfl hl.1 rfl (Nat.le_of_ble_eq_true rfl) dX3_inversionsBySwap_30 ⟨Nat.zero_le _, Nat.zero_le _⟩ (fun H locs hz9 hP hS => ?_)
    refine wv_ifeqB (tgt := 40) hx hb dX3_inversionsBySwap_33 (by decide) (fun c33 => ?_) (fun c33 => ?_)
    · skip
      have c33 : ahd fl (v (k + 1)) (v k) = false := by simpa [fal, hk1] using c33
      refine lv_iconst (v := nI 1) hx hb dX3_inversionsBySwap_40 (by decide) ?_
      exact wv_iretP hx hb hr hlocks hS (by simp [fal, ibs, bI, nI_0, wk_1, *]) dX3_inversionsBySwap_41
    · skip
      have c33 : ahd fl (v (k + 1)) (v k) = true := by simpa [fal, hk1] using c33
      refine lv_iconst (v := (-1)) hx hb dX3_inversionsBySwap_36 (by decide) ?_
      refine lv_goto (tgt := 41) hx hb dX3_inversionsBySwap_37 (by decide) ?_
      exact wv_iretP hx hb hr hlocks hS (by simp [fal, ibs, bI, nI_0, wk_1, *]) dX3_inversionsBySwap_41
  · skip
    refine lv_iconst (v := nI 0) hx hb dX3_inversionsBySwap_26 (by decide) ?_
    exact wv_iretP hx hb hr hlocks hS (by simp [fal, ibs, bI, nI_0, wk_1, *]) dX3_inversionsBySwap_27

set_option maxHeartbeats 4000000 in
set_option maxRecDepth 100000 in
theorem kX3_countRank (l : Launch) (D : va_G) (r : Nat) (va : Nat) (na : Nat) (ra : Nat) (cJ : ClassId) (cI : ClassId) (v : Nat → Int64) (nu : Nat → Int32) (rk : Nat → Int32) (n : Nat) (b : Nat) (fl : Bool) (me : Bool) (st : Int32) (lk : Int32) (cm : Int32) (k : Nat) (hn : n ≤ 32) (hk : k < n) : PMi l yX3_countRank wsX3_countRank ({ frames := 1, cells := 0, slots := 0, locals := 24 } : Room) [.ref r, .int (nI k)] D (RowC r va na ra cJ cI v nu rk n b fl me st lk cm) [(cJ, .long), (cI, .int)] (nI (rk0 fl v n k)) := by
  refine PMi_of (cc := cX3_countRank) (maxL := 5) (ret := some .int) (by decide +kernel) rfl (Nat.le_of_ble_eq_true rfl) ?_
  intro p e s m args below meth c hx hb hr hts hown hlocks hml hP hK hN ls hl
  have hown : s.vm.findClass RX3 = some m.cls := hown
  have hl : lv_has ls 5 [(0, .ref r), (1, .int (nI k))] := hl
  have hS : va_S (va_A [] s.heap.size) s.heap s.heap [] := va_S.rf
  have hA := wk_hA [] s.heap.size
  have hD9 : True := trivial
  have hinX3 : ∀ w ∈ wsX30, w ∈ wsX3_countRank := by decide +kernel
  refine lv_iconst (v := nI 0) hx hb dX3_countRank_0 (by decide) ?_
  refine lv_istore_n (lv' := [(2, .int (nI 0)), (0, .ref r), (1, .int (nI k))]) hx hb dX3_countRank_1 rfl hl (by decide) rfl (fun ls hl => ?_)
  refine lv_iconst (v := nI 0) hx hb dX3_countRank_2 (by decide) ?_
  refine lv_istore_n (lv' := [(3, .int (nI 0)), (2, .int (nI 0)), (0, .ref r), (1, .int (nI k))]) hx hb dX3_countRank_3 rfl hl (by decide) rfl (fun ls hl => ?_)
  have el_l2 : cnt (rkp fl v k) 0 = 0 := by rfl
  have loop4 : ∀ (K : Nat) (i : Nat), n - i < K → i ≤ n → ∀ (H : Heap) (locs : List Loc), va_P D vwCl (RowC r va na ra cJ cI v nu rk n b fl me st lk cm) H → va_S (va_A [] s.heap.size) s.heap H locs → ∀ ls : Array Slot, lv_has ls 5 [(0, .ref r), (1, .int (nI k)), (2, .int (nI (cnt (rkp fl v k) i))), (3, .int (nI i))] → W p l e ({ frames := 1, cells := 0, slots := 0, locals := 24 } : Room) s m args below meth c H locs 0 0 (ZPi below args s (nI (rk0 fl v n k))) (F0 m 4 ls []) := by
    intro K
    induction K with
    | zero => intro i hK0; exact absurd hK0 (Nat.not_lt_zero _)
    | succ K ih4 =>
      intro i hKm hi H locs hP hS ls hl
      refine lv_iload_n hx hb dX3_countRank_4 rfl (lv_at hl 3 rfl) ?_
      refine lv_aload_n hx hb dX3_countRank_5 rfl (lv_at hl 0 rfl) ?_
      refine va_get (D := D) (ci := 2) (C := RX3) (T := TX3) (N := 10) hx hb hts hinX3 hown hK hP 0 rfl rfl 3 (by decide) (hts (.fieldLink RX3 32 "NearRanks$Row" "size" "I") (by decide +kernel)) (fun _ h9 => h9) rfl dX3_countRank_6 ?_
      refine wv_icmp_ge (tgt := 73) hx hb (by omega) (by omega) dX3_countRank_9 (by decide) (fun c9 => ?_) (fun c9 => ?_)
      · skip
        refine lv_iload_n hx hb dX3_countRank_73 rfl (lv_at hl 2 rfl) ?_
        exact wv_iretP hx hb hr hlocks hS (by rw [show i = n by omega]; rfl) dX3_countRank_74
      · skip
        refine lv_iload_n hx hb dX3_countRank_12 rfl (lv_at hl 3 rfl) ?_
        refine lv_iload_n hx hb dX3_countRank_13 rfl (lv_at hl 1 rfl) ?_
        refine wv_icmp_ge (tgt := 37) hx hb (by omega) (by omega) dX3_countRank_14 (by decide) (fun c14 => ?_) (fun c14 => ?_)
        · skip
          refine lv_iconst (v := nI 0) hx hb dX3_countRank_37 (by decide) ?_
          refine lv_istore (lv' := [(4, .int (nI 0)), (0, .ref r), (1, .int (nI k)), (2, .int (nI (cnt (rkp fl v k) i))), (3, .int (nI i))]) hx hb dX3_countRank_38 hl (by decide) rfl (fun ls hl => ?_)
          refine lv_iload hx hb dX3_countRank_40 (lv_at hl 0 rfl) ?_
          refine lv_if_ne (tgt := 64) hx hb dX3_countRank_42 (by decide) (fun h => absurd h (by decide)) (fun _ => ?_)
          refine lv_aload_n hx hb dX3_countRank_45 rfl (lv_at hl 1 rfl) ?_
          refine lv_aload_n hx hb dX3_countRank_46 rfl (lv_at hl 1 rfl) ?_
          refine va_get (D := D) (ci := 2) (C := RX3) (T := TX3) (N := 10) hx hb hts hinX3 hown hK hP 0 rfl rfl 0 (by decide) (hts (.fieldLink RX3 9 "NearRanks$Row" "values" "[J") (by decide +kernel)) (fun _ h9 => h9) rfl dX3_countRank_47 ?_
          refine lv_iload_n hx hb dX3_countRank_50 rfl (lv_at hl 4 rfl) ?_
          refine wv_lald hx hb hK hP 1 0 rfl rfl (k := i) (by omega) (by decide) dX3_countRank_51 ?_
          refine lv_aload_n hx hb dX3_countRank_52 rfl (lv_at hl 1 rfl) ?_
          refine va_get (D := D) (ci := 2) (C := RX3) (T := TX3) (N := 10) hx hb hts hinX3 hown hK hP 0 rfl rfl 0 (by decide) (hts (.fieldLink RX3 9 "NearRanks$Row" "values" "[J") (by decide +kernel)) (fun _ h9 => h9) rfl dX3_countRank_53 ?_
          refine lv_iload_n hx hb dX3_countRank_56 rfl (lv_at hl 2 rfl) ?_
          refine wv_lald hx hb hK hP 1 0 rfl rfl (k := k) (by omega) (by decide) dX3_countRank_57 ?_
          refine wv_callPi (As := [.long (v i), .long (v k)]) (rest := []) ⟨hx, hb, hml, hown, hts⟩ (kX3_isAhead l D r va na ra cJ cI v nu rk n b fl me st lk cm (v i) (v k)) (cwV 2 hts gX3_countRank_X3_isAhead rfl rfl rfl (by decide +kernel) ⟨Nat.le_of_ble_eq_true rfl, Nat.le_of_ble_eq_true rfl⟩) hK hN hP hS hA [0, 1, 2, 3] [0, 1] rfl rfl 0 2 rfl rfl rfl rfl hl.1 rfl (Nat.le_of_ble_eq_true rfl) dX3_countRank_58 ⟨Nat.zero_le _, Nat.zero_le _⟩ (fun H locs hz9 hP hS => ?_)
          refine wv_ifeqB (tgt := 67) hx hb dX3_countRank_61 (by decide) (fun c61 => ?_) (fun c61 => ?_)
          · skip
            refine lv_iinc (v := nI (i + 1)) (lv' := [(3, .int (nI (i + 1))), (4, .int (nI 0)), (0, .ref r), (1, .int (nI k)), (2, .int (nI (cnt (rkp fl v k) i)))]) hx hb dX3_countRank_67 hl (k := 4) rfl (nI_1 _) (by decide) rfl (fun ls hl => ?_)
            refine lv_goto (tgt := 4) hx hb dX3_countRank_70 (by decide) ?_
            have el_l2 : cnt (rkp fl v k) (i + 1) = cnt (rkp fl v k) i := by first | exact cnt_t (rkp_t1 c61) | exact cnt_t (rkp_t2 c14 c30) | exact cnt_f (rkp_f (fun z => absurd z.1 (by omega)) c61) | exact cnt_f (rkp_f (fun z => c30 z.2) c61)
            exact ih4 (i + 1) (by omega) (by first | assumption | omega) _ _ (by first | (rw [el_l2]; exact hP) | (simp only [el_l2]; exact hP) | exact hP) hS ls (by first | (rw [el_l2]; exact lv_sub hl [2, 3, 4, 0] rfl) | (simp only [el_l2]; exact lv_sub hl [2, 3, 4, 0] rfl) | exact lv_sub hl [2, 3, 4, 0] rfl)
          · skip
            refine lv_iinc (v := nI (cnt (rkp fl v k) i + 1)) (lv' := [(2, .int (nI (cnt (rkp fl v k) i + 1))), (4, .int (nI 0)), (0, .ref r), (1, .int (nI k)), (3, .int (nI i))]) hx hb dX3_countRank_64 hl (k := 3) rfl (nI_1 _) (by decide) rfl (fun ls hl => ?_)
            refine lv_iinc (v := nI (i + 1)) (lv' := [(3, .int (nI (i + 1))), (2, .int (nI (cnt (rkp fl v k) i + 1))), (4, .int (nI 0)), (0, .ref r), (1, .int (nI k))]) hx hb dX3_countRank_67 hl (k := 4) rfl (nI_1 _) (by decide) rfl (fun ls hl => ?_)
            refine lv_goto (tgt := 4) hx hb dX3_countRank_70 (by decide) ?_
            have el_l2 : cnt (rkp fl v k) (i + 1) = cnt (rkp fl v k) i + 1 := by first | exact cnt_t (rkp_t1 c61) | exact cnt_t (rkp_t2 c14 c30) | exact cnt_f (rkp_f (fun z => absurd z.1 (by omega)) c61) | exact cnt_f (rkp_f (fun z => c30 z.2) c61)
            exact ih4 (i + 1) (by omega) (by first | assumption | omega) _ _ (by first | (rw [el_l2]; exact hP) | (simp only [el_l2]; exact hP) | exact hP) hS ls (by first | (rw [el_l2]; exact lv_sub hl [3, 4, 1, 0] rfl) | (simp only [el_l2]; exact lv_sub hl [3, 4, 1, 0] rfl) | exact lv_sub hl [3, 4, 1, 0] rfl)
        · skip
          refine lv_aload_n hx hb dX3_countRank_17 rfl (lv_at hl 0 rfl) ?_
          refine va_get (D := D) (ci := 2) (C := RX3) (T := TX3) (N := 10) hx hb hts hinX3 hown hK hP 0 rfl rfl 0 (by decide) (hts (.fieldLink RX3 9 "NearRanks$Row" "values" "[J") (by decide +kernel)) (fun _ h9 => h9) rfl dX3_countRank_18 ?_
          refine lv_iload_n hx hb dX3_countRank_21 rfl (lv_at hl 3 rfl) ?_
          refine wv_lald hx hb hK hP 1 0 rfl rfl (k := i) (by omega) (by decide) dX3_countRank_22 ?_
          refine lv_aload_n hx hb dX3_countRank_23 rfl (lv_at hl 0 rfl) ?_
          refine va_get (D := D) (ci := 2) (C := RX3) (T := TX3) (N := 10) hx hb hts hinX3 hown hK hP 0 rfl rfl 0 (by decide) (hts (.fieldLink RX3 9 "NearRanks$Row" "values" "[J") (by decide +kernel)) (fun _ h9 => h9) rfl dX3_countRank_24 ?_
          refine lv_iload_n hx hb dX3_countRank_27 rfl (lv_at hl 1 rfl) ?_
          refine wv_lald hx hb hK hP 1 0 rfl rfl (k := k) (by omega) (by decide) dX3_countRank_28 ?_
          refine wv_lc_ne (tgt := 37) hx hb dX3_countRank_29 dX3_countRank_30 (by decide) (fun c30 => ?_) (fun c30 => ?_)
          · skip
            refine lv_iconst (v := nI 0) hx hb dX3_countRank_37 (by decide) ?_
            refine lv_istore (lv' := [(4, .int (nI 0)), (0, .ref r), (1, .int (nI k)), (2, .int (nI (cnt (rkp fl v k) i))), (3, .int (nI i))]) hx hb dX3_countRank_38 hl (by decide) rfl (fun ls hl => ?_)
            refine lv_iload hx hb dX3_countRank_40 (lv_at hl 0 rfl) ?_
            refine lv_if_ne (tgt := 64) hx hb dX3_countRank_42 (by decide) (fun h => absurd h (by decide)) (fun _ => ?_)
            refine lv_aload_n hx hb dX3_countRank_45 rfl (lv_at hl 1 rfl) ?_
            refine lv_aload_n hx hb dX3_countRank_46 rfl (lv_at hl 1 rfl) ?_
            refine va_get (D := D) (ci := 2) (C := RX3) (T := TX3) (N := 10) hx hb hts hinX3 hown hK hP 0 rfl rfl 0 (by decide) (hts (.fieldLink RX3 9 "NearRanks$Row" "values" "[J") (by decide +kernel)) (fun _ h9 => h9) rfl dX3_countRank_47 ?_
            refine lv_iload_n hx hb dX3_countRank_50 rfl (lv_at hl 4 rfl) ?_
            refine wv_lald hx hb hK hP 1 0 rfl rfl (k := i) (by omega) (by decide) dX3_countRank_51 ?_
            refine lv_aload_n hx hb dX3_countRank_52 rfl (lv_at hl 1 rfl) ?_
            refine va_get (D := D) (ci := 2) (C := RX3) (T := TX3) (N := 10) hx hb hts hinX3 hown hK hP 0 rfl rfl 0 (by decide) (hts (.fieldLink RX3 9 "NearRanks$Row" "values" "[J") (by decide +kernel)) (fun _ h9 => h9) rfl dX3_countRank_53 ?_
            refine lv_iload_n hx hb dX3_countRank_56 rfl (lv_at hl 2 rfl) ?_
            refine wv_lald hx hb hK hP 1 0 rfl rfl (k := k) (by omega) (by decide) dX3_countRank_57 ?_
            refine wv_callPi (As := [.long (v i), .long (v k)]) (rest := []) ⟨hx, hb, hml, hown, hts⟩ (kX3_isAhead l D r va na ra cJ cI v nu rk n b fl me st lk cm (v i) (v k)) (cwV 2 hts gX3_countRank_X3_isAhead rfl rfl rfl (by decide +kernel) ⟨Nat.le_of_ble_eq_true rfl, Nat.le_of_ble_eq_true rfl⟩) hK hN hP hS hA [0, 1, 2, 3] [0, 1] rfl rfl 0 2 rfl rfl rfl rfl hl.1 rfl (Nat.le_of_ble_eq_true rfl) dX3_countRank_58 ⟨Nat.zero_le _, Nat.zero_le _⟩ (fun H locs hz9 hP hS => ?_)
            refine wv_ifeqB (tgt := 67) hx hb dX3_countRank_61 (by decide) (fun c61 => ?_) (fun c61 => ?_)
            · skip
              refine lv_iinc (v := nI (i + 1)) (lv' := [(3, .int (nI (i + 1))), (4, .int (nI 0)), (0, .ref r), (1, .int (nI k)), (2, .int (nI (cnt (rkp fl v k) i)))]) hx hb dX3_countRank_67 hl (k := 4) rfl (nI_1 _) (by decide) rfl (fun ls hl => ?_)
              refine lv_goto (tgt := 4) hx hb dX3_countRank_70 (by decide) ?_
              have el_l2 : cnt (rkp fl v k) (i + 1) = cnt (rkp fl v k) i := by first | exact cnt_t (rkp_t1 c61) | exact cnt_t (rkp_t2 c14 c30) | exact cnt_f (rkp_f (fun z => absurd z.1 (by omega)) c61) | exact cnt_f (rkp_f (fun z => c30 z.2) c61)
              exact ih4 (i + 1) (by omega) (by first | assumption | omega) _ _ (by first | (rw [el_l2]; exact hP) | (simp only [el_l2]; exact hP) | exact hP) hS ls (by first | (rw [el_l2]; exact lv_sub hl [2, 3, 4, 0] rfl) | (simp only [el_l2]; exact lv_sub hl [2, 3, 4, 0] rfl) | exact lv_sub hl [2, 3, 4, 0] rfl)
            · skip
              refine lv_iinc (v := nI (cnt (rkp fl v k) i + 1)) (lv' := [(2, .int (nI (cnt (rkp fl v k) i + 1))), (4, .int (nI 0)), (0, .ref r), (1, .int (nI k)), (3, .int (nI i))]) hx hb dX3_countRank_64 hl (k := 3) rfl (nI_1 _) (by decide) rfl (fun ls hl => ?_)
              refine lv_iinc (v := nI (i + 1)) (lv' := [(3, .int (nI (i + 1))), (2, .int (nI (cnt (rkp fl v k) i + 1))), (4, .int (nI 0)), (0, .ref r), (1, .int (nI k))]) hx hb dX3_countRank_67 hl (k := 4) rfl (nI_1 _) (by decide) rfl (fun ls hl => ?_)
              refine lv_goto (tgt := 4) hx hb dX3_countRank_70 (by decide) ?_
              have el_l2 : cnt (rkp fl v k) (i + 1) = cnt (rkp fl v k) i + 1 := by first | exact cnt_t (rkp_t1 c61) | exact cnt_t (rkp_t2 c14 c30) | exact cnt_f (rkp_f (fun z => absurd z.1 (by omega)) c61) | exact cnt_f (rkp_f (fun z => c30 z.2) c61)
              exact ih4 (i + 1) (by omega) (by first | assumption | omega) _ _ (by first | (rw [el_l2]; exact hP) | (simp only [el_l2]; exact hP) | exact hP) hS ls (by first | (rw [el_l2]; exact lv_sub hl [3, 4, 1, 0] rfl) | (simp only [el_l2]; exact lv_sub hl [3, 4, 1, 0] rfl) | exact lv_sub hl [3, 4, 1, 0] rfl)
          · skip
            refine lv_iconst (v := nI 1) hx hb dX3_countRank_33 (by decide) ?_
            refine lv_goto (tgt := 38) hx hb dX3_countRank_34 (by decide) ?_
            refine lv_istore (lv' := [(4, .int (nI 1)), (0, .ref r), (1, .int (nI k)), (2, .int (nI (cnt (rkp fl v k) i))), (3, .int (nI i))]) hx hb dX3_countRank_38 hl (by decide) rfl (fun ls hl => ?_)
            refine lv_iload hx hb dX3_countRank_40 (lv_at hl 0 rfl) ?_
            refine lv_if_ne (tgt := 64) hx hb dX3_countRank_42 (by decide) (fun _ => ?_) (fun h => absurd h (by decide))
            refine lv_iinc (v := nI (cnt (rkp fl v k) i + 1)) (lv' := [(2, .int (nI (cnt (rkp fl v k) i + 1))), (4, .int (nI 1)), (0, .ref r), (1, .int (nI k)), (3, .int (nI i))]) hx hb dX3_countRank_64 hl (k := 3) rfl (nI_1 _) (by decide) rfl (fun ls hl => ?_)
            refine lv_iinc (v := nI (i + 1)) (lv' := [(3, .int (nI (i + 1))), (2, .int (nI (cnt (rkp fl v k) i + 1))), (4, .int (nI 1)), (0, .ref r), (1, .int (nI k))]) hx hb dX3_countRank_67 hl (k := 4) rfl (nI_1 _) (by decide) rfl (fun ls hl => ?_)
            refine lv_goto (tgt := 4) hx hb dX3_countRank_70 (by decide) ?_
            have el_l2 : cnt (rkp fl v k) (i + 1) = cnt (rkp fl v k) i + 1 := by first | exact cnt_t (rkp_t1 c61) | exact cnt_t (rkp_t2 c14 c30) | exact cnt_f (rkp_f (fun z => absurd z.1 (by omega)) c61) | exact cnt_f (rkp_f (fun z => c30 z.2) c61)
            exact ih4 (i + 1) (by omega) (by first | assumption | omega) _ _ (by first | (rw [el_l2]; exact hP) | (simp only [el_l2]; exact hP) | exact hP) hS ls (by first | (rw [el_l2]; exact lv_sub hl [3, 4, 1, 0] rfl) | (simp only [el_l2]; exact lv_sub hl [3, 4, 1, 0] rfl) | exact lv_sub hl [3, 4, 1, 0] rfl)
  exact loop4 (n - 0 + 1) 0 (by omega) (by first | assumption | omega) _ _ (by first | (rw [el_l2]; exact hP) | (simp only [el_l2]; exact hP) | exact hP) hS ls (by first | (rw [el_l2]; exact lv_sub hl [2, 3, 1, 0] rfl) | (simp only [el_l2]; exact lv_sub hl [2, 3, 1, 0] rfl) | exact lv_sub hl [2, 3, 1, 0] rfl)

set_option maxHeartbeats 4000000 in
set_option maxRecDepth 100000 in
theorem kX3_placeOfRank (l : Launch) (D : va_G) (r : Nat) (va : Nat) (na : Nat) (ra : Nat) (cJ : ClassId) (cI : ClassId) (v : Nat → Int64) (nu : Nat → Int32) (rk : Nat → Int32) (n : Nat) (b : Nat) (fl : Bool) (me : Bool) (st : Int32) (lk : Int32) (cm : Int32) (x : Int32) (hn : n ≤ 32) : PMi l yX3_placeOfRank wsX3_placeOfRank ({ frames := 0, cells := 0, slots := 0, locals := 0 } : Room) [.ref r, .int x] D (RowC r va na ra cJ cI v nu rk n b fl me st lk cm) [(cJ, .long), (cI, .int)] (oI (fst0 (fun o => decide (rk o = x)) n)) := by
  refine PMi_of (cc := cX3_placeOfRank) (maxL := 3) (ret := some .int) (by decide +kernel) rfl (Nat.le_of_ble_eq_true rfl) ?_
  intro p e s m args below meth c hx hb hr hts hown hlocks hml hP hK hN ls hl
  have hown : s.vm.findClass RX3 = some m.cls := hown
  have hl : lv_has ls 3 [(0, .ref r), (1, .int x)] := hl
  have hS : va_S (va_A [] s.heap.size) s.heap s.heap [] := va_S.rf
  have hA := wk_hA [] s.heap.size
  have hD9 : True := trivial
  have hinX3 : ∀ w ∈ wsX30, w ∈ wsX3_placeOfRank := by decide +kernel
  refine lv_iconst (v := nI 0) hx hb dX3_placeOfRank_0 (by decide) ?_
  refine lv_istore_n (lv' := [(2, .int (nI 0)), (0, .ref r), (1, .int x)]) hx hb dX3_placeOfRank_1 rfl hl (by decide) rfl (fun ls hl => ?_)
  have loop2 : ∀ (K : Nat) (i : Nat), n - i < K → i ≤ n → fst0 (fun o => decide (rk o = x)) n = fnr (fun o => decide (rk o = x)) i (n - i) → ∀ (H : Heap) (locs : List Loc), va_P D vwCl (RowC r va na ra cJ cI v nu rk n b fl me st lk cm) H → va_S (va_A [] s.heap.size) s.heap H locs → ∀ ls : Array Slot, lv_has ls 3 [(0, .ref r), (1, .int x), (2, .int (nI i))] → W p l e ({ frames := 0, cells := 0, slots := 0, locals := 0 } : Room) s m args below meth c H locs 0 0 (ZPi below args s (oI (fst0 (fun o => decide (rk o = x)) n))) (F0 m 2 ls []) := by
    intro K
    induction K with
    | zero => intro i hK0; exact absurd hK0 (Nat.not_lt_zero _)
    | succ K ih2 =>
      intro i hKm hi hf H locs hP hS ls hl
      refine lv_iload_n hx hb dX3_placeOfRank_2 rfl (lv_at hl 2 rfl) ?_
      refine lv_aload_n hx hb dX3_placeOfRank_3 rfl (lv_at hl 0 rfl) ?_
      refine va_get (D := D) (ci := 2) (C := RX3) (T := TX3) (N := 10) hx hb hts hinX3 hown hK hP 0 rfl rfl 3 (by decide) (hts (.fieldLink RX3 32 "NearRanks$Row" "size" "I") (by decide +kernel)) (fun _ h9 => h9) rfl dX3_placeOfRank_4 ?_
      refine wv_icmp_ge (tgt := 28) hx hb (by omega) (by omega) dX3_placeOfRank_7 (by decide) (fun c7 => ?_) (fun c7 => ?_)
      · skip
        refine lv_sipush (v := (-1000)) hx hb dX3_placeOfRank_28 (by decide) ?_
        exact wv_iretP hx hb hr hlocks hS (by rw [hf, show n - i = 0 by omega]; rfl) dX3_placeOfRank_31
      · skip
        refine lv_aload_n hx hb dX3_placeOfRank_10 rfl (lv_at hl 0 rfl) ?_
        refine va_get (D := D) (ci := 2) (C := RX3) (T := TX3) (N := 10) hx hb hts hinX3 hown hK hP 0 rfl rfl 2 (by decide) (hts (.fieldLink RX3 19 "NearRanks$Row" "ranks" "[I") (by decide +kernel)) (fun _ h9 => h9) rfl dX3_placeOfRank_11 ?_
        refine lv_iload_n hx hb dX3_placeOfRank_14 rfl (lv_at hl 2 rfl) ?_
        refine wv_iald hx hb hK hP 3 1 rfl rfl (k := i) (by omega) (by decide) dX3_placeOfRank_15 ?_
        refine lv_iload_n hx hb dX3_placeOfRank_16 rfl (lv_at hl 1 rfl) ?_
        refine lv_icmp_ne (tgt := 22) hx hb dX3_placeOfRank_17 (by decide) (fun c17 => ?_) (fun c17 => ?_)
        · skip
          refine lv_iinc (v := nI (i + 1)) (lv' := [(2, .int (nI (i + 1))), (0, .ref r), (1, .int x)]) hx hb dX3_placeOfRank_22 hl (k := 2) rfl (nI_1 _) (by decide) rfl (fun ls hl => ?_)
          refine lv_goto (tgt := 2) hx hb dX3_placeOfRank_25 (by decide) ?_
          exact ih2 (i + 1) (by omega) (by first | assumption | omega) (by rw [hf, show n - i = (n - (i + 1)) + 1 by omega, fnr_s, if_neg (by simpa using c17)]) _ _ hP hS ls (lv_sub hl [1, 2, 0] rfl)
        · skip
          refine lv_iload_n hx hb dX3_placeOfRank_20 rfl (lv_at hl 2 rfl) ?_
          exact wv_iretP hx hb hr hlocks hS (by rw [hf, show n - i = (n - (i + 1)) + 1 by omega, fnr_s, if_pos (by simpa using c17)]; rfl) dX3_placeOfRank_21
  exact loop2 (n - 0 + 1) 0 (by omega) (by first | assumption | omega) (by rfl) _ _ hP hS ls (lv_sub hl [1, 2, 0] rfl)

set_option maxHeartbeats 4000000 in
set_option maxRecDepth 100000 in
theorem kX3_brokenSet (l : Launch) (D : va_G) (r : Nat) (va : Nat) (na : Nat) (ra : Nat) (cJ : ClassId) (cI : ClassId) (v : Nat → Int64) (nu : Nat → Int32) (rk : Nat → Int32) (n : Nat) (b : Nat) (fl : Bool) (me : Bool) (st : Int32) (lk : Int32) (cm : Int32) (hn : n ≤ 32) (hb : b ≤ 31) (hrk : ∀ i, i < n → rk i = nI (rk0 fl v n i)) : PMl l yX3_brokenSet wsX3_brokenSet ({ frames := 3, cells := 0, slots := 0, locals := 63 } : Room) [.ref r] D (RowC r va na ra cJ cI v nu rk n b fl me st lk cm) [(cJ, .long), (cI, .int)] (bst fl v n b n) := by
  refine PMl_of (cc := cX3_brokenSet) (maxL := 4) (ret := some .long) (by decide +kernel) rfl (Nat.le_of_ble_eq_true rfl) ?_
  intro p e s m args below meth c hx hb hr hts hown hlocks hml hP hK hN ls hl
  have hown : s.vm.findClass RX3 = some m.cls := hown
  have hl : lv_has ls 4 [(0, .ref r)] := hl
  have hS : va_S (va_A [] s.heap.size) s.heap s.heap [] := va_S.rf
  have hA := wk_hA [] s.heap.size
  have hD9 : True := trivial
  have hinX3 : ∀ w ∈ wsX30, w ∈ wsX3_brokenSet := by decide +kernel
  refine lv_lconst (v := lN 0) hx hb dX3_brokenSet_0 rfl ?_
  refine lv_lstore_n (lv' := [(1, .long (lN 0)), (0, .ref r)]) hx hb dX3_brokenSet_1 rfl hl (by decide) rfl (fun ls hl => ?_)
  refine lv_iconst (v := nI 0) hx hb dX3_brokenSet_2 (by decide) ?_
  refine lv_istore_n (lv' := [(3, .int (nI 0)), (1, .long (lN 0)), (0, .ref r)]) hx hb dX3_brokenSet_3 rfl hl (by decide) rfl (fun ls hl => ?_)
  have el_l1 : bst fl v n b 0 = lN 0 := by rfl
  have loop4 : ∀ (K : Nat) (i : Nat), n - i < K → i ≤ n → ∀ (H : Heap) (locs : List Loc), va_P D vwCl (RowC r va na ra cJ cI v nu rk n b fl me st lk cm) H → va_S (va_A [] s.heap.size) s.heap H locs → ∀ ls : Array Slot, lv_has ls 4 [(0, .ref r), (1, .long (bst fl v n b i)), (3, .int (nI i))] → W p l e ({ frames := 3, cells := 0, slots := 0, locals := 63 } : Room) s m args below meth c H locs 0 0 (ZPl below args s (bst fl v n b n)) (F0 m 4 ls []) := by
    intro K
    induction K with
    | zero => intro i hK0; exact absurd hK0 (Nat.not_lt_zero _)
    | succ K ih4 =>
      intro i hKm hi H locs hP hS ls hl
      refine lv_iload_n hx hb dX3_brokenSet_4 rfl (lv_at hl 2 rfl) ?_
      refine lv_aload_n hx hb dX3_brokenSet_5 rfl (lv_at hl 0 rfl) ?_
      refine va_get (D := D) (ci := 2) (C := RX3) (T := TX3) (N := 10) hx hb hts hinX3 hown hK hP 0 rfl rfl 3 (by decide) (hts (.fieldLink RX3 32 "NearRanks$Row" "size" "I") (by decide +kernel)) (fun _ h9 => h9) rfl dX3_brokenSet_6 ?_
      refine wv_icmp_ge (tgt := 32) hx hb (by omega) (by omega) dX3_brokenSet_9 (by decide) (fun c9 => ?_) (fun c9 => ?_)
      · skip
        refine lv_lload_n hx hb dX3_brokenSet_32 rfl (lv_at hl 1 rfl) ?_
        exact wv_lretP hx hb hr hlocks hS (by rw [show i = n by omega]) dX3_brokenSet_33
      · skip
        refine lv_aload_n hx hb dX3_brokenSet_12 rfl (lv_at hl 0 rfl) ?_
        refine lv_iload_n hx hb dX3_brokenSet_13 rfl (lv_at hl 2 rfl) ?_
        refine wv_callPi (As := [.int (nI i)]) (rest := []) ⟨hx, hb, hml, hown, hts⟩ (kX3_isBroken l D r va na ra cJ cI v nu rk n b fl me st lk cm i (by first | assumption | omega) (by first | assumption | omega) (by first | assumption | omega) (by first | assumption | omega)) (cwV 1 hts gX3_brokenSet_X3_isBroken rfl rfl rfl (by decide +kernel) ⟨Nat.le_of_ble_eq_true rfl, Nat.le_of_ble_eq_true rfl⟩) hK hN hP hS hA [0, 1, 2, 3] [0, 1] rfl rfl 0 2 rfl rfl rfl rfl hl.1 rfl (Nat.le_of_ble_eq_true rfl) dX3_brokenSet_14 ⟨Nat.zero_le _, Nat.zero_le _⟩ (fun H locs hz9 hP hS => ?_)
        refine wv_ifeqB (tgt := 26) hx hb dX3_brokenSet_17 (by decide) (fun c17 => ?_) (fun c17 => ?_)
        · skip
          refine lv_iinc (v := nI (i + 1)) (lv' := [(3, .int (nI (i + 1))), (0, .ref r), (1, .long (bst fl v n b i))]) hx hb dX3_brokenSet_26 hl (k := 2) rfl (nI_1 _) (by decide) rfl (fun ls hl => ?_)
          refine lv_goto (tgt := 4) hx hb dX3_brokenSet_29 (by decide) ?_
          have el_l1 : bst fl v n b (i + 1) = bst fl v n b i := by first | exact if_pos c17 | exact if_neg (by rw [c17]; decide)
          exact ih4 (i + 1) (by omega) (by first | assumption | omega) _ _ (by first | (rw [el_l1]; exact hP) | (simp only [el_l1]; exact hP) | exact hP) hS ls (by first | (rw [el_l1]; exact lv_sub hl [1, 2, 0] rfl) | (simp only [el_l1]; exact lv_sub hl [1, 2, 0] rfl) | exact lv_sub hl [1, 2, 0] rfl)
        · skip
          refine lv_lload_n hx hb dX3_brokenSet_20 rfl (lv_at hl 1 rfl) ?_
          refine lv_lconst (v := lN 1) hx hb dX3_brokenSet_21 rfl ?_
          refine lv_iload_n hx hb dX3_brokenSet_22 rfl (lv_at hl 2 rfl) ?_
          refine lv_lshl (v := (lN 1) <<< ((nI i).toInt64 &&& 63)) hx hb dX3_brokenSet_23 rfl ?_
          refine lv_lor hx hb dX3_brokenSet_24 ?_
          refine lv_lstore_n (lv' := [(1, .long ((bst fl v n b i) ||| ((lN 1) <<< ((nI i).toInt64 &&& 63)))), (0, .ref r), (3, .int (nI i))]) hx hb dX3_brokenSet_25 rfl hl (by decide) rfl (fun ls hl => ?_)
          refine lv_iinc (v := nI (i + 1)) (lv' := [(3, .int (nI (i + 1))), (1, .long ((bst fl v n b i) ||| ((lN 1) <<< ((nI i).toInt64 &&& 63)))), (0, .ref r)]) hx hb dX3_brokenSet_26 hl (k := 2) rfl (nI_1 _) (by decide) rfl (fun ls hl => ?_)
          refine lv_goto (tgt := 4) hx hb dX3_brokenSet_29 (by decide) ?_
          have el_l1 : bst fl v n b (i + 1) = (bst fl v n b i) ||| ((lN 1) <<< ((nI i).toInt64 &&& 63)) := by first | exact if_pos c17 | exact if_neg (by rw [c17]; decide)
          exact ih4 (i + 1) (by omega) (by first | assumption | omega) _ _ (by first | (rw [el_l1]; exact hP) | (simp only [el_l1]; exact hP) | exact hP) hS ls (by first | (rw [el_l1]; exact lv_sub hl [2, 1, 0] rfl) | (simp only [el_l1]; exact lv_sub hl [2, 1, 0] rfl) | exact lv_sub hl [2, 1, 0] rfl)
  exact loop4 (n - 0 + 1) 0 (by omega) (by first | assumption | omega) _ _ (by first | (rw [el_l1]; exact hP) | (simp only [el_l1]; exact hP) | exact hP) hS ls (by first | (rw [el_l1]; exact lv_sub hl [2, 1, 0] rfl) | (simp only [el_l1]; exact lv_sub hl [2, 1, 0] rfl) | exact lv_sub hl [2, 1, 0] rfl)

set_option maxHeartbeats 4000000 in
set_option maxRecDepth 100000 in
theorem kX3_inversionsOf (l : Launch) (D : va_G) (r : Nat) (va : Nat) (na : Nat) (ra : Nat) (cJ : ClassId) (cI : ClassId) (v : Nat → Int64) (nu : Nat → Int32) (rk : Nat → Int32) (n : Nat) (b : Nat) (fl : Bool) (me : Bool) (st : Int32) (lk : Int32) (cm : Int32) (k : Nat) (hn : n ≤ 32) (hk : k < n) : PMi l yX3_inversionsOf wsX3_inversionsOf ({ frames := 1, cells := 0, slots := 0, locals := 24 } : Room) [.ref r, .int (nI k)] D (RowC r va na ra cJ cI v nu rk n b fl me st lk cm) [(cJ, .long), (cI, .int)] (nI (ivo fl v n k)) := by
  refine PMi_of (cc := cX3_inversionsOf) (maxL := 4) (ret := some .int) (by decide +kernel) rfl (Nat.le_of_ble_eq_true rfl) ?_
  intro p e s m args below meth c hx hb hr hts hown hlocks hml hP hK hN ls hl
  have hown : s.vm.findClass RX3 = some m.cls := hown
  have hl : lv_has ls 4 [(0, .ref r), (1, .int (nI k))] := hl
  have hS : va_S (va_A [] s.heap.size) s.heap s.heap [] := va_S.rf
  have hA := wk_hA [] s.heap.size
  have hD9 : True := trivial
  have hinX3 : ∀ w ∈ wsX30, w ∈ wsX3_inversionsOf := by decide +kernel
  refine lv_iconst (v := nI 0) hx hb dX3_inversionsOf_0 (by decide) ?_
  refine lv_istore_n (lv' := [(2, .int (nI 0)), (0, .ref r), (1, .int (nI k))]) hx hb dX3_inversionsOf_1 rfl hl (by decide) rfl (fun ls hl => ?_)
  refine lv_iconst (v := nI 0) hx hb dX3_inversionsOf_2 (by decide) ?_
  refine lv_istore_n (lv' := [(3, .int (nI 0)), (2, .int (nI 0)), (0, .ref r), (1, .int (nI k))]) hx hb dX3_inversionsOf_3 rfl hl (by decide) rfl (fun ls hl => ?_)
  have el_l2 : cnt (ivp fl v k) 0 = 0 := by rfl
  have loop4 : ∀ (K : Nat) (i : Nat), k - i < K → i ≤ k → ∀ (H : Heap) (locs : List Loc), va_P D vwCl (RowC r va na ra cJ cI v nu rk n b fl me st lk cm) H → va_S (va_A [] s.heap.size) s.heap H locs → ∀ ls : Array Slot, lv_has ls 4 [(0, .ref r), (1, .int (nI k)), (2, .int (nI (cnt (ivp fl v k) i))), (3, .int (nI i))] → W p l e ({ frames := 1, cells := 0, slots := 0, locals := 24 } : Room) s m args below meth c H locs 0 0 (ZPi below args s (nI (ivo fl v n k))) (F0 m 4 ls []) := by
    intro K
    induction K with
    | zero => intro i hK0; exact absurd hK0 (Nat.not_lt_zero _)
    | succ K ih4 =>
      intro i hKm hi H locs hP hS ls hl
      refine lv_iload_n hx hb dX3_inversionsOf_4 rfl (lv_at hl 3 rfl) ?_
      refine lv_iload_n hx hb dX3_inversionsOf_5 rfl (lv_at hl 1 rfl) ?_
      refine wv_icmp_ge (tgt := 37) hx hb (by omega) (by omega) dX3_inversionsOf_6 (by decide) (fun c6 => ?_) (fun c6 => ?_)
      · skip
        refine lv_iload_n hx hb dX3_inversionsOf_37 rfl (lv_at hl 1 rfl) ?_
        refine lv_iconst (v := nI 1) hx hb dX3_inversionsOf_38 (by decide) ?_
        refine lv_iadd hx hb dX3_inversionsOf_39 ?_
        refine wv_ti (nI_add _ _) ?_
        refine lv_istore_n (lv' := [(3, .int (nI (k + 1))), (0, .ref r), (1, .int (nI k)), (2, .int (nI (cnt (ivp fl v k) i)))]) hx hb dX3_inversionsOf_40 rfl hl (by decide) rfl (fun ls hl => ?_)
        have el_l2 : cnt (ivp fl v k) (k + 1) = cnt (ivp fl v k) i := by rw [show i = k by omega]; exact cnt_f ivp_eq
        have loop41 : ∀ (K : Nat) (j : Nat), n - j < K → k < j → j ≤ n → ∀ (H : Heap) (locs : List Loc), va_P D vwCl (RowC r va na ra cJ cI v nu rk n b fl me st lk cm) H → va_S (va_A [] s.heap.size) s.heap H locs → ∀ ls : Array Slot, lv_has ls 4 [(0, .ref r), (1, .int (nI k)), (2, .int (nI (cnt (ivp fl v k) j))), (3, .int (nI j))] → W p l e ({ frames := 1, cells := 0, slots := 0, locals := 24 } : Room) s m args below meth c H locs 0 0 (ZPi below args s (nI (ivo fl v n k))) (F0 m 41 ls []) := by
          intro K
          induction K with
          | zero => intro j hK0; exact absurd hK0 (Nat.not_lt_zero _)
          | succ K ih41 =>
            intro j hKm hj hj2 H locs hP hS ls hl
            refine lv_iload_n hx hb dX3_inversionsOf_41 rfl (lv_at hl 3 rfl) ?_
            refine lv_aload_n hx hb dX3_inversionsOf_42 rfl (lv_at hl 0 rfl) ?_
            refine va_get (D := D) (ci := 2) (C := RX3) (T := TX3) (N := 10) hx hb hts hinX3 hown hK hP 0 rfl rfl 3 (by decide) (hts (.fieldLink RX3 32 "NearRanks$Row" "size" "I") (by decide +kernel)) (fun _ h9 => h9) rfl dX3_inversionsOf_43 ?_
            refine wv_icmp_ge (tgt := 77) hx hb (by omega) (by omega) dX3_inversionsOf_46 (by decide) (fun c46 => ?_) (fun c46 => ?_)
            · skip
              refine lv_iload_n hx hb dX3_inversionsOf_77 rfl (lv_at hl 2 rfl) ?_
              exact wv_iretP hx hb hr hlocks hS (by rw [show j = n by omega]; rfl) dX3_inversionsOf_78
            · skip
              refine lv_aload_n hx hb dX3_inversionsOf_49 rfl (lv_at hl 0 rfl) ?_
              refine lv_aload_n hx hb dX3_inversionsOf_50 rfl (lv_at hl 0 rfl) ?_
              refine va_get (D := D) (ci := 2) (C := RX3) (T := TX3) (N := 10) hx hb hts hinX3 hown hK hP 0 rfl rfl 0 (by decide) (hts (.fieldLink RX3 9 "NearRanks$Row" "values" "[J") (by decide +kernel)) (fun _ h9 => h9) rfl dX3_inversionsOf_51 ?_
              refine lv_iload_n hx hb dX3_inversionsOf_54 rfl (lv_at hl 3 rfl) ?_
              refine wv_lald hx hb hK hP 1 0 rfl rfl (k := j) (by omega) (by decide) dX3_inversionsOf_55 ?_
              refine lv_aload_n hx hb dX3_inversionsOf_56 rfl (lv_at hl 0 rfl) ?_
              refine va_get (D := D) (ci := 2) (C := RX3) (T := TX3) (N := 10) hx hb hts hinX3 hown hK hP 0 rfl rfl 0 (by decide) (hts (.fieldLink RX3 9 "NearRanks$Row" "values" "[J") (by decide +kernel)) (fun _ h9 => h9) rfl dX3_inversionsOf_57 ?_
              refine lv_iload_n hx hb dX3_inversionsOf_60 rfl (lv_at hl 1 rfl) ?_
              refine wv_lald hx hb hK hP 1 0 rfl rfl (k := k) (by omega) (by decide) dX3_inversionsOf_61 ?_
              refine wv_callPi (As := [.long (v j), .long (v k)]) (rest := []) ⟨hx, hb, hml, hown, hts⟩ (kX3_isAhead l D r va na ra cJ cI v nu rk n b fl me st lk cm (v j) (v k)) (cwV 2 hts gX3_inversionsOf_X3_isAhead rfl rfl rfl (by decide +kernel) ⟨Nat.le_of_ble_eq_true rfl, Nat.le_of_ble_eq_true rfl⟩) hK hN hP hS hA [0, 1, 2, 3] [0, 1] rfl rfl 0 2 rfl rfl rfl rfl hl.1 rfl (Nat.le_of_ble_eq_true rfl) dX3_inversionsOf_62 ⟨Nat.zero_le _, Nat.zero_le _⟩ (fun H locs hz9 hP hS => ?_)
              refine wv_ifeqB (tgt := 71) hx hb dX3_inversionsOf_65 (by decide) (fun c65 => ?_) (fun c65 => ?_)
              · skip
                refine lv_iinc (v := nI (j + 1)) (lv' := [(3, .int (nI (j + 1))), (0, .ref r), (1, .int (nI k)), (2, .int (nI (cnt (ivp fl v k) j)))]) hx hb dX3_inversionsOf_71 hl (k := 3) rfl (nI_1 _) (by decide) rfl (fun ls hl => ?_)
                refine lv_goto (tgt := 41) hx hb dX3_inversionsOf_74 (by decide) ?_
                have el_l2 : cnt (ivp fl v k) (j + 1) = cnt (ivp fl v k) j := by first | exact cnt_t (by rw [ivp_gt hj]; exact c65) | exact cnt_f (by rw [ivp_gt hj]; exact c65)
                exact ih41 (j + 1) (by omega) (by first | assumption | omega) (by first | assumption | omega) _ _ (by first | (rw [el_l2]; exact hP) | (simp only [el_l2]; exact hP) | exact hP) hS ls (by first | (rw [el_l2]; exact lv_sub hl [1, 2, 3, 0] rfl) | (simp only [el_l2]; exact lv_sub hl [1, 2, 3, 0] rfl) | exact lv_sub hl [1, 2, 3, 0] rfl)
              · skip
                refine lv_iinc (v := nI (cnt (ivp fl v k) j + 1)) (lv' := [(2, .int (nI (cnt (ivp fl v k) j + 1))), (0, .ref r), (1, .int (nI k)), (3, .int (nI j))]) hx hb dX3_inversionsOf_68 hl (k := 2) rfl (nI_1 _) (by decide) rfl (fun ls hl => ?_)
                refine lv_iinc (v := nI (j + 1)) (lv' := [(3, .int (nI (j + 1))), (2, .int (nI (cnt (ivp fl v k) j + 1))), (0, .ref r), (1, .int (nI k))]) hx hb dX3_inversionsOf_71 hl (k := 3) rfl (nI_1 _) (by decide) rfl (fun ls hl => ?_)
                refine lv_goto (tgt := 41) hx hb dX3_inversionsOf_74 (by decide) ?_
                have el_l2 : cnt (ivp fl v k) (j + 1) = cnt (ivp fl v k) j + 1 := by first | exact cnt_t (by rw [ivp_gt hj]; exact c65) | exact cnt_f (by rw [ivp_gt hj]; exact c65)
                exact ih41 (j + 1) (by omega) (by first | assumption | omega) (by first | assumption | omega) _ _ (by first | (rw [el_l2]; exact hP) | (simp only [el_l2]; exact hP) | exact hP) hS ls (by first | (rw [el_l2]; exact lv_sub hl [2, 3, 1, 0] rfl) | (simp only [el_l2]; exact lv_sub hl [2, 3, 1, 0] rfl) | exact lv_sub hl [2, 3, 1, 0] rfl)
        exact loop41 (n - (k + 1) + 1) (k + 1) (by omega) (by first | assumption | omega) (by first | assumption | omega) _ _ (by first | (rw [el_l2]; exact hP) | (simp only [el_l2]; exact hP) | exact hP) hS ls (by first | (rw [el_l2]; exact lv_sub hl [1, 2, 3, 0] rfl) | (simp only [el_l2]; exact lv_sub hl [1, 2, 3, 0] rfl) | exact lv_sub hl [1, 2, 3, 0] rfl)
      · skip
        refine lv_aload_n hx hb dX3_inversionsOf_9 rfl (lv_at hl 0 rfl) ?_
        refine lv_aload_n hx hb dX3_inversionsOf_10 rfl (lv_at hl 0 rfl) ?_
        refine va_get (D := D) (ci := 2) (C := RX3) (T := TX3) (N := 10) hx hb hts hinX3 hown hK hP 0 rfl rfl 0 (by decide) (hts (.fieldLink RX3 9 "NearRanks$Row" "values" "[J") (by decide +kernel)) (fun _ h9 => h9) rfl dX3_inversionsOf_11 ?_
        refine lv_iload_n hx hb dX3_inversionsOf_14 rfl (lv_at hl 1 rfl) ?_
        refine wv_lald hx hb hK hP 1 0 rfl rfl (k := k) (by omega) (by decide) dX3_inversionsOf_15 ?_
        refine lv_aload_n hx hb dX3_inversionsOf_16 rfl (lv_at hl 0 rfl) ?_
        refine va_get (D := D) (ci := 2) (C := RX3) (T := TX3) (N := 10) hx hb hts hinX3 hown hK hP 0 rfl rfl 0 (by decide) (hts (.fieldLink RX3 9 "NearRanks$Row" "values" "[J") (by decide +kernel)) (fun _ h9 => h9) rfl dX3_inversionsOf_17 ?_
        refine lv_iload_n hx hb dX3_inversionsOf_20 rfl (lv_at hl 3 rfl) ?_
        refine wv_lald hx hb hK hP 1 0 rfl rfl (k := i) (by omega) (by decide) dX3_inversionsOf_21 ?_
        refine wv_callPi (As := [.long (v k), .long (v i)]) (rest := []) ⟨hx, hb, hml, hown, hts⟩ (kX3_isAhead l D r va na ra cJ cI v nu rk n b fl me st lk cm (v k) (v i)) (cwV 2 hts gX3_inversionsOf_X3_isAhead rfl rfl rfl (by decide +kernel) ⟨Nat.le_of_ble_eq_true rfl, Nat.le_of_ble_eq_true rfl⟩) hK hN hP hS hA [0, 1, 2, 3] [0, 1] rfl rfl 0 2 rfl rfl rfl rfl hl.1 rfl (Nat.le_of_ble_eq_true rfl) dX3_inversionsOf_22 ⟨Nat.zero_le _, Nat.zero_le _⟩ (fun H locs hz9 hP hS => ?_)
        refine wv_ifeqB (tgt := 31) hx hb dX3_inversionsOf_25 (by decide) (fun c25 => ?_) (fun c25 => ?_)
        · skip
          refine lv_iinc (v := nI (i + 1)) (lv' := [(3, .int (nI (i + 1))), (0, .ref r), (1, .int (nI k)), (2, .int (nI (cnt (ivp fl v k) i)))]) hx hb dX3_inversionsOf_31 hl (k := 3) rfl (nI_1 _) (by decide) rfl (fun ls hl => ?_)
          refine lv_goto (tgt := 4) hx hb dX3_inversionsOf_34 (by decide) ?_
          have el_l2 : cnt (ivp fl v k) (i + 1) = cnt (ivp fl v k) i := by first | exact cnt_t (by rw [ivp_lt c6]; exact c25) | exact cnt_f (by rw [ivp_lt c6]; exact c25)
          exact ih4 (i + 1) (by omega) (by first | assumption | omega) _ _ (by first | (rw [el_l2]; exact hP) | (simp only [el_l2]; exact hP) | exact hP) hS ls (by first | (rw [el_l2]; exact lv_sub hl [1, 2, 3, 0] rfl) | (simp only [el_l2]; exact lv_sub hl [1, 2, 3, 0] rfl) | exact lv_sub hl [1, 2, 3, 0] rfl)
        · skip
          refine lv_iinc (v := nI (cnt (ivp fl v k) i + 1)) (lv' := [(2, .int (nI (cnt (ivp fl v k) i + 1))), (0, .ref r), (1, .int (nI k)), (3, .int (nI i))]) hx hb dX3_inversionsOf_28 hl (k := 2) rfl (nI_1 _) (by decide) rfl (fun ls hl => ?_)
          refine lv_iinc (v := nI (i + 1)) (lv' := [(3, .int (nI (i + 1))), (2, .int (nI (cnt (ivp fl v k) i + 1))), (0, .ref r), (1, .int (nI k))]) hx hb dX3_inversionsOf_31 hl (k := 3) rfl (nI_1 _) (by decide) rfl (fun ls hl => ?_)
          refine lv_goto (tgt := 4) hx hb dX3_inversionsOf_34 (by decide) ?_
          have el_l2 : cnt (ivp fl v k) (i + 1) = cnt (ivp fl v k) i + 1 := by first | exact cnt_t (by rw [ivp_lt c6]; exact c25) | exact cnt_f (by rw [ivp_lt c6]; exact c25)
          exact ih4 (i + 1) (by omega) (by first | assumption | omega) _ _ (by first | (rw [el_l2]; exact hP) | (simp only [el_l2]; exact hP) | exact hP) hS ls (by first | (rw [el_l2]; exact lv_sub hl [2, 3, 1, 0] rfl) | (simp only [el_l2]; exact lv_sub hl [2, 3, 1, 0] rfl) | exact lv_sub hl [2, 3, 1, 0] rfl)
  exact loop4 (k - 0 + 1) 0 (by omega) (by first | assumption | omega) _ _ (by first | (rw [el_l2]; exact hP) | (simp only [el_l2]; exact hP) | exact hP) hS ls (by first | (rw [el_l2]; exact lv_sub hl [2, 3, 1, 0] rfl) | (simp only [el_l2]; exact lv_sub hl [2, 3, 1, 0] rfl) | exact lv_sub hl [2, 3, 1, 0] rfl)

set_option maxHeartbeats 4000000 in
set_option maxRecDepth 100000 in
theorem kX3_inversions (l : Launch) (D : va_G) (r : Nat) (va : Nat) (na : Nat) (ra : Nat) (cJ : ClassId) (cI : ClassId) (v : Nat → Int64) (nu : Nat → Int32) (rk : Nat → Int32) (n : Nat) (b : Nat) (fl : Bool) (me : Bool) (st : Int32) (lk : Int32) (cm : Int32) (hn : n ≤ 32) : PMi l yX3_inversions wsX3_inversions ({ frames := 2, cells := 0, slots := 0, locals := 47 } : Room) [.ref r] D (RowC r va na ra cJ cI v nu rk n b fl me st lk cm) [(cJ, .long), (cI, .int)] (nI (ivs fl v n)) := by
  refine PMi_of (cc := cX3_inversions) (maxL := 3) (ret := some .int) (by decide +kernel) rfl (Nat.le_of_ble_eq_true rfl) ?_
  intro p e s m args below meth c hx hb hr hts hown hlocks hml hP hK hN ls hl
  have hown : s.vm.findClass RX3 = some m.cls := hown
  have hl : lv_has ls 3 [(0, .ref r)] := hl
  have hS : va_S (va_A [] s.heap.size) s.heap s.heap [] := va_S.rf
  have hA := wk_hA [] s.heap.size
  have hD9 : True := trivial
  have hinX3 : ∀ w ∈ wsX30, w ∈ wsX3_inversions := by decide +kernel
  refine lv_iconst (v := nI 0) hx hb dX3_inversions_0 (by decide) ?_
  refine lv_istore_n (lv' := [(1, .int (nI 0)), (0, .ref r)]) hx hb dX3_inversions_1 rfl hl (by decide) rfl (fun ls hl => ?_)
  refine lv_iconst (v := nI 0) hx hb dX3_inversions_2 (by decide) ?_
  refine lv_istore_n (lv' := [(2, .int (nI 0)), (1, .int (nI 0)), (0, .ref r)]) hx hb dX3_inversions_3 rfl hl (by decide) rfl (fun ls hl => ?_)
  have el_l1 : sm (ivo fl v n) 0 = 0 := by first | rfl | omega | (simp [*]; done)
  have loop4 : ∀ (K : Nat) (i : Nat), n - i < K → i ≤ n → ∀ (H : Heap) (locs : List Loc), va_P D vwCl (RowC r va na ra cJ cI v nu rk n b fl me st lk cm) H → va_S (va_A [] s.heap.size) s.heap H locs → ∀ ls : Array Slot, lv_has ls 3 [(0, .ref r), (1, .int (nI (sm (ivo fl v n) i))), (2, .int (nI i))] → W p l e ({ frames := 2, cells := 0, slots := 0, locals := 47 } : Room) s m args below meth c H locs 0 0 (ZPi below args s (nI (ivs fl v n))) (F0 m 4 ls []) := by
    intro K
    induction K with
    | zero => intro i hK0; exact absurd hK0 (Nat.not_lt_zero _)
    | succ K ih4 =>
      intro i hKm hi H locs hP hS ls hl
      have hsm : sm (ivo fl v n) i ≤ i * 32 := sm_le (fun k _ => Nat.le_trans (ivo_le fl v n k) hn)
      have hs2 : sm (ivo fl v n) i ≤ 1024 := by have : i * 32 ≤ 32 * 32 := Nat.mul_le_mul_right 32 (by omega); omega
      refine lv_iload_n hx hb dX3_inversions_4 rfl (lv_at hl 2 rfl) ?_
      refine lv_aload_n hx hb dX3_inversions_5 rfl (lv_at hl 0 rfl) ?_
      refine va_get (D := D) (ci := 2) (C := RX3) (T := TX3) (N := 10) hx hb hts hinX3 hown hK hP 0 rfl rfl 3 (by decide) (hts (.fieldLink RX3 32 "NearRanks$Row" "size" "I") (by decide +kernel)) (fun _ h9 => h9) rfl dX3_inversions_6 ?_
      refine wv_icmp_ge (tgt := 26) hx hb (by omega) (by omega) dX3_inversions_9 (by decide) (fun c9 => ?_) (fun c9 => ?_)
      · skip
        refine lv_iload_n hx hb dX3_inversions_26 rfl (lv_at hl 1 rfl) ?_
        refine lv_iconst (v := nI 2) hx hb dX3_inversions_27 (by decide) ?_
        refine lv_idiv hx hb dX3_inversions_28 (by decide) ?_
        refine wv_ti (pk_div (by omega) (by omega) (by omega)) ?_
        exact wv_iretP hx hb hr hlocks hS (by rw [show i = n by omega]; rfl) dX3_inversions_29
      · skip
        refine lv_iload_n hx hb dX3_inversions_12 rfl (lv_at hl 1 rfl) ?_
        refine lv_aload_n hx hb dX3_inversions_13 rfl (lv_at hl 0 rfl) ?_
        refine lv_iload_n hx hb dX3_inversions_14 rfl (lv_at hl 2 rfl) ?_
        refine wv_callPi (As := [.int (nI i)]) (rest := [.int (nI (sm (ivo fl v n) i))]) ⟨hx, hb, hml, hown, hts⟩ (kX3_inversionsOf l D r va na ra cJ cI v nu rk n b fl me st lk cm i (by first | assumption | omega) (by first | assumption | omega)) (cwV 1 hts gX3_inversions_X3_inversionsOf rfl rfl rfl (by decide +kernel) ⟨Nat.le_of_ble_eq_true rfl, Nat.le_of_ble_eq_true rfl⟩) hK hN hP hS hA [0, 1, 2, 3] [0, 1] rfl rfl 0 2 rfl rfl rfl rfl hl.1 rfl (Nat.le_of_ble_eq_true rfl) dX3_inversions_15 ⟨Nat.zero_le _, Nat.zero_le _⟩ (fun H locs hz9 hP hS => ?_)
        refine lv_iadd hx hb dX3_inversions_18 ?_
        refine wv_ti (nI_add _ _) ?_
        refine lv_istore_n (lv' := [(1, .int (nI ((sm (ivo fl v n) i) + (ivo fl v n i)))), (0, .ref r), (2, .int (nI i))]) hx hb dX3_inversions_19 rfl hl (by decide) rfl (fun ls hl => ?_)
        refine lv_iinc (v := nI (i + 1)) (lv' := [(2, .int (nI (i + 1))), (1, .int (nI ((sm (ivo fl v n) i) + (ivo fl v n i)))), (0, .ref r)]) hx hb dX3_inversions_20 hl (k := 2) rfl (nI_1 _) (by decide) rfl (fun ls hl => ?_)
        refine lv_goto (tgt := 4) hx hb dX3_inversions_23 (by decide) ?_
        have el_l1 : sm (ivo fl v n) (i + 1) = (sm (ivo fl v n) i) + (ivo fl v n i) := by first | rfl | omega | (simp [*]; done)
        exact ih4 (i + 1) (by omega) (by first | assumption | omega) _ _ (by first | (rw [el_l1]; exact hP) | (simp only [el_l1]; exact hP) | exact hP) hS ls (by first | (rw [el_l1]; exact lv_sub hl [2, 1, 0] rfl) | (simp only [el_l1]; exact lv_sub hl [2, 1, 0] rfl) | exact lv_sub hl [2, 1, 0] rfl)
  exact loop4 (n - 0 + 1) 0 (by omega) (by first | assumption | omega) _ _ (by first | (rw [el_l1]; exact hP) | (simp only [el_l1]; exact hP) | exact hP) hS ls (by first | (rw [el_l1]; exact lv_sub hl [2, 1, 0] rfl) | (simp only [el_l1]; exact lv_sub hl [2, 1, 0] rfl) | exact lv_sub hl [2, 1, 0] rfl)

set_option maxHeartbeats 4000000 in
set_option maxRecDepth 100000 in
theorem kX3_falls (l : Launch) (D : va_G) (r : Nat) (va : Nat) (na : Nat) (ra : Nat) (cJ : ClassId) (cI : ClassId) (v : Nat → Int64) (nu : Nat → Int32) (rk : Nat → Int32) (n : Nat) (b : Nat) (fl : Bool) (me : Bool) (st : Int32) (lk : Int32) (cm : Int32) (hn : n ≤ 32) : PMi l yX3_falls wsX3_falls ({ frames := 2, cells := 0, slots := 0, locals := 45 } : Room) [.ref r] D (RowC r va na ra cJ cI v nu rk n b fl me st lk cm) [(cJ, .long), (cI, .int)] (nI (cnt (fal fl v n) n)) := by
  refine PMi_of (cc := cX3_falls) (maxL := 3) (ret := some .int) (by decide +kernel) rfl (Nat.le_of_ble_eq_true rfl) ?_
  intro p e s m args below meth c hx hb hr hts hown hlocks hml hP hK hN ls hl
  have hown : s.vm.findClass RX3 = some m.cls := hown
  have hl : lv_has ls 3 [(0, .ref r)] := hl
  have hS : va_S (va_A [] s.heap.size) s.heap s.heap [] := va_S.rf
  have hA := wk_hA [] s.heap.size
  have hD9 : True := trivial
  have hinX3 : ∀ w ∈ wsX30, w ∈ wsX3_falls := by decide +kernel
  refine lv_iconst (v := nI 0) hx hb dX3_falls_0 (by decide) ?_
  refine lv_istore_n (lv' := [(1, .int (nI 0)), (0, .ref r)]) hx hb dX3_falls_1 rfl hl (by decide) rfl (fun ls hl => ?_)
  refine lv_iconst (v := nI 0) hx hb dX3_falls_2 (by decide) ?_
  refine lv_istore_n (lv' := [(2, .int (nI 0)), (1, .int (nI 0)), (0, .ref r)]) hx hb dX3_falls_3 rfl hl (by decide) rfl (fun ls hl => ?_)
  have el_l1 : cnt (fal fl v n) 0 = 0 := by rfl
  have loop4 : ∀ (K : Nat) (i : Nat), n - i < K → i ≤ n → ∀ (H : Heap) (locs : List Loc), va_P D vwCl (RowC r va na ra cJ cI v nu rk n b fl me st lk cm) H → va_S (va_A [] s.heap.size) s.heap H locs → ∀ ls : Array Slot, lv_has ls 3 [(0, .ref r), (1, .int (nI (cnt (fal fl v n) i))), (2, .int (nI i))] → W p l e ({ frames := 2, cells := 0, slots := 0, locals := 45 } : Room) s m args below meth c H locs 0 0 (ZPi below args s (nI (cnt (fal fl v n) n))) (F0 m 4 ls []) := by
    intro K
    induction K with
    | zero => intro i hK0; exact absurd hK0 (Nat.not_lt_zero _)
    | succ K ih4 =>
      intro i hKm hi H locs hP hS ls hl
      refine lv_iload_n hx hb dX3_falls_4 rfl (lv_at hl 2 rfl) ?_
      refine lv_aload_n hx hb dX3_falls_5 rfl (lv_at hl 0 rfl) ?_
      refine va_get (D := D) (ci := 2) (C := RX3) (T := TX3) (N := 10) hx hb hts hinX3 hown hK hP 0 rfl rfl 3 (by decide) (hts (.fieldLink RX3 32 "NearRanks$Row" "size" "I") (by decide +kernel)) (fun _ h9 => h9) rfl dX3_falls_6 ?_
      refine wv_icmp_ge (tgt := 29) hx hb (by omega) (by omega) dX3_falls_9 (by decide) (fun c9 => ?_) (fun c9 => ?_)
      · skip
        refine lv_iload_n hx hb dX3_falls_29 rfl (lv_at hl 1 rfl) ?_
        exact wv_iretP hx hb hr hlocks hS (by rw [show i = n by omega]) dX3_falls_30
      · skip
        refine lv_aload_n hx hb dX3_falls_12 rfl (lv_at hl 0 rfl) ?_
        refine lv_iload_n hx hb dX3_falls_13 rfl (lv_at hl 2 rfl) ?_
        refine wv_callPi (As := [.int (nI i)]) (rest := []) ⟨hx, hb, hml, hown, hts⟩ (kX3_isFall l D r va na ra cJ cI v nu rk n b fl me st lk cm i (by first | assumption | omega) (by first | assumption | omega)) (cwV 1 hts gX3_falls_X3_isFall rfl rfl rfl (by decide +kernel) ⟨Nat.le_of_ble_eq_true rfl, Nat.le_of_ble_eq_true rfl⟩) hK hN hP hS hA [0, 1, 2, 3] [0, 1] rfl rfl 0 2 rfl rfl rfl rfl hl.1 rfl (Nat.le_of_ble_eq_true rfl) dX3_falls_14 ⟨Nat.zero_le _, Nat.zero_le _⟩ (fun H locs hz9 hP hS => ?_)
        refine wv_ifeqB (tgt := 23) hx hb dX3_falls_17 (by decide) (fun c17 => ?_) (fun c17 => ?_)
        · skip
          refine lv_iinc (v := nI (i + 1)) (lv' := [(2, .int (nI (i + 1))), (0, .ref r), (1, .int (nI (cnt (fal fl v n) i)))]) hx hb dX3_falls_23 hl (k := 2) rfl (nI_1 _) (by decide) rfl (fun ls hl => ?_)
          refine lv_goto (tgt := 4) hx hb dX3_falls_26 (by decide) ?_
          have el_l1 : cnt (fal fl v n) (i + 1) = cnt (fal fl v n) i := by first | exact cnt_t c17 | exact cnt_f c17
          exact ih4 (i + 1) (by omega) (by first | assumption | omega) _ _ (by first | (rw [el_l1]; exact hP) | (simp only [el_l1]; exact hP) | exact hP) hS ls (by first | (rw [el_l1]; exact lv_sub hl [1, 2, 0] rfl) | (simp only [el_l1]; exact lv_sub hl [1, 2, 0] rfl) | exact lv_sub hl [1, 2, 0] rfl)
        · skip
          refine lv_iinc (v := nI (cnt (fal fl v n) i + 1)) (lv' := [(1, .int (nI (cnt (fal fl v n) i + 1))), (0, .ref r), (2, .int (nI i))]) hx hb dX3_falls_20 hl (k := 1) rfl (nI_1 _) (by decide) rfl (fun ls hl => ?_)
          refine lv_iinc (v := nI (i + 1)) (lv' := [(2, .int (nI (i + 1))), (1, .int (nI (cnt (fal fl v n) i + 1))), (0, .ref r)]) hx hb dX3_falls_23 hl (k := 2) rfl (nI_1 _) (by decide) rfl (fun ls hl => ?_)
          refine lv_goto (tgt := 4) hx hb dX3_falls_26 (by decide) ?_
          have el_l1 : cnt (fal fl v n) (i + 1) = cnt (fal fl v n) i + 1 := by first | exact cnt_t c17 | exact cnt_f c17
          exact ih4 (i + 1) (by omega) (by first | assumption | omega) _ _ (by first | (rw [el_l1]; exact hP) | (simp only [el_l1]; exact hP) | exact hP) hS ls (by first | (rw [el_l1]; exact lv_sub hl [2, 1, 0] rfl) | (simp only [el_l1]; exact lv_sub hl [2, 1, 0] rfl) | exact lv_sub hl [2, 1, 0] rfl)
  exact loop4 (n - 0 + 1) 0 (by omega) (by first | assumption | omega) _ _ (by first | (rw [el_l1]; exact hP) | (simp only [el_l1]; exact hP) | exact hP) hS ls (by first | (rw [el_l1]; exact lv_sub hl [2, 1, 0] rfl) | (simp only [el_l1]; exact lv_sub hl [2, 1, 0] rfl) | exact lv_sub hl [2, 1, 0] rfl)

set_option maxHeartbeats 4000000 in
set_option maxRecDepth 100000 in
theorem kX3_greatestDistance (l : Launch) (D : va_G) (r : Nat) (va : Nat) (na : Nat) (ra : Nat) (cJ : ClassId) (cI : ClassId) (v : Nat → Int64) (nu : Nat → Int32) (rk : Nat → Int32) (n : Nat) (b : Nat) (fl : Bool) (me : Bool) (st : Int32) (lk : Int32) (cm : Int32) (hn : n ≤ 32) (hrk : ∀ i, i < n → rk i = nI (rk0 fl v n i)) : PMi l yX3_greatestDistance wsX3_greatestDistance ({ frames := 2, cells := 0, slots := 0, locals := 42 } : Room) [.ref r] D (RowC r va na ra cJ cI v nu rk n b fl me st lk cm) [(cJ, .long), (cI, .int)] (nI (mx (far fl v n) n)) := by
  refine PMi_of (cc := cX3_greatestDistance) (maxL := 3) (ret := some .int) (by decide +kernel) rfl (Nat.le_of_ble_eq_true rfl) ?_
  intro p e s m args below meth c hx hb hr hts hown hlocks hml hP hK hN ls hl
  have hown : s.vm.findClass RX3 = some m.cls := hown
  have hl : lv_has ls 3 [(0, .ref r)] := hl
  have hS : va_S (va_A [] s.heap.size) s.heap s.heap [] := va_S.rf
  have hA := wk_hA [] s.heap.size
  have hD9 : True := trivial
  have hinX3 : ∀ w ∈ wsX30, w ∈ wsX3_greatestDistance := by decide +kernel
  refine lv_iconst (v := nI 0) hx hb dX3_greatestDistance_0 (by decide) ?_
  refine lv_istore_n (lv' := [(1, .int (nI 0)), (0, .ref r)]) hx hb dX3_greatestDistance_1 rfl hl (by decide) rfl (fun ls hl => ?_)
  refine lv_iconst (v := nI 0) hx hb dX3_greatestDistance_2 (by decide) ?_
  refine lv_istore_n (lv' := [(2, .int (nI 0)), (1, .int (nI 0)), (0, .ref r)]) hx hb dX3_greatestDistance_3 rfl hl (by decide) rfl (fun ls hl => ?_)
  have el_l1 : mx (far fl v n) 0 = 0 := by first | rfl | omega | (simp [*]; done)
  have loop4 : ∀ (K : Nat) (i : Nat), n - i < K → i ≤ n → ∀ (H : Heap) (locs : List Loc), va_P D vwCl (RowC r va na ra cJ cI v nu rk n b fl me st lk cm) H → va_S (va_A [] s.heap.size) s.heap H locs → ∀ ls : Array Slot, lv_has ls 3 [(0, .ref r), (1, .int (nI (mx (far fl v n) i))), (2, .int (nI i))] → W p l e ({ frames := 2, cells := 0, slots := 0, locals := 42 } : Room) s m args below meth c H locs 0 0 (ZPi below args s (nI (mx (far fl v n) n))) (F0 m 4 ls []) := by
    intro K
    induction K with
    | zero => intro i hK0; exact absurd hK0 (Nat.not_lt_zero _)
    | succ K ih4 =>
      intro i hKm hi H locs hP hS ls hl
      refine lv_iload_n hx hb dX3_greatestDistance_4 rfl (lv_at hl 2 rfl) ?_
      refine lv_aload_n hx hb dX3_greatestDistance_5 rfl (lv_at hl 0 rfl) ?_
      refine va_get (D := D) (ci := 2) (C := RX3) (T := TX3) (N := 10) hx hb hts hinX3 hown hK hP 0 rfl rfl 3 (by decide) (hts (.fieldLink RX3 32 "NearRanks$Row" "size" "I") (by decide +kernel)) (fun _ h9 => h9) rfl dX3_greatestDistance_6 ?_
      refine wv_icmp_ge (tgt := 31) hx hb (by omega) (by omega) dX3_greatestDistance_9 (by decide) (fun c9 => ?_) (fun c9 => ?_)
      · skip
        refine lv_iload_n hx hb dX3_greatestDistance_31 rfl (lv_at hl 1 rfl) ?_
        exact wv_iretP hx hb hr hlocks hS (by rw [show i = n by omega]) dX3_greatestDistance_32
      · skip
        have hfi := far_le (fl := fl) (v := v) (n := n) (k := i) (by omega)
        have hmi : mx (far fl v n) i ≤ n := mx_le (fun k hk => far_le (by omega))
        refine lv_iload_n hx hb dX3_greatestDistance_12 rfl (lv_at hl 1 rfl) ?_
        refine lv_aload_n hx hb dX3_greatestDistance_13 rfl (lv_at hl 0 rfl) ?_
        refine lv_iload_n hx hb dX3_greatestDistance_14 rfl (lv_at hl 2 rfl) ?_
        refine wv_callPi (As := [.int (nI i)]) (rest := [.int (nI (mx (far fl v n) i))]) ⟨hx, hb, hml, hown, hts⟩ (kX3_distance l D r va na ra cJ cI v nu rk n b fl me st lk cm i (by first | assumption | omega) (by first | assumption | omega) (by first | assumption | omega)) (cwV 1 hts gX3_greatestDistance_X3_distance rfl rfl rfl (by decide +kernel) ⟨Nat.le_of_ble_eq_true rfl, Nat.le_of_ble_eq_true rfl⟩) hK hN hP hS hA [0, 1, 2, 3] [0, 1] rfl rfl 0 2 rfl rfl rfl rfl hl.1 rfl (Nat.le_of_ble_eq_true rfl) dX3_greatestDistance_15 ⟨Nat.zero_le _, Nat.zero_le _⟩ (fun H locs hz9 hP hS => ?_)
        refine va_mabs hx hb (by rw [hml]; exact hl.1.symm) hown (hts (.methodLink RX3 59 Lib.Math.abs.name) (by decide +kernel)) (hts (.static Lib.Math.abs.name) (by decide +kernel)) (hts (.initialized "java/lang/Math") (by decide +kernel)) (hts (.code Lib.Math.abs.name Lib.Math.abs.code 1 (some .int)) (by decide +kernel)) (Nat.le_of_ble_eq_true rfl) (Nat.le_of_ble_eq_true rfl) (Nat.zero_le _) (Nat.zero_le _) dX3_greatestDistance_18 ?_
        refine wv_ti (y := nI (far fl v n i)) (dst_abs (by omega) hn) ?_
        refine va_mmax hx hb (by rw [hml]; exact hl.1.symm) hown (hts (.methodLink RX3 106 Lib.Math.max.name) (by decide +kernel)) (hts (.static Lib.Math.max.name) (by decide +kernel)) (hts (.initialized "java/lang/Math") (by decide +kernel)) (hts (.code Lib.Math.max.name Lib.Math.max.code 2 (some .int)) (by decide +kernel)) (Nat.le_of_ble_eq_true rfl) (Nat.le_of_ble_eq_true rfl) (Nat.zero_le _) (Nat.zero_le _) dX3_greatestDistance_21 ?_
        refine wv_ti (y := nI (max (mx (far fl v n) i) (far fl v n i))) (wk_max (by omega) (by omega)) ?_
        refine lv_istore_n (lv' := [(1, .int (nI (max (mx (far fl v n) i) (far fl v n i)))), (0, .ref r), (2, .int (nI i))]) hx hb dX3_greatestDistance_24 rfl hl (by decide) rfl (fun ls hl => ?_)
        refine lv_iinc (v := nI (i + 1)) (lv' := [(2, .int (nI (i + 1))), (1, .int (nI (max (mx (far fl v n) i) (far fl v n i)))), (0, .ref r)]) hx hb dX3_greatestDistance_25 hl (k := 2) rfl (nI_1 _) (by decide) rfl (fun ls hl => ?_)
        refine lv_goto (tgt := 4) hx hb dX3_greatestDistance_28 (by decide) ?_
        have el_l1 : mx (far fl v n) (i + 1) = max (mx (far fl v n) i) (far fl v n i) := by first | rfl | omega | (simp [*]; done)
        exact ih4 (i + 1) (by omega) (by first | assumption | omega) _ _ (by first | (rw [el_l1]; exact hP) | (simp only [el_l1]; exact hP) | exact hP) hS ls (by first | (rw [el_l1]; exact lv_sub hl [2, 1, 0] rfl) | (simp only [el_l1]; exact lv_sub hl [2, 1, 0] rfl) | exact lv_sub hl [2, 1, 0] rfl)
  exact loop4 (n - 0 + 1) 0 (by omega) (by first | assumption | omega) _ _ (by first | (rw [el_l1]; exact hP) | (simp only [el_l1]; exact hP) | exact hP) hS ls (by first | (rw [el_l1]; exact lv_sub hl [2, 1, 0] rfl) | (simp only [el_l1]; exact lv_sub hl [2, 1, 0] rfl) | exact lv_sub hl [2, 1, 0] rfl)

set_option maxHeartbeats 4000000 in
set_option maxRecDepth 100000 in
theorem kX3_worstPlace (l : Launch) (D : va_G) (r : Nat) (va : Nat) (na : Nat) (ra : Nat) (cJ : ClassId) (cI : ClassId) (v : Nat → Int64) (nu : Nat → Int32) (rk : Nat → Int32) (n : Nat) (b : Nat) (fl : Bool) (me : Bool) (st : Int32) (lk : Int32) (cm : Int32) (hn : n ≤ 32) (hb : b ≤ 31) (hrk : ∀ i, i < n → rk i = nI (rk0 fl v n i)) : PMi l yX3_worstPlace wsX3_worstPlace ({ frames := 2, cells := 0, slots := 0, locals := 42 } : Room) [.ref r] D (RowC r va na ra cJ cI v nu rk n b fl me st lk cm) [(cJ, .long), (cI, .int)] (oI (wpl (far fl v n) b n).2) := by
  refine PMi_of (cc := cX3_worstPlace) (maxL := 5) (ret := some .int) (by decide +kernel) rfl (Nat.le_of_ble_eq_true rfl) ?_
  intro p e s m args below meth c hx hb hr hts hown hlocks hml hP hK hN ls hl
  have hown : s.vm.findClass RX3 = some m.cls := hown
  have hl : lv_has ls 5 [(0, .ref r)] := hl
  have hS : va_S (va_A [] s.heap.size) s.heap s.heap [] := va_S.rf
  have hA := wk_hA [] s.heap.size
  have hD9 : True := trivial
  have hinX3 : ∀ w ∈ wsX30, w ∈ wsX3_worstPlace := by decide +kernel
  refine lv_sipush (v := (-1000)) hx hb dX3_worstPlace_0 (by decide) ?_
  refine lv_istore_n (lv' := [(1, .int (-1000)), (0, .ref r)]) hx hb dX3_worstPlace_3 rfl hl (by decide) rfl (fun ls hl => ?_)
  refine lv_aload_n hx hb dX3_worstPlace_4 rfl (lv_at hl 1 rfl) ?_
  refine va_get (D := D) (ci := 2) (C := RX3) (T := TX3) (N := 10) hx hb hts hinX3 hown hK hP 0 rfl rfl 4 (by decide) (hts (.fieldLink RX3 22 "NearRanks$Row" "bound" "I") (by decide +kernel)) (fun _ h9 => h9) rfl dX3_worstPlace_5 ?_
  refine lv_istore_n (lv' := [(2, .int (nI b)), (1, .int (-1000)), (0, .ref r)]) hx hb dX3_worstPlace_8 rfl hl (by decide) rfl (fun ls hl => ?_)
  refine lv_iconst (v := nI 0) hx hb dX3_worstPlace_9 (by decide) ?_
  refine lv_istore_n (lv' := [(3, .int (nI 0)), (2, .int (nI b)), (1, .int (-1000)), (0, .ref r)]) hx hb dX3_worstPlace_10 rfl hl (by decide) rfl (fun ls hl => ?_)
  have el_l1 : oI (wpl (far fl v n) b 0).2 = (-1000) := by rfl
  have el_l2 : (wpl (far fl v n) b 0).1 = b := by rfl
  have loop11 : ∀ (K : Nat) (i : Nat), n - i < K → i ≤ n → ∀ (H : Heap) (locs : List Loc), va_P D vwCl (RowC r va na ra cJ cI v nu rk n b fl me st lk cm) H → va_S (va_A [] s.heap.size) s.heap H locs → ∀ ls : Array Slot, lv_has ls 5 [(0, .ref r), (1, .int (oI (wpl (far fl v n) b i).2)), (2, .int (nI ((wpl (far fl v n) b i).1))), (3, .int (nI i))] → W p l e ({ frames := 2, cells := 0, slots := 0, locals := 42 } : Room) s m args below meth c H locs 0 0 (ZPi below args s (oI (wpl (far fl v n) b n).2)) (F0 m 11 ls []) := by
    intro K
    induction K with
    | zero => intro i hK0; exact absurd hK0 (Nat.not_lt_zero _)
    | succ K ih11 =>
      intro i hKm hi H locs hP hS ls hl
      refine lv_iload_n hx hb dX3_worstPlace_11 rfl (lv_at hl 3 rfl) ?_
      refine lv_aload_n hx hb dX3_worstPlace_12 rfl (lv_at hl 0 rfl) ?_
      refine va_get (D := D) (ci := 2) (C := RX3) (T := TX3) (N := 10) hx hb hts hinX3 hown hK hP 0 rfl rfl 3 (by decide) (hts (.fieldLink RX3 32 "NearRanks$Row" "size" "I") (by decide +kernel)) (fun _ h9 => h9) rfl dX3_worstPlace_13 ?_
      refine wv_icmp_ge (tgt := 46) hx hb (by omega) (by omega) dX3_worstPlace_16 (by decide) (fun c16 => ?_) (fun c16 => ?_)
      · skip
        refine lv_iload_n hx hb dX3_worstPlace_46 rfl (lv_at hl 1 rfl) ?_
        exact wv_iretP hx hb hr hlocks hS (by rw [show i = n by omega]) dX3_worstPlace_47
      · skip
        have hfi := far_le (fl := fl) (v := v) (n := n) (k := i) (by omega)
        have hwi : (wpl (far fl v n) b i).1 ≤ 32 := wpl_le (by omega) (fun k hk => Nat.le_trans (far_le (by omega)) hn)
        refine lv_aload_n hx hb dX3_worstPlace_19 rfl (lv_at hl 0 rfl) ?_
        refine lv_iload_n hx hb dX3_worstPlace_20 rfl (lv_at hl 3 rfl) ?_
        refine wv_callPi (As := [.int (nI i)]) (rest := []) ⟨hx, hb, hml, hown, hts⟩ (kX3_distance l D r va na ra cJ cI v nu rk n b fl me st lk cm i (by first | assumption | omega) (by first | assumption | omega) (by first | assumption | omega)) (cwV 1 hts gX3_worstPlace_X3_distance rfl rfl rfl (by decide +kernel) ⟨Nat.le_of_ble_eq_true rfl, Nat.le_of_ble_eq_true rfl⟩) hK hN hP hS hA [0, 1, 2, 3] [0, 1] rfl rfl 0 2 rfl rfl rfl rfl hl.1 rfl (Nat.le_of_ble_eq_true rfl) dX3_worstPlace_21 ⟨Nat.zero_le _, Nat.zero_le _⟩ (fun H locs hz9 hP hS => ?_)
        refine va_mabs hx hb (by rw [hml]; exact hl.1.symm) hown (hts (.methodLink RX3 59 Lib.Math.abs.name) (by decide +kernel)) (hts (.static Lib.Math.abs.name) (by decide +kernel)) (hts (.initialized "java/lang/Math") (by decide +kernel)) (hts (.code Lib.Math.abs.name Lib.Math.abs.code 1 (some .int)) (by decide +kernel)) (Nat.le_of_ble_eq_true rfl) (Nat.le_of_ble_eq_true rfl) (Nat.zero_le _) (Nat.zero_le _) dX3_worstPlace_24 ?_
        refine wv_ti (y := nI (far fl v n i)) (dst_abs (by omega) hn) ?_
        refine lv_istore (lv' := [(4, .int (nI (far fl v n i))), (0, .ref r), (1, .int (oI (wpl (far fl v n) b i).2)), (2, .int (nI ((wpl (far fl v n) b i).1))), (3, .int (nI i))]) hx hb dX3_worstPlace_27 hl (by decide) rfl (fun ls hl => ?_)
        refine lv_iload hx hb dX3_worstPlace_29 (lv_at hl 0 rfl) ?_
        refine lv_iload_n hx hb dX3_worstPlace_31 rfl (lv_at hl 3 rfl) ?_
        refine wv_icmp_le (tgt := 40) hx hb (by omega) (by omega) dX3_worstPlace_32 (by decide) (fun c32 => ?_) (fun c32 => ?_)
        · skip
          refine lv_iinc (v := nI (i + 1)) (lv' := [(3, .int (nI (i + 1))), (4, .int (nI (far fl v n i))), (0, .ref r), (1, .int (oI (wpl (far fl v n) b i).2)), (2, .int (nI ((wpl (far fl v n) b i).1)))]) hx hb dX3_worstPlace_40 hl (k := 4) rfl (nI_1 _) (by decide) rfl (fun ls hl => ?_)
          refine lv_goto (tgt := 11) hx hb dX3_worstPlace_43 (by decide) ?_
          have el_l1 : oI (wpl (far fl v n) b (i + 1)).2 = oI (wpl (far fl v n) b i).2 := by first | (rw [wpl_s, if_pos (by omega)]; rfl) | rw [wpl_s, if_neg (by omega)]
          have el_l2 : (wpl (far fl v n) b (i + 1)).1 = (wpl (far fl v n) b i).1 := by first | (rw [wpl_s, if_pos (by omega)]; done) | rw [wpl_s, if_neg (by omega)]
          exact ih11 (i + 1) (by omega) (by first | assumption | omega) _ _ (by first | (rw [el_l1, el_l2]; exact hP) | (simp only [el_l1, el_l2]; exact hP) | exact hP) hS ls (by first | (rw [el_l1, el_l2]; exact lv_sub hl [2, 3, 4, 0] rfl) | (simp only [el_l1, el_l2]; exact lv_sub hl [2, 3, 4, 0] rfl) | exact lv_sub hl [2, 3, 4, 0] rfl)
        · skip
          refine lv_iload hx hb dX3_worstPlace_35 (lv_at hl 0 rfl) ?_
          refine lv_istore_n (lv' := [(2, .int (nI (far fl v n i))), (4, .int (nI (far fl v n i))), (0, .ref r), (1, .int (oI (wpl (far fl v n) b i).2)), (3, .int (nI i))]) hx hb dX3_worstPlace_37 rfl hl (by decide) rfl (fun ls hl => ?_)
          refine lv_iload_n hx hb dX3_worstPlace_38 rfl (lv_at hl 4 rfl) ?_
          refine lv_istore_n (lv' := [(1, .int (nI i)), (2, .int (nI (far fl v n i))), (4, .int (nI (far fl v n i))), (0, .ref r), (3, .int (nI i))]) hx hb dX3_worstPlace_39 rfl hl (by decide) rfl (fun ls hl => ?_)
          refine lv_iinc (v := nI (i + 1)) (lv' := [(3, .int (nI (i + 1))), (1, .int (nI i)), (2, .int (nI (far fl v n i))), (4, .int (nI (far fl v n i))), (0, .ref r)]) hx hb dX3_worstPlace_40 hl (k := 4) rfl (nI_1 _) (by decide) rfl (fun ls hl => ?_)
          refine lv_goto (tgt := 11) hx hb dX3_worstPlace_43 (by decide) ?_
          have el_l1 : oI (wpl (far fl v n) b (i + 1)).2 = nI i := by first | (rw [wpl_s, if_pos (by omega)]; rfl) | rw [wpl_s, if_neg (by omega)]
          have el_l2 : (wpl (far fl v n) b (i + 1)).1 = far fl v n i := by first | (rw [wpl_s, if_pos (by omega)]; done) | rw [wpl_s, if_neg (by omega)]
          exact ih11 (i + 1) (by omega) (by first | assumption | omega) _ _ (by first | (rw [el_l1, el_l2]; exact hP) | (simp only [el_l1, el_l2]; exact hP) | exact hP) hS ls (by first | (rw [el_l1, el_l2]; exact lv_sub hl [4, 1, 2, 0] rfl) | (simp only [el_l1, el_l2]; exact lv_sub hl [4, 1, 2, 0] rfl) | exact lv_sub hl [4, 1, 2, 0] rfl)
  exact loop11 (n - 0 + 1) 0 (by omega) (by first | assumption | omega) _ _ (by first | (rw [el_l1, el_l2]; exact hP) | (simp only [el_l1, el_l2]; exact hP) | exact hP) hS ls (by first | (rw [el_l1, el_l2]; exact lv_sub hl [3, 2, 1, 0] rfl) | (simp only [el_l1, el_l2]; exact lv_sub hl [3, 2, 1, 0] rfl) | exact lv_sub hl [3, 2, 1, 0] rfl)

set_option maxHeartbeats 4000000 in
set_option maxRecDepth 100000 in
theorem kX3_fallNearest (l : Launch) (D : va_G) (r : Nat) (va : Nat) (na : Nat) (ra : Nat) (cJ : ClassId) (cI : ClassId) (v : Nat → Int64) (nu : Nat → Int32) (rk : Nat → Int32) (n : Nat) (b : Nat) (fl : Bool) (me : Bool) (st : Int32) (lk : Int32) (cm : Int32) (k : Nat) (hn : n ≤ 32) (hrk : ∀ i, i < n → rk i = nI (rk0 fl v n i)) (hk : k < n) : PMi l yX3_fallNearest wsX3_fallNearest ({ frames := 2, cells := 0, slots := 0, locals := 45 } : Room) [.ref r, .int (nI k)] D (RowC r va na ra cJ cI v nu rk n b fl me st lk cm) [(cJ, .long), (cI, .int)] (oI (fno fl v n k)) := by
  refine PMi_of (cc := cX3_fallNearest) (maxL := 3) (ret := some .int) (by decide +kernel) rfl (Nat.le_of_ble_eq_true rfl) ?_
  intro p e s m args below meth c hx hb hr hts hown hlocks hml hP hK hN ls hl
  have hown : s.vm.findClass RX3 = some m.cls := hown
  have hl : lv_has ls 3 [(0, .ref r), (1, .int (nI k))] := hl
  have hS : va_S (va_A [] s.heap.size) s.heap s.heap [] := va_S.rf
  have hA := wk_hA [] s.heap.size
  have hD9 : True := trivial
  have hinX3 : ∀ w ∈ wsX30, w ∈ wsX3_fallNearest := by decide +kernel
  refine lv_aload_n hx hb dX3_fallNearest_0 rfl (lv_at hl 0 rfl) ?_
  refine lv_iload_n hx hb dX3_fallNearest_1 rfl (lv_at hl 1 rfl) ?_
  refine wv_callPi (As := [.int (nI k)]) (rest := []) ⟨hx, hb, hml, hown, hts⟩ (kX3_distance l D r va na ra cJ cI v nu rk n b fl me st lk cm k (by first | assumption | omega) (by first | assumption | omega) (by first | assumption | omega)) (cwV 1 hts gX3_fallNearest_X3_distance rfl rfl rfl (by decide +kernel) ⟨Nat.le_of_ble_eq_true rfl, Nat.le_of_ble_eq_true rfl⟩) hK hN hP hS hA [0, 1, 2, 3] [0, 1] rfl rfl 0 2 rfl rfl rfl rfl hl.1 rfl (Nat.le_of_ble_eq_true rfl) dX3_fallNearest_2 ⟨Nat.zero_le _, Nat.zero_le _⟩ (fun H locs hz9 hP hS => ?_)
  refine lv_if_le (tgt := 35) hx hb dX3_fallNearest_5 (by decide) (fun c5 => ?_) (fun c5 => ?_)
  · skip
    have c5b : ¬ rk0 fl v n k < k := fun z => Int32.not_lt.mpr c5 ((dst_pos hk hn).mpr z)
    have hno : fno fl v n k = fnr (fal fl v n) k (n - k) := if_neg c5b
    refine lv_iload_n hx hb dX3_fallNearest_35 rfl (lv_at hl 1 rfl) ?_
    refine lv_istore_n (lv' := [(2, .int (nI k)), (0, .ref r), (1, .int (nI k))]) hx hb dX3_fallNearest_36 rfl hl (by decide) rfl (fun ls hl => ?_)
    have loop37 : ∀ (K : Nat) (q : Nat), n - q < K → k ≤ q → q ≤ n → fnr (fal fl v n) k (n - k) = fnr (fal fl v n) q (n - q) → ∀ (H : Heap) (locs : List Loc), va_P D vwCl (RowC r va na ra cJ cI v nu rk n b fl me st lk cm) H → va_S (va_A [] s.heap.size) s.heap H locs → ∀ ls : Array Slot, lv_has ls 3 [(0, .ref r), (1, .int (nI k)), (2, .int (nI q))] → W p l e ({ frames := 2, cells := 0, slots := 0, locals := 45 } : Room) s m args below meth c H locs 0 0 (ZPi below args s (oI (fno fl v n k))) (F0 m 37 ls []) := by
      intro K
      induction K with
      | zero => intro q hK0; exact absurd hK0 (Nat.not_lt_zero _)
      | succ K ih37 =>
        intro q hKm hq hq2 hf H locs hP hS ls hl
        refine lv_iload_n hx hb dX3_fallNearest_37 rfl (lv_at hl 2 rfl) ?_
        refine lv_aload_n hx hb dX3_fallNearest_38 rfl (lv_at hl 0 rfl) ?_
        refine va_get (D := D) (ci := 2) (C := RX3) (T := TX3) (N := 10) hx hb hts hinX3 hown hK hP 0 rfl rfl 3 (by decide) (hts (.fieldLink RX3 32 "NearRanks$Row" "size" "I") (by decide +kernel)) (fun _ h9 => h9) rfl dX3_fallNearest_39 ?_
        refine wv_icmp_ge (tgt := 61) hx hb (by omega) (by omega) dX3_fallNearest_42 (by decide) (fun c42 => ?_) (fun c42 => ?_)
        · skip
          refine lv_sipush (v := (-1000)) hx hb dX3_fallNearest_61 (by decide) ?_
          exact wv_iretP hx hb hr hlocks hS (by rw [hno, hf, show n - q = 0 by omega]; rfl) dX3_fallNearest_64
        · skip
          refine lv_aload_n hx hb dX3_fallNearest_45 rfl (lv_at hl 0 rfl) ?_
          refine lv_iload_n hx hb dX3_fallNearest_46 rfl (lv_at hl 2 rfl) ?_
          refine wv_callPi (As := [.int (nI q)]) (rest := []) ⟨hx, hb, hml, hown, hts⟩ (kX3_isFall l D r va na ra cJ cI v nu rk n b fl me st lk cm q (by first | assumption | omega) (by first | assumption | omega)) (cwV 1 hts gX3_fallNearest_X3_isFall rfl rfl rfl (by decide +kernel) ⟨Nat.le_of_ble_eq_true rfl, Nat.le_of_ble_eq_true rfl⟩) hK hN hP hS hA [0, 1, 2, 3] [0, 1] rfl rfl 0 2 rfl rfl rfl rfl hl.1 rfl (Nat.le_of_ble_eq_true rfl) dX3_fallNearest_47 ⟨Nat.zero_le _, Nat.zero_le _⟩ (fun H locs hz9 hP hS => ?_)
          refine wv_ifeqB (tgt := 55) hx hb dX3_fallNearest_50 (by decide) (fun c50 => ?_) (fun c50 => ?_)
          · skip
            refine lv_iinc (v := nI (q + 1)) (lv' := [(2, .int (nI (q + 1))), (0, .ref r), (1, .int (nI k))]) hx hb dX3_fallNearest_55 hl (k := 2) rfl (nI_1 _) (by decide) rfl (fun ls hl => ?_)
            refine lv_goto (tgt := 37) hx hb dX3_fallNearest_58 (by decide) ?_
            exact ih37 (q + 1) (by omega) (by first | assumption | omega) (by first | assumption | omega) (by rw [hf, show n - q = (n - (q + 1)) + 1 by omega, fnr_s, if_neg (by rw [c50]; decide)]) _ _ hP hS ls (lv_sub hl [1, 2, 0] rfl)
          · skip
            refine lv_iload_n hx hb dX3_fallNearest_53 rfl (lv_at hl 2 rfl) ?_
            exact wv_iretP hx hb hr hlocks hS (by rw [hno, hf, show n - q = (n - (q + 1)) + 1 by omega, fnr_s, if_pos c50]; rfl) dX3_fallNearest_54
    exact loop37 (n - k + 1) k (by omega) (by first | assumption | omega) (by first | assumption | omega) (by rfl) _ _ hP hS ls (lv_sub hl [1, 2, 0] rfl)
  · skip
    have c5b : rk0 fl v n k < k := (dst_pos hk hn).mp (Int32.not_le.mp c5)
    have hno : fno fl v n k = fnl (fal fl v n) k := if_pos c5b
    refine lv_iload_n hx hb dX3_fallNearest_8 rfl (lv_at hl 1 rfl) ?_
    refine lv_iconst (v := nI 1) hx hb dX3_fallNearest_9 (by decide) ?_
    refine lv_isub hx hb dX3_fallNearest_10 ?_
    refine lv_istore_n (lv' := [(2, .int ((nI k) - (nI 1))), (0, .ref r), (1, .int (nI k))]) hx hb dX3_fallNearest_11 rfl hl (by decide) rfl (fun ls hl => ?_)
    have el_l2 : nI k - nI 1 = (nI k) - (nI 1) := by rfl
    have loop12 : ∀ (K : Nat) (j : Nat), j < K → j ≤ k → fnl (fal fl v n) k = fnl (fal fl v n) j → ∀ (H : Heap) (locs : List Loc), va_P D vwCl (RowC r va na ra cJ cI v nu rk n b fl me st lk cm) H → va_S (va_A [] s.heap.size) s.heap H locs → ∀ ls : Array Slot, lv_has ls 3 [(0, .ref r), (1, .int (nI k)), (2, .int (nI j - nI 1))] → W p l e ({ frames := 2, cells := 0, slots := 0, locals := 45 } : Room) s m args below meth c H locs 0 0 (ZPi below args s (oI (fno fl v n k))) (F0 m 12 ls []) := by
      intro K
      induction K with
      | zero => intro j hK0; exact absurd hK0 (Nat.not_lt_zero _)
      | succ K ih12 =>
        intro j hKm hj hf H locs hP hS ls hl
        refine lv_iload_n hx hb dX3_fallNearest_12 rfl (lv_at hl 2 rfl) ?_
        refine lv_if_lt (tgt := 32) hx hb dX3_fallNearest_13 (by decide) (fun c13 => ?_) (fun c13 => ?_)
        · skip
          have hj0 : j = 0 := (wk_j1 (by omega)).mp c13
          refine lv_goto (tgt := 61) hx hb dX3_fallNearest_32 (by decide) ?_
          refine lv_sipush (v := (-1000)) hx hb dX3_fallNearest_61 (by decide) ?_
          exact wv_iretP hx hb hr hlocks hS (by rw [hno, hf, hj0]; rfl) dX3_fallNearest_64
        · skip
          have hj0 : 0 < j := Nat.pos_of_ne_zero (fun z => c13 ((wk_j1 (by omega)).mpr z))
          have ej : nI j - nI 1 = nI (j - 1) := pk_sub (by omega)
          rw [ej] at hl
          have hjs : fnl (fal fl v n) j = if fal fl v n (j - 1) then some (j - 1) else fnl (fal fl v n) (j - 1) := by rw [← fnl_s, show j - 1 + 1 = j by omega]
          refine lv_aload_n hx hb dX3_fallNearest_16 rfl (lv_at hl 0 rfl) ?_
          refine lv_iload_n hx hb dX3_fallNearest_17 rfl (lv_at hl 2 rfl) ?_
          refine wv_callPi (As := [.int (nI (j - 1))]) (rest := []) ⟨hx, hb, hml, hown, hts⟩ (kX3_isFall l D r va na ra cJ cI v nu rk n b fl me st lk cm (j - 1) (by first | assumption | omega) (by first | assumption | omega)) (cwV 1 hts gX3_fallNearest_X3_isFall rfl rfl rfl (by decide +kernel) ⟨Nat.le_of_ble_eq_true rfl, Nat.le_of_ble_eq_true rfl⟩) hK hN hP hS hA [0, 1, 2, 3] [0, 1] rfl rfl 0 2 rfl rfl rfl rfl hl.1 rfl (Nat.le_of_ble_eq_true rfl) dX3_fallNearest_18 ⟨Nat.zero_le _, Nat.zero_le _⟩ (fun H locs hz9 hP hS => ?_)
          refine wv_ifeqB (tgt := 26) hx hb dX3_fallNearest_21 (by decide) (fun c21 => ?_) (fun c21 => ?_)
          · skip
            refine lv_iinc (v := nI (j - 1) + (-1)) (lv' := [(2, .int (nI (j - 1) + (-1))), (0, .ref r), (1, .int (nI k))]) hx hb dX3_fallNearest_26 hl (k := 2) rfl rfl (by decide) rfl (fun ls hl => ?_)
            refine lv_goto (tgt := 12) hx hb dX3_fallNearest_29 (by decide) ?_
            have el_l2 : nI (j - 1) - nI 1 = nI (j - 1) + (-1) := by exact wk_m1 _
            exact ih12 (j - 1) (by omega) (by first | assumption | omega) (by rw [hf, hjs, if_neg (by rw [c21]; decide)]) _ _ (by first | (rw [el_l2]; exact hP) | (simp only [el_l2]; exact hP) | exact hP) hS ls (by first | (rw [el_l2]; exact lv_sub hl [1, 2, 0] rfl) | (simp only [el_l2]; exact lv_sub hl [1, 2, 0] rfl) | exact lv_sub hl [1, 2, 0] rfl)
          · skip
            refine lv_iload_n hx hb dX3_fallNearest_24 rfl (lv_at hl 2 rfl) ?_
            exact wv_iretP hx hb hr hlocks hS (by rw [hno, hf, hjs, if_pos c21]; rfl) dX3_fallNearest_25
    exact loop12 (k + 1) k (by omega) (by first | assumption | omega) (by rfl) _ _ (by first | (rw [el_l2]; exact hP) | (simp only [el_l2]; exact hP) | exact hP) hS ls (by first | (rw [el_l2]; exact lv_sub hl [1, 2, 0] rfl) | (simp only [el_l2]; exact lv_sub hl [1, 2, 0] rfl) | exact lv_sub hl [1, 2, 0] rfl)
