/-! The model: elements, wholes, the stack, the ends of changes. -/
set_option maxHeartbeats 4000000 in
set_option maxRecDepth 100000 in
theorem kX7_elementOf (l : Launch) (D : va_G) (mo : Nat) (sa : Nat) (pa : Nat) (ha : Nat) (ta : Nat) (cJ : ClassId) (cI : ClassId) (n : Nat) (b : Nat) (fl : Bool) (me : Bool) (st : Int64) (lk : Int64) (cm : Int64) (v : Nat → Int64) (nu : Nat → Int64) (pt : Nat → Int64) (hd : Nat → Int64) (tx : Nat → Int32) (ps : Nat) (ru : Bool) (ty : Nat) (rf : Nat) (lks : Nat) (lo1 : Int32) (hi1 : Int32) (sp : Nat) (cd : Int32) (pl : Int32) (gv : Int64) (k : Nat) (w : Nat) (hn : n ≤ 32) (hb : b ≤ 31) (hk : k < n) (hw : w ≤ 5) : PMi l yX7_elementOf wsX7_elementOf ({ frames := 4, cells := 0, slots := 0, locals := 90 } : Room) [.ref mo, .int (nI k), .int (nI w)] D (ModC mo sa pa ha ta cJ cI (sM n b fl me st lk cm v nu) pt hd tx ps ru ty rf lks lo1 hi1 sp cd pl gv) [(cJ, .long), (cI, .int)] (elV fl v n b ((nu k).toInt32) k w) := by
  refine PMi_of (cc := cX7_elementOf) (maxL := 3) (ret := some .int) (by decide +kernel) rfl (Nat.le_of_ble_eq_true rfl) ?_
  intro p e s m args below meth c hx hb hr hts hown hlocks hml hP hK hN ls hl
  have hown : s.vm.findClass RX7 = some m.cls := hown
  have hl : lv_has ls 3 [(0, .ref mo), (1, .int (nI k)), (2, .int (nI w))] := hl
  have hS : va_S (va_A [] s.heap.size) s.heap s.heap [] := va_S.rf
  have hA := wk_hA [] s.heap.size
  have hD9 : True := trivial
  rcases (show w = 0 ∨ w = 1 ∨ w = 2 ∨ w = 3 ∨ w = 4 ∨ w = 5 by omega) with rfl | rfl | rfl | rfl | rfl | rfl
  · skip
    refine lv_iload_n hx hb dX7_elementOf_0 rfl (lv_at hl 2 rfl) ?_
    refine lv_tableIn (tgt := 36) hx hb dX7_elementOf_1 (by decide) (by decide) rfl (by decide) ?_
    refine lv_aload_n hx hb dX7_elementOf_36 rfl (lv_at hl 0 rfl) ?_
    refine lv_bipush (v := nI 39) hx hb dX7_elementOf_37 (by decide) ?_
    refine lv_iload_n hx hb dX7_elementOf_39 rfl (lv_at hl 1 rfl) ?_
    refine lv_iadd hx hb dX7_elementOf_40 ?_
    refine wv_ti (nI_add _ _) ?_
    refine wv_callPi (As := [.int (nI (39 + k))]) (rest := []) ⟨hx, hb, hml, hown, hts⟩ (kX7_of l D mo sa pa ha ta cJ cI n b fl me st lk cm v nu pt hd tx ps ru ty rf lks lo1 hi1 sp cd pl gv (39 + k) (by first | assumption | omega)) (cwV 1 hts gX7_elementOf_X7_of rfl rfl rfl (by decide +kernel) ⟨Nat.le_of_ble_eq_true rfl, Nat.le_of_ble_eq_true rfl⟩) hK hN hP hS hA [0, 1, 2, 3, 4] [0, 1] rfl rfl 0 5 rfl rfl rfl rfl hl.1 rfl (Nat.le_of_ble_eq_true rfl) dX7_elementOf_41 ⟨Nat.zero_le _, Nat.zero_le _⟩ (fun H locs hz9 hP hS => ?_)
    refine wv_ti (y := (nu k).toInt32) (of_n (by omega) (by omega)) ?_
    exact wv_iretP hx hb hr hlocks hS (by first | rfl | (simp only [elV, *]; rfl)) dX7_elementOf_44
  · skip
    refine lv_iload_n hx hb dX7_elementOf_0 rfl (lv_at hl 2 rfl) ?_
    refine lv_tableIn (tgt := 45) hx hb dX7_elementOf_1 (by decide) (by decide) rfl (by decide) ?_
    refine lv_aload_n hx hb dX7_elementOf_45 rfl (lv_at hl 0 rfl) ?_
    refine lv_iload_n hx hb dX7_elementOf_46 rfl (lv_at hl 1 rfl) ?_
    refine wv_callPi (As := [.int (nI k)]) (rest := []) ⟨hx, hb, hml, hown, hts⟩ (kX7_rank l D mo sa pa ha ta cJ cI n b fl me st lk cm v nu pt hd tx ps ru ty rf lks lo1 hi1 sp cd pl gv k (by first | assumption | omega) (by first | assumption | omega)) (cwV 1 hts gX7_elementOf_X7_rank rfl rfl rfl (by decide +kernel) ⟨Nat.le_of_ble_eq_true rfl, Nat.le_of_ble_eq_true rfl⟩) hK hN hP hS hA [0, 1, 2, 3, 4] [0, 1] rfl rfl 0 5 rfl rfl rfl rfl hl.1 rfl (Nat.le_of_ble_eq_true rfl) dX7_elementOf_47 ⟨Nat.zero_le _, Nat.zero_le _⟩ (fun H locs hz9 hP hS => ?_)
    exact wv_iretP hx hb hr hlocks hS (by first | rfl | (simp only [elV, *]; rfl)) dX7_elementOf_50
  · skip
    refine lv_iload_n hx hb dX7_elementOf_0 rfl (lv_at hl 2 rfl) ?_
    refine lv_tableIn (tgt := 51) hx hb dX7_elementOf_1 (by decide) (by decide) rfl (by decide) ?_
    refine lv_aload_n hx hb dX7_elementOf_51 rfl (lv_at hl 0 rfl) ?_
    refine lv_iload_n hx hb dX7_elementOf_52 rfl (lv_at hl 1 rfl) ?_
    refine wv_callPi (As := [.int (nI k)]) (rest := []) ⟨hx, hb, hml, hown, hts⟩ (kX7_distance l D mo sa pa ha ta cJ cI n b fl me st lk cm v nu pt hd tx ps ru ty rf lks lo1 hi1 sp cd pl gv k (by first | assumption | omega) (by first | assumption | omega)) (cwV 1 hts gX7_elementOf_X7_distance rfl rfl rfl (by decide +kernel) ⟨Nat.le_of_ble_eq_true rfl, Nat.le_of_ble_eq_true rfl⟩) hK hN hP hS hA [0, 1, 2, 3, 4] [0, 1] rfl rfl 0 5 rfl rfl rfl rfl hl.1 rfl (Nat.le_of_ble_eq_true rfl) dX7_elementOf_53 ⟨Nat.zero_le _, Nat.zero_le _⟩ (fun H locs hz9 hP hS => ?_)
    exact wv_iretP hx hb hr hlocks hS (by first | rfl | (simp only [elV, *]; rfl)) dX7_elementOf_56
  · skip
    refine lv_iload_n hx hb dX7_elementOf_0 rfl (lv_at hl 2 rfl) ?_
    refine lv_tableIn (tgt := 57) hx hb dX7_elementOf_1 (by decide) (by decide) rfl (by decide) ?_
    refine lv_aload_n hx hb dX7_elementOf_57 rfl (lv_at hl 0 rfl) ?_
    refine lv_iload_n hx hb dX7_elementOf_58 rfl (lv_at hl 1 rfl) ?_
    refine wv_callPi (As := [.int (nI k)]) (rest := []) ⟨hx, hb, hml, hown, hts⟩ (kX7_isBroken l D mo sa pa ha ta cJ cI n b fl me st lk cm v nu pt hd tx ps ru ty rf lks lo1 hi1 sp cd pl gv k (by first | assumption | omega) (by first | assumption | omega) (by first | assumption | omega)) (cwV 1 hts gX7_elementOf_X7_isBroken rfl rfl rfl (by decide +kernel) ⟨Nat.le_of_ble_eq_true rfl, Nat.le_of_ble_eq_true rfl⟩) hK hN hP hS hA [0, 1, 2, 3, 4] [0, 1] rfl rfl 0 5 rfl rfl rfl rfl hl.1 rfl (Nat.le_of_ble_eq_true rfl) dX7_elementOf_59 ⟨Nat.zero_le _, Nat.zero_le _⟩ (fun H locs hz9 hP hS => ?_)
    refine wv_ifeqB (tgt := 69) hx hb dX7_elementOf_62 (by decide) (fun c62 => ?_) (fun c62 => ?_)
    · skip
      refine lv_iconst (v := nI 0) hx hb dX7_elementOf_69 (by decide) ?_
      exact wv_iretP hx hb hr hlocks hS (by first | rfl | (simp only [elV, *]; rfl)) dX7_elementOf_70
    · skip
      refine lv_iconst (v := nI 1) hx hb dX7_elementOf_65 (by decide) ?_
      refine lv_goto (tgt := 70) hx hb dX7_elementOf_66 (by decide) ?_
      exact wv_iretP hx hb hr hlocks hS (by first | rfl | (simp only [elV, *]; rfl)) dX7_elementOf_70
  · skip
    refine lv_iload_n hx hb dX7_elementOf_0 rfl (lv_at hl 2 rfl) ?_
    refine lv_tableIn (tgt := 71) hx hb dX7_elementOf_1 (by decide) (by decide) rfl (by decide) ?_
    refine lv_aload_n hx hb dX7_elementOf_71 rfl (lv_at hl 0 rfl) ?_
    refine lv_iload_n hx hb dX7_elementOf_72 rfl (lv_at hl 1 rfl) ?_
    refine wv_callPi (As := [.int (nI k)]) (rest := []) ⟨hx, hb, hml, hown, hts⟩ (kX7_isFall l D mo sa pa ha ta cJ cI n b fl me st lk cm v nu pt hd tx ps ru ty rf lks lo1 hi1 sp cd pl gv k (by first | assumption | omega) (by first | assumption | omega)) (cwV 1 hts gX7_elementOf_X7_isFall rfl rfl rfl (by decide +kernel) ⟨Nat.le_of_ble_eq_true rfl, Nat.le_of_ble_eq_true rfl⟩) hK hN hP hS hA [0, 1, 2, 3, 4] [0, 1] rfl rfl 0 5 rfl rfl rfl rfl hl.1 rfl (Nat.le_of_ble_eq_true rfl) dX7_elementOf_73 ⟨Nat.zero_le _, Nat.zero_le _⟩ (fun H locs hz9 hP hS => ?_)
    refine wv_ifeqB (tgt := 83) hx hb dX7_elementOf_76 (by decide) (fun c76 => ?_) (fun c76 => ?_)
    · skip
      refine lv_iconst (v := nI 0) hx hb dX7_elementOf_83 (by decide) ?_
      exact wv_iretP hx hb hr hlocks hS (by first | rfl | (simp only [elV, *]; rfl)) dX7_elementOf_84
    · skip
      refine lv_iconst (v := nI 1) hx hb dX7_elementOf_79 (by decide) ?_
      refine lv_goto (tgt := 84) hx hb dX7_elementOf_80 (by decide) ?_
      exact wv_iretP hx hb hr hlocks hS (by first | rfl | (simp only [elV, *]; rfl)) dX7_elementOf_84
  · skip
    refine lv_iload_n hx hb dX7_elementOf_0 rfl (lv_at hl 2 rfl) ?_
    refine lv_tableOut (tgt := 85) hx hb dX7_elementOf_1 (by decide) (by decide) ?_
    refine lv_aload_n hx hb dX7_elementOf_85 rfl (lv_at hl 0 rfl) ?_
    refine lv_iload_n hx hb dX7_elementOf_86 rfl (lv_at hl 1 rfl) ?_
    refine wv_callPi (As := [.int (nI k)]) (rest := []) ⟨hx, hb, hml, hown, hts⟩ (kX7_inversionsOf l D mo sa pa ha ta cJ cI n b fl me st lk cm v nu pt hd tx ps ru ty rf lks lo1 hi1 sp cd pl gv k (by first | assumption | omega) (by first | assumption | omega)) (cwV 1 hts gX7_elementOf_X7_inversionsOf rfl rfl rfl (by decide +kernel) ⟨Nat.le_of_ble_eq_true rfl, Nat.le_of_ble_eq_true rfl⟩) hK hN hP hS hA [0, 1, 2, 3, 4] [0, 1] rfl rfl 0 5 rfl rfl rfl rfl hl.1 rfl (Nat.le_of_ble_eq_true rfl) dX7_elementOf_87 ⟨Nat.zero_le _, Nat.zero_le _⟩ (fun H locs hz9 hP hS => ?_)
    exact wv_iretP hx hb hr hlocks hS (by first | rfl | (simp only [elV, *]; rfl)) dX7_elementOf_90

set_option maxHeartbeats 4000000 in
set_option maxRecDepth 100000 in
theorem kX7_wholeOf (l : Launch) (D : va_G) (mo : Nat) (sa : Nat) (pa : Nat) (ha : Nat) (ta : Nat) (cJ : ClassId) (cI : ClassId) (n : Nat) (b : Nat) (fl : Bool) (me : Bool) (st : Int64) (lk : Int64) (cm : Int64) (v : Nat → Int64) (nu : Nat → Int64) (pt : Nat → Int64) (hd : Nat → Int64) (tx : Nat → Int32) (ps : Nat) (ru : Bool) (ty : Nat) (rf : Nat) (lks : Nat) (lo1 : Int32) (hi1 : Int32) (sp : Nat) (cd : Int32) (pl : Int32) (gv : Int64) (w : Nat) (hn : n ≤ 32) (hb : b ≤ 31) (hw : w ≤ 11) : PMi l yX7_wholeOf wsX7_wholeOf ({ frames := 5, cells := 0, slots := 0, locals := 112 } : Room) [.ref mo, .int (nI w)] D (ModC mo sa pa ha ta cJ cI (sM n b fl me st lk cm v nu) pt hd tx ps ru ty rf lks lo1 hi1 sp cd pl gv) [(cJ, .long), (cI, .int)] (whV fl me v n b st.toInt32 lk.toInt32 cm.toInt32 ty w) := by
  refine PMi_of (cc := cX7_wholeOf) (maxL := 2) (ret := some .int) (by decide +kernel) rfl (Nat.le_of_ble_eq_true rfl) ?_
  intro p e s m args below meth c hx hb hr hts hown hlocks hml hP hK hN ls hl
  have hown : s.vm.findClass RX7 = some m.cls := hown
  have hl : lv_has ls 2 [(0, .ref mo), (1, .int (nI w))] := hl
  have hS : va_S (va_A [] s.heap.size) s.heap s.heap [] := va_S.rf
  have hA := wk_hA [] s.heap.size
  have hD9 : True := trivial
  have hinX7 : ∀ w ∈ wsX70, w ∈ wsX7_wholeOf := by decide +kernel
  rcases (show w = 0 ∨ w = 1 ∨ w = 2 ∨ w = 3 ∨ w = 4 ∨ w = 5 ∨ w = 6 ∨ w = 7 ∨ w = 8 ∨ w = 9 ∨ w = 10 ∨ w = 11 by omega) with rfl | rfl | rfl | rfl | rfl | rfl | rfl | rfl | rfl | rfl | rfl | rfl
  · skip
    refine lv_iload_n hx hb dX7_wholeOf_0 rfl (lv_at hl 1 rfl) ?_
    refine lv_tableIn (tgt := 60) hx hb dX7_wholeOf_1 (by decide) (by decide) rfl (by decide) ?_
    refine lv_aload_n hx hb dX7_wholeOf_60 rfl (lv_at hl 0 rfl) ?_
    refine lv_iload_n hx hb dX7_wholeOf_61 rfl (lv_at hl 1 rfl) ?_
    refine wv_callPi (As := [.int (nI 0)]) (rest := []) ⟨hx, hb, hml, hown, hts⟩ (kX7_of l D mo sa pa ha ta cJ cI n b fl me st lk cm v nu pt hd tx ps ru ty rf lks lo1 hi1 sp cd pl gv 0 (by first | assumption | omega)) (cwV 1 hts gX7_wholeOf_X7_of rfl rfl rfl (by decide +kernel) ⟨Nat.le_of_ble_eq_true rfl, Nat.le_of_ble_eq_true rfl⟩) hK hN hP hS hA [0, 1, 2, 3, 4] [0, 1] rfl rfl 0 5 rfl rfl rfl rfl hl.1 rfl (Nat.le_of_ble_eq_true rfl) dX7_wholeOf_62 ⟨Nat.zero_le _, Nat.zero_le _⟩ (fun H locs hz9 hP hS => ?_)
    refine wv_ti (y := nI n) of_0 ?_
    exact wv_iretP hx hb hr hlocks hS (by rfl) dX7_wholeOf_65
  · skip
    refine lv_iload_n hx hb dX7_wholeOf_0 rfl (lv_at hl 1 rfl) ?_
    refine lv_tableIn (tgt := 60) hx hb dX7_wholeOf_1 (by decide) (by decide) rfl (by decide) ?_
    refine lv_aload_n hx hb dX7_wholeOf_60 rfl (lv_at hl 0 rfl) ?_
    refine lv_iload_n hx hb dX7_wholeOf_61 rfl (lv_at hl 1 rfl) ?_
    refine wv_callPi (As := [.int (nI 1)]) (rest := []) ⟨hx, hb, hml, hown, hts⟩ (kX7_of l D mo sa pa ha ta cJ cI n b fl me st lk cm v nu pt hd tx ps ru ty rf lks lo1 hi1 sp cd pl gv 1 (by first | assumption | omega)) (cwV 1 hts gX7_wholeOf_X7_of rfl rfl rfl (by decide +kernel) ⟨Nat.le_of_ble_eq_true rfl, Nat.le_of_ble_eq_true rfl⟩) hK hN hP hS hA [0, 1, 2, 3, 4] [0, 1] rfl rfl 0 5 rfl rfl rfl rfl hl.1 rfl (Nat.le_of_ble_eq_true rfl) dX7_wholeOf_62 ⟨Nat.zero_le _, Nat.zero_le _⟩ (fun H locs hz9 hP hS => ?_)
    refine wv_ti (y := nI b) of_1 ?_
    exact wv_iretP hx hb hr hlocks hS (by rfl) dX7_wholeOf_65
  · skip
    refine lv_iload_n hx hb dX7_wholeOf_0 rfl (lv_at hl 1 rfl) ?_
    refine lv_tableIn (tgt := 60) hx hb dX7_wholeOf_1 (by decide) (by decide) rfl (by decide) ?_
    refine lv_aload_n hx hb dX7_wholeOf_60 rfl (lv_at hl 0 rfl) ?_
    refine lv_iload_n hx hb dX7_wholeOf_61 rfl (lv_at hl 1 rfl) ?_
    refine wv_callPi (As := [.int (nI 2)]) (rest := []) ⟨hx, hb, hml, hown, hts⟩ (kX7_of l D mo sa pa ha ta cJ cI n b fl me st lk cm v nu pt hd tx ps ru ty rf lks lo1 hi1 sp cd pl gv 2 (by first | assumption | omega)) (cwV 1 hts gX7_wholeOf_X7_of rfl rfl rfl (by decide +kernel) ⟨Nat.le_of_ble_eq_true rfl, Nat.le_of_ble_eq_true rfl⟩) hK hN hP hS hA [0, 1, 2, 3, 4] [0, 1] rfl rfl 0 5 rfl rfl rfl rfl hl.1 rfl (Nat.le_of_ble_eq_true rfl) dX7_wholeOf_62 ⟨Nat.zero_le _, Nat.zero_le _⟩ (fun H locs hz9 hP hS => ?_)
    refine wv_ti (y := bI fl) of_2 ?_
    exact wv_iretP hx hb hr hlocks hS (by rfl) dX7_wholeOf_65
  · skip
    refine lv_iload_n hx hb dX7_wholeOf_0 rfl (lv_at hl 1 rfl) ?_
    refine lv_tableIn (tgt := 60) hx hb dX7_wholeOf_1 (by decide) (by decide) rfl (by decide) ?_
    refine lv_aload_n hx hb dX7_wholeOf_60 rfl (lv_at hl 0 rfl) ?_
    refine lv_iload_n hx hb dX7_wholeOf_61 rfl (lv_at hl 1 rfl) ?_
    refine wv_callPi (As := [.int (nI 3)]) (rest := []) ⟨hx, hb, hml, hown, hts⟩ (kX7_of l D mo sa pa ha ta cJ cI n b fl me st lk cm v nu pt hd tx ps ru ty rf lks lo1 hi1 sp cd pl gv 3 (by first | assumption | omega)) (cwV 1 hts gX7_wholeOf_X7_of rfl rfl rfl (by decide +kernel) ⟨Nat.le_of_ble_eq_true rfl, Nat.le_of_ble_eq_true rfl⟩) hK hN hP hS hA [0, 1, 2, 3, 4] [0, 1] rfl rfl 0 5 rfl rfl rfl rfl hl.1 rfl (Nat.le_of_ble_eq_true rfl) dX7_wholeOf_62 ⟨Nat.zero_le _, Nat.zero_le _⟩ (fun H locs hz9 hP hS => ?_)
    refine wv_ti (y := bI me) of_3 ?_
    exact wv_iretP hx hb hr hlocks hS (by rfl) dX7_wholeOf_65
  · skip
    refine lv_iload_n hx hb dX7_wholeOf_0 rfl (lv_at hl 1 rfl) ?_
    refine lv_tableIn (tgt := 66) hx hb dX7_wholeOf_1 (by decide) (by decide) rfl (by decide) ?_
    refine lv_aload_n hx hb dX7_wholeOf_66 rfl (lv_at hl 0 rfl) ?_
    refine wv_callPi (As := []) (rest := []) ⟨hx, hb, hml, hown, hts⟩ (kX7_brokenOnes l D mo sa pa ha ta cJ cI n b fl me st lk cm v nu pt hd tx ps ru ty rf lks lo1 hi1 sp cd pl gv (by first | assumption | omega) (by first | assumption | omega)) (cwV 0 hts gX7_wholeOf_X7_brokenOnes rfl rfl rfl (by decide +kernel) ⟨Nat.le_of_ble_eq_true rfl, Nat.le_of_ble_eq_true rfl⟩) hK hN hP hS hA [0, 1, 2, 3, 4] [0, 1] rfl rfl 0 5 rfl rfl rfl rfl hl.1 rfl (Nat.le_of_ble_eq_true rfl) dX7_wholeOf_67 ⟨Nat.zero_le _, Nat.zero_le _⟩ (fun H locs hz9 hP hS => ?_)
    exact wv_iretP hx hb hr hlocks hS (by rfl) dX7_wholeOf_70
  · skip
    refine lv_iload_n hx hb dX7_wholeOf_0 rfl (lv_at hl 1 rfl) ?_
    refine lv_tableIn (tgt := 71) hx hb dX7_wholeOf_1 (by decide) (by decide) rfl (by decide) ?_
    refine lv_aload_n hx hb dX7_wholeOf_71 rfl (lv_at hl 0 rfl) ?_
    refine wv_callPi (As := []) (rest := []) ⟨hx, hb, hml, hown, hts⟩ (kX7_inversions l D mo sa pa ha ta cJ cI n b fl me st lk cm v nu pt hd tx ps ru ty rf lks lo1 hi1 sp cd pl gv (by first | assumption | omega)) (cwV 0 hts gX7_wholeOf_X7_inversions rfl rfl rfl (by decide +kernel) ⟨Nat.le_of_ble_eq_true rfl, Nat.le_of_ble_eq_true rfl⟩) hK hN hP hS hA [0, 1, 2, 3, 4] [0, 1] rfl rfl 0 5 rfl rfl rfl rfl hl.1 rfl (Nat.le_of_ble_eq_true rfl) dX7_wholeOf_72 ⟨Nat.zero_le _, Nat.zero_le _⟩ (fun H locs hz9 hP hS => ?_)
    exact wv_iretP hx hb hr hlocks hS (by rfl) dX7_wholeOf_75
  · skip
    refine lv_iload_n hx hb dX7_wholeOf_0 rfl (lv_at hl 1 rfl) ?_
    refine lv_tableIn (tgt := 76) hx hb dX7_wholeOf_1 (by decide) (by decide) rfl (by decide) ?_
    refine lv_aload_n hx hb dX7_wholeOf_76 rfl (lv_at hl 0 rfl) ?_
    refine wv_callPi (As := []) (rest := []) ⟨hx, hb, hml, hown, hts⟩ (kX7_falls l D mo sa pa ha ta cJ cI n b fl me st lk cm v nu pt hd tx ps ru ty rf lks lo1 hi1 sp cd pl gv (by first | assumption | omega)) (cwV 0 hts gX7_wholeOf_X7_falls rfl rfl rfl (by decide +kernel) ⟨Nat.le_of_ble_eq_true rfl, Nat.le_of_ble_eq_true rfl⟩) hK hN hP hS hA [0, 1, 2, 3, 4] [0, 1] rfl rfl 0 5 rfl rfl rfl rfl hl.1 rfl (Nat.le_of_ble_eq_true rfl) dX7_wholeOf_77 ⟨Nat.zero_le _, Nat.zero_le _⟩ (fun H locs hz9 hP hS => ?_)
    exact wv_iretP hx hb hr hlocks hS (by rfl) dX7_wholeOf_80
  · skip
    refine lv_iload_n hx hb dX7_wholeOf_0 rfl (lv_at hl 1 rfl) ?_
    refine lv_tableIn (tgt := 81) hx hb dX7_wholeOf_1 (by decide) (by decide) rfl (by decide) ?_
    refine lv_aload_n hx hb dX7_wholeOf_81 rfl (lv_at hl 0 rfl) ?_
    refine lv_iconst (v := nI 4) hx hb dX7_wholeOf_82 (by decide) ?_
    refine wv_callPi (As := [.int (nI 4)]) (rest := []) ⟨hx, hb, hml, hown, hts⟩ (kX7_of l D mo sa pa ha ta cJ cI n b fl me st lk cm v nu pt hd tx ps ru ty rf lks lo1 hi1 sp cd pl gv 4 (by first | assumption | omega)) (cwV 1 hts gX7_wholeOf_X7_of rfl rfl rfl (by decide +kernel) ⟨Nat.le_of_ble_eq_true rfl, Nat.le_of_ble_eq_true rfl⟩) hK hN hP hS hA [0, 1, 2, 3, 4] [0, 1] rfl rfl 0 5 rfl rfl rfl rfl hl.1 rfl (Nat.le_of_ble_eq_true rfl) dX7_wholeOf_83 ⟨Nat.zero_le _, Nat.zero_le _⟩ (fun H locs hz9 hP hS => ?_)
    refine wv_ti (y := st.toInt32) of_4 ?_
    exact wv_iretP hx hb hr hlocks hS (by rfl) dX7_wholeOf_86
  · skip
    refine lv_iload_n hx hb dX7_wholeOf_0 rfl (lv_at hl 1 rfl) ?_
    refine lv_tableIn (tgt := 87) hx hb dX7_wholeOf_1 (by decide) (by decide) rfl (by decide) ?_
    refine lv_aload_n hx hb dX7_wholeOf_87 rfl (lv_at hl 0 rfl) ?_
    refine lv_iconst (v := nI 5) hx hb dX7_wholeOf_88 (by decide) ?_
    refine wv_callPi (As := [.int (nI 5)]) (rest := []) ⟨hx, hb, hml, hown, hts⟩ (kX7_of l D mo sa pa ha ta cJ cI n b fl me st lk cm v nu pt hd tx ps ru ty rf lks lo1 hi1 sp cd pl gv 5 (by first | assumption | omega)) (cwV 1 hts gX7_wholeOf_X7_of rfl rfl rfl (by decide +kernel) ⟨Nat.le_of_ble_eq_true rfl, Nat.le_of_ble_eq_true rfl⟩) hK hN hP hS hA [0, 1, 2, 3, 4] [0, 1] rfl rfl 0 5 rfl rfl rfl rfl hl.1 rfl (Nat.le_of_ble_eq_true rfl) dX7_wholeOf_89 ⟨Nat.zero_le _, Nat.zero_le _⟩ (fun H locs hz9 hP hS => ?_)
    refine wv_ti (y := lk.toInt32) of_5 ?_
    exact wv_iretP hx hb hr hlocks hS (by rfl) dX7_wholeOf_92
  · skip
    refine lv_iload_n hx hb dX7_wholeOf_0 rfl (lv_at hl 1 rfl) ?_
    refine lv_tableIn (tgt := 93) hx hb dX7_wholeOf_1 (by decide) (by decide) rfl (by decide) ?_
    refine lv_aload_n hx hb dX7_wholeOf_93 rfl (lv_at hl 0 rfl) ?_
    refine lv_bipush (v := nI 6) hx hb dX7_wholeOf_94 (by decide) ?_
    refine wv_callPi (As := [.int (nI 6)]) (rest := []) ⟨hx, hb, hml, hown, hts⟩ (kX7_of l D mo sa pa ha ta cJ cI n b fl me st lk cm v nu pt hd tx ps ru ty rf lks lo1 hi1 sp cd pl gv 6 (by first | assumption | omega)) (cwV 1 hts gX7_wholeOf_X7_of rfl rfl rfl (by decide +kernel) ⟨Nat.le_of_ble_eq_true rfl, Nat.le_of_ble_eq_true rfl⟩) hK hN hP hS hA [0, 1, 2, 3, 4] [0, 1] rfl rfl 0 5 rfl rfl rfl rfl hl.1 rfl (Nat.le_of_ble_eq_true rfl) dX7_wholeOf_96 ⟨Nat.zero_le _, Nat.zero_le _⟩ (fun H locs hz9 hP hS => ?_)
    refine wv_ti (y := cm.toInt32) of_6 ?_
    exact wv_iretP hx hb hr hlocks hS (by rfl) dX7_wholeOf_99
  · skip
    refine lv_iload_n hx hb dX7_wholeOf_0 rfl (lv_at hl 1 rfl) ?_
    refine lv_tableIn (tgt := 100) hx hb dX7_wholeOf_1 (by decide) (by decide) rfl (by decide) ?_
    refine lv_aload_n hx hb dX7_wholeOf_100 rfl (lv_at hl 0 rfl) ?_
    refine wv_callPi (As := []) (rest := []) ⟨hx, hb, hml, hown, hts⟩ (kX7_farthest l D mo sa pa ha ta cJ cI n b fl me st lk cm v nu pt hd tx ps ru ty rf lks lo1 hi1 sp cd pl gv (by first | assumption | omega)) (cwV 0 hts gX7_wholeOf_X7_farthest rfl rfl rfl (by decide +kernel) ⟨Nat.le_of_ble_eq_true rfl, Nat.le_of_ble_eq_true rfl⟩) hK hN hP hS hA [0, 1, 2, 3, 4] [0, 1] rfl rfl 0 5 rfl rfl rfl rfl hl.1 rfl (Nat.le_of_ble_eq_true rfl) dX7_wholeOf_101 ⟨Nat.zero_le _, Nat.zero_le _⟩ (fun H locs hz9 hP hS => ?_)
    exact wv_iretP hx hb hr hlocks hS (by rfl) dX7_wholeOf_104
  · skip
    refine lv_iload_n hx hb dX7_wholeOf_0 rfl (lv_at hl 1 rfl) ?_
    refine lv_tableOut (tgt := 105) hx hb dX7_wholeOf_1 (by decide) (by decide) ?_
    refine lv_aload_n hx hb dX7_wholeOf_105 rfl (lv_at hl 0 rfl) ?_
    refine va_get (D := D) (ci := 5) (C := RX7) (T := TX7) (N := 15) hx hb hts hinX7 hown hK hP 0 rfl rfl 6 (by decide) (hts (.fieldLink RX7 136 "NearRanksModel" "typed" "I") (by decide +kernel)) (fun _ h9 => h9) rfl dX7_wholeOf_106 ?_
    exact wv_iretP hx hb hr hlocks hS (by rfl) dX7_wholeOf_109

set_option maxHeartbeats 4000000 in
set_option maxRecDepth 100000 in
theorem kX7_worst (l : Launch) (D : va_G) (mo : Nat) (sa : Nat) (pa : Nat) (ha : Nat) (ta : Nat) (cJ : ClassId) (cI : ClassId) (n : Nat) (b : Nat) (fl : Bool) (me : Bool) (st : Int64) (lk : Int64) (cm : Int64) (v : Nat → Int64) (nu : Nat → Int64) (pt : Nat → Int64) (hd : Nat → Int64) (tx : Nat → Int32) (ps : Nat) (ru : Bool) (ty : Nat) (rf : Nat) (lks : Nat) (lo1 : Int32) (hi1 : Int32) (sp : Nat) (cd : Int32) (pl : Int32) (gv : Int64) (hn : n ≤ 32) (hb : b ≤ 31) : MMi l yX7_worst wsX7_worst ({ frames := 2, cells := 0, slots := 0, locals := 50 } : Room) [.ref mo] D (ModC mo sa pa ha ta cJ cI (sM n b fl me st lk cm v nu) pt hd tx ps ru ty rf lks lo1 hi1 sp cd pl gv) [(cJ, .long), (cI, .int)] (nI (mx (fun j => sr2 fl v n b (v j)) n)) (ModC mo sa pa ha ta cJ cI (sM n b fl me st lk cm v nu) pt hd tx ps ru ty rf (lst lks (fun j => sr2 fl v n b (v j)) n) (lst lo1 (fun j => sr3 fl v n b (v j)) n) (lst hi1 (fun j => sr4 fl v n b (v j)) n) sp cd pl gv) := by
  refine MMi_of (cc := cX7_worst) (maxL := 4) (ret := some .int) (by decide +kernel) rfl (Nat.le_of_ble_eq_true rfl) ?_
  intro p e s m args below meth c hx hb hr hts hown hlocks hml hP hK hN hD ls hl
  have hown : s.vm.findClass RX7 = some m.cls := hown
  have hl : lv_has ls 4 [(0, .ref mo)] := hl
  have hS : va_S (va_A (ModC mo sa pa ha ta cJ cI (sM n b fl me st lk cm v nu) pt hd tx ps ru ty rf lks lo1 hi1 sp cd pl gv) s.heap.size) s.heap s.heap [] := va_S.rf
  have hA := wk_hA (ModC mo sa pa ha ta cJ cI (sM n b fl me st lk cm v nu) pt hd tx ps ru ty rf lks lo1 hi1 sp cd pl gv) s.heap.size
  have hD9 : True := trivial
  have hinX7 : ∀ w ∈ wsX70, w ∈ wsX7_worst := by decide +kernel
  refine lv_iconst (v := nI 0) hx hb dX7_worst_0 (by decide) ?_
  refine lv_istore_n (lv' := [(1, .int (nI 0)), (0, .ref mo)]) hx hb dX7_worst_1 rfl hl (by decide) rfl (fun ls hl => ?_)
  refine lv_iconst (v := nI 0) hx hb dX7_worst_2 (by decide) ?_
  refine lv_istore_n (lv' := [(2, .int (nI 0)), (1, .int (nI 0)), (0, .ref mo)]) hx hb dX7_worst_3 rfl hl (by decide) rfl (fun ls hl => ?_)
  have el_l1 : mx (fun j => sr2 fl v n b (v j)) 0 = 0 := by rfl
  have el_w0_lks : lst lks (fun j => sr2 fl v n b (v j)) 0 = lks := by rfl
  have el_w0_lo1 : lst lo1 (fun j => sr3 fl v n b (v j)) 0 = lo1 := by rfl
  have el_w0_hi1 : lst hi1 (fun j => sr4 fl v n b (v j)) 0 = hi1 := by rfl
  have loop4 : ∀ (K : Nat) (i : Nat), n - i < K → i ≤ n → ∀ (H : Heap) (locs : List Loc), va_P D vwCl (ModC mo sa pa ha ta cJ cI (sM n b fl me st lk cm v nu) pt hd tx ps ru ty rf (lst lks (fun j => sr2 fl v n b (v j)) i) (lst lo1 (fun j => sr3 fl v n b (v j)) i) (lst hi1 (fun j => sr4 fl v n b (v j)) i) sp cd pl gv) H → va_D (va_A (ModC mo sa pa ha ta cJ cI (sM n b fl me st lk cm v nu) pt hd tx ps ru ty rf lks lo1 hi1 sp cd pl gv) s.heap.size) (ModC mo sa pa ha ta cJ cI (sM n b fl me st lk cm v nu) pt hd tx ps ru ty rf (lst lks (fun j => sr2 fl v n b (v j)) i) (lst lo1 (fun j => sr3 fl v n b (v j)) i) (lst hi1 (fun j => sr4 fl v n b (v j)) i) sp cd pl gv) → va_S (va_A (ModC mo sa pa ha ta cJ cI (sM n b fl me st lk cm v nu) pt hd tx ps ru ty rf lks lo1 hi1 sp cd pl gv) s.heap.size) s.heap H locs → ∀ ls : Array Slot, lv_has ls 4 [(0, .ref mo), (1, .int (nI (mx (fun j => sr2 fl v n b (v j)) i))), (2, .int (nI i))] → W p l e ({ frames := 2, cells := 0, slots := 0, locals := 50 } : Room) s m args below meth c H locs 0 0 (ZMi below args s D (ModC mo sa pa ha ta cJ cI (sM n b fl me st lk cm v nu) pt hd tx ps ru ty rf lks lo1 hi1 sp cd pl gv) (nI (mx (fun j => sr2 fl v n b (v j)) n)) (ModC mo sa pa ha ta cJ cI (sM n b fl me st lk cm v nu) pt hd tx ps ru ty rf (lst lks (fun j => sr2 fl v n b (v j)) n) (lst lo1 (fun j => sr3 fl v n b (v j)) n) (lst hi1 (fun j => sr4 fl v n b (v j)) n) sp cd pl gv)) (F0 m 4 ls []) := by
    intro K
    induction K with
    | zero => intro i hK0; exact absurd hK0 (Nat.not_lt_zero _)
    | succ K ih4 =>
      intro i hKm hi H locs hP hD hS ls hl
      refine lv_iload_n hx hb dX7_worst_4 rfl (lv_at hl 2 rfl) ?_
      refine lv_aload_n hx hb dX7_worst_5 rfl (lv_at hl 0 rfl) ?_
      refine lv_iconst (v := nI 0) hx hb dX7_worst_6 (by decide) ?_
      refine wv_callPi (As := [.int (nI 0)]) (rest := [.int (nI i)]) ⟨hx, hb, hml, hown, hts⟩ (kX7_of l D mo sa pa ha ta cJ cI n b fl me st lk cm v nu pt hd tx ps ru ty rf (lst lks (fun j => sr2 fl v n b (v j)) i) (lst lo1 (fun j => sr3 fl v n b (v j)) i) (lst hi1 (fun j => sr4 fl v n b (v j)) i) sp cd pl gv 0 (by first | assumption | omega)) (cwV 1 hts gX7_worst_X7_of rfl rfl rfl (by decide +kernel) ⟨Nat.le_of_ble_eq_true rfl, Nat.le_of_ble_eq_true rfl⟩) hK hN hP hS hA [0, 1, 2, 3, 4] [0, 1] rfl rfl 0 5 rfl rfl rfl rfl hl.1 rfl (Nat.le_of_ble_eq_true rfl) dX7_worst_7 ⟨Nat.zero_le _, Nat.zero_le _⟩ (fun H locs hz9 hP hS => ?_)
      refine wv_ti (y := nI n) of_0 ?_
      refine wv_icmp_ge (tgt := 57) hx hb (by omega) (by omega) dX7_worst_10 (by decide) (fun c10 => ?_) (fun c10 => ?_)
      · skip
        refine lv_iload_n hx hb dX7_worst_57 rfl (lv_at hl 1 rfl) ?_
        have ew0_lks : lst lks (fun j => sr2 fl v n b (v j)) n = lst lks (fun j => sr2 fl v n b (v j)) i := by rw [show i = n by omega]
        have ew0_lo1 : lst lo1 (fun j => sr3 fl v n b (v j)) n = lst lo1 (fun j => sr3 fl v n b (v j)) i := by rw [show i = n by omega]
        have ew0_hi1 : lst hi1 (fun j => sr4 fl v n b (v j)) n = lst hi1 (fun j => sr4 fl v n b (v j)) i := by rw [show i = n by omega]
        exact wv_iretM hx hb hr hlocks hP hD hS (by rw [show i = n by omega]) (by rw [ew0_hi1, ew0_lks, ew0_lo1]) dX7_worst_58
      · skip
        have hs2 := sr2_le fl v (n := n) b (v i) hn
        have hm2 : mx (fun j => sr2 fl v n b (v j)) i ≤ 64 := mx_le (fun k _ => sr2_le fl v b (v k) hn)
        refine lv_aload_n hx hb dX7_worst_13 rfl (lv_at hl 0 rfl) ?_
        refine lv_aload_n hx hb dX7_worst_14 rfl (lv_at hl 0 rfl) ?_
        refine va_get (D := D) (ci := 5) (C := RX7) (T := TX7) (N := 15) hx hb hts hinX7 hown hK hP 0 rfl rfl 0 (by decide) (hts (.fieldLink RX7 7 "NearRanksModel" "s" "[J") (by decide +kernel)) (fun _ h9 => h9) rfl dX7_worst_15 ?_
        refine lv_bipush (v := nI 7) hx hb dX7_worst_18 (by decide) ?_
        refine lv_iload_n hx hb dX7_worst_20 rfl (lv_at hl 2 rfl) ?_
        refine lv_iadd hx hb dX7_worst_21 ?_
        refine wv_ti (nI_add _ _) ?_
        refine wv_lald hx hb hK hP 1 0 rfl rfl (k := 7 + i) (by omega) (by decide) dX7_worst_22 ?_
        refine wv_tl (y := v i) (sM_v (by omega) (by omega)) ?_
        refine wv_callMi (As := [.long (v i)]) (rest := []) (wr := []) (ws1 := ModC mo sa pa ha ta cJ cI (sM n b fl me st lk cm v nu) pt hd tx ps ru ty rf (sr2 fl v n b (v i)) (sr3 fl v n b (v i)) (sr4 fl v n b (v i)) sp cd pl gv) ⟨hx, hb, hml, hown, hts⟩ (kX7_searches l D mo sa pa ha ta cJ cI n b fl me st lk cm v nu pt hd tx ps ru ty rf (lst lks (fun j => sr2 fl v n b (v j)) i) (lst lo1 (fun j => sr3 fl v n b (v j)) i) (lst hi1 (fun j => sr4 fl v n b (v j)) i) sp cd pl gv (v i) (by first | assumption | omega) (by first | assumption | omega)) (cwV 1 hts gX7_worst_X7_searches rfl rfl rfl (by decide +kernel) ⟨Nat.le_of_ble_eq_true rfl, Nat.le_of_ble_eq_true rfl⟩) hK hN hP hD hS hA [0, 1, 2, 3, 4] [] [0, 1] [0, 1, 2, 3, 4] rfl rfl (by decide) rfl (by decide) (by decide) rfl (by decide) rfl 0 5 rfl rfl rfl rfl hl.1 rfl (Nat.le_of_ble_eq_true rfl) dX7_worst_23 ⟨Nat.zero_le _, Nat.zero_le _⟩ (fun H locs hz9 hP hD hS => ?_)
        refine lv_istore_n (lv' := [(3, .int (oI (sr1 fl v n b (v i)))), (0, .ref mo), (1, .int (nI (mx (fun j => sr2 fl v n b (v j)) i))), (2, .int (nI i))]) hx hb dX7_worst_26 rfl hl (by decide) rfl (fun ls hl => ?_)
        refine lv_iload_n hx hb dX7_worst_27 rfl (lv_at hl 0 rfl) ?_
        refine lv_sipush (v := (-1001)) hx hb dX7_worst_28 (by decide) ?_
        refine lv_icmp_eq (tgt := 49) hx hb dX7_worst_31 (by decide) (fun c31 => by exfalso; exact oI_m1 (fun k hk => by have := sr1_lt fl v b (v i) hk; omega) c31) (fun c31 => ?_)
        refine lv_aload_n hx hb dX7_worst_34 rfl (lv_at hl 1 rfl) ?_
        refine va_get (D := D) (ci := 5) (C := RX7) (T := TX7) (N := 15) hx hb hts hinX7 hown hK hP 0 rfl rfl 8 (by decide) (hts (.fieldLink RX7 107 "NearRanksModel" "looks" "I") (by decide +kernel)) (fun _ h9 => h9) rfl dX7_worst_35 ?_
        refine lv_iload_n hx hb dX7_worst_38 rfl (lv_at hl 2 rfl) ?_
        refine wv_icmp_le (tgt := 49) hx hb (by omega) (by omega) dX7_worst_39 (by decide) (fun c39 => ?_) (fun c39 => ?_)
        · skip
          refine lv_iload_n hx hb dX7_worst_49 rfl (lv_at hl 2 rfl) ?_
          refine lv_istore_n (lv' := [(1, .int (nI (mx (fun j => sr2 fl v n b (v j)) i))), (3, .int (oI (sr1 fl v n b (v i)))), (0, .ref mo), (2, .int (nI i))]) hx hb dX7_worst_50 rfl hl (by decide) rfl (fun ls hl => ?_)
          refine lv_iinc (v := nI (i + 1)) (lv' := [(2, .int (nI (i + 1))), (1, .int (nI (mx (fun j => sr2 fl v n b (v j)) i))), (3, .int (oI (sr1 fl v n b (v i)))), (0, .ref mo)]) hx hb dX7_worst_51 hl (k := 3) rfl (nI_1 _) (by decide) rfl (fun ls hl => ?_)
          refine lv_goto (tgt := 4) hx hb dX7_worst_54 (by decide) ?_
          have el_l1 : mx (fun j => sr2 fl v n b (v j)) (i + 1) = mx (fun j => sr2 fl v n b (v j)) i := by rw [mx_s]; omega
          have el_w0_lks : lst lks (fun j => sr2 fl v n b (v j)) (i + 1) = sr2 fl v n b (v i) := by rfl
          have el_w0_lo1 : lst lo1 (fun j => sr3 fl v n b (v j)) (i + 1) = sr3 fl v n b (v i) := by rfl
          have el_w0_hi1 : lst hi1 (fun j => sr4 fl v n b (v j)) (i + 1) = sr4 fl v n b (v i) := by rfl
          exact ih4 (i + 1) (by omega) (by first | assumption | omega) _ _ (by first | (rw [el_w0_hi1, el_w0_lks, el_w0_lo1, el_l1]; exact hP) | (simp only [el_w0_hi1, el_w0_lks, el_w0_lo1, el_l1]; exact hP) | exact hP) (by first | (rw [el_w0_hi1, el_w0_lks, el_w0_lo1, el_l1]; exact hD) | (simp only [el_w0_hi1, el_w0_lks, el_w0_lo1, el_l1]; exact hD) | exact hD) hS ls (by first | (rw [el_w0_hi1, el_w0_lks, el_w0_lo1, el_l1]; exact lv_sub hl [3, 1, 0] rfl) | (simp only [el_w0_hi1, el_w0_lks, el_w0_lo1, el_l1]; exact lv_sub hl [3, 1, 0] rfl) | exact lv_sub hl [3, 1, 0] rfl)
        · skip
          refine lv_aload_n hx hb dX7_worst_42 rfl (lv_at hl 1 rfl) ?_
          refine va_get (D := D) (ci := 5) (C := RX7) (T := TX7) (N := 15) hx hb hts hinX7 hown hK hP 0 rfl rfl 8 (by decide) (hts (.fieldLink RX7 107 "NearRanksModel" "looks" "I") (by decide +kernel)) (fun _ h9 => h9) rfl dX7_worst_43 ?_
          refine lv_goto (tgt := 50) hx hb dX7_worst_46 (by decide) ?_
          refine lv_istore_n (lv' := [(1, .int (nI (sr2 fl v n b (v i)))), (3, .int (oI (sr1 fl v n b (v i)))), (0, .ref mo), (2, .int (nI i))]) hx hb dX7_worst_50 rfl hl (by decide) rfl (fun ls hl => ?_)
          refine lv_iinc (v := nI (i + 1)) (lv' := [(2, .int (nI (i + 1))), (1, .int (nI (sr2 fl v n b (v i)))), (3, .int (oI (sr1 fl v n b (v i)))), (0, .ref mo)]) hx hb dX7_worst_51 hl (k := 3) rfl (nI_1 _) (by decide) rfl (fun ls hl => ?_)
          refine lv_goto (tgt := 4) hx hb dX7_worst_54 (by decide) ?_
          have el_l1 : mx (fun j => sr2 fl v n b (v j)) (i + 1) = sr2 fl v n b (v i) := by rw [mx_s]; omega
          have el_w0_lks : lst lks (fun j => sr2 fl v n b (v j)) (i + 1) = sr2 fl v n b (v i) := by rfl
          have el_w0_lo1 : lst lo1 (fun j => sr3 fl v n b (v j)) (i + 1) = sr3 fl v n b (v i) := by rfl
          have el_w0_hi1 : lst hi1 (fun j => sr4 fl v n b (v j)) (i + 1) = sr4 fl v n b (v i) := by rfl
          exact ih4 (i + 1) (by omega) (by first | assumption | omega) _ _ (by first | (rw [el_w0_hi1, el_w0_lks, el_w0_lo1, el_l1]; exact hP) | (simp only [el_w0_hi1, el_w0_lks, el_w0_lo1, el_l1]; exact hP) | exact hP) (by first | (rw [el_w0_hi1, el_w0_lks, el_w0_lo1, el_l1]; exact hD) | (simp only [el_w0_hi1, el_w0_lks, el_w0_lo1, el_l1]; exact hD) | exact hD) hS ls (by first | (rw [el_w0_hi1, el_w0_lks, el_w0_lo1, el_l1]; exact lv_sub hl [3, 1, 0] rfl) | (simp only [el_w0_hi1, el_w0_lks, el_w0_lo1, el_l1]; exact lv_sub hl [3, 1, 0] rfl) | exact lv_sub hl [3, 1, 0] rfl)
  exact loop4 (n - 0 + 1) 0 (by omega) (by first | assumption | omega) _ _ (by first | (rw [el_w0_hi1, el_w0_lks, el_w0_lo1, el_l1]; exact hP) | (simp only [el_w0_hi1, el_w0_lks, el_w0_lo1, el_l1]; exact hP) | exact hP) (by first | (rw [el_w0_hi1, el_w0_lks, el_w0_lo1, el_l1]; exact hD) | (simp only [el_w0_hi1, el_w0_lks, el_w0_lo1, el_l1]; exact hD) | exact hD) hS ls (by first | (rw [el_w0_hi1, el_w0_lks, el_w0_lo1, el_l1]; exact lv_sub hl [2, 1, 0] rfl) | (simp only [el_w0_hi1, el_w0_lks, el_w0_lo1, el_l1]; exact lv_sub hl [2, 1, 0] rfl) | exact lv_sub hl [2, 1, 0] rfl)

set_option maxHeartbeats 4000000 in
set_option maxRecDepth 100000 in
theorem kX7_lost (l : Launch) (D : va_G) (mo : Nat) (sa : Nat) (pa : Nat) (ha : Nat) (ta : Nat) (cJ : ClassId) (cI : ClassId) (n : Nat) (b : Nat) (fl : Bool) (me : Bool) (st : Int64) (lk : Int64) (cm : Int64) (v : Nat → Int64) (nu : Nat → Int64) (pt : Nat → Int64) (hd : Nat → Int64) (tx : Nat → Int32) (ps : Nat) (ru : Bool) (ty : Nat) (rf : Nat) (lks : Nat) (lo1 : Int32) (hi1 : Int32) (sp : Nat) (cd : Int32) (pl : Int32) (gv : Int64) (hn : n ≤ 32) (hb : b ≤ 31) : MMi l yX7_lost wsX7_lost ({ frames := 2, cells := 0, slots := 0, locals := 50 } : Room) [.ref mo] D (ModC mo sa pa ha ta cJ cI (sM n b fl me st lk cm v nu) pt hd tx ps ru ty rf lks lo1 hi1 sp cd pl gv) [(cJ, .long), (cI, .int)] (nI (cnt (fun j => decide (sr1 fl v n b (v j) = none)) n)) (ModC mo sa pa ha ta cJ cI (sM n b fl me st lk cm v nu) pt hd tx ps ru ty rf (lst lks (fun j => sr2 fl v n b (v j)) n) (lst lo1 (fun j => sr3 fl v n b (v j)) n) (lst hi1 (fun j => sr4 fl v n b (v j)) n) sp cd pl gv) := by
  refine MMi_of (cc := cX7_lost) (maxL := 3) (ret := some .int) (by decide +kernel) rfl (Nat.le_of_ble_eq_true rfl) ?_
  intro p e s m args below meth c hx hb hr hts hown hlocks hml hP hK hN hD ls hl
  have hown : s.vm.findClass RX7 = some m.cls := hown
  have hl : lv_has ls 3 [(0, .ref mo)] := hl
  have hS : va_S (va_A (ModC mo sa pa ha ta cJ cI (sM n b fl me st lk cm v nu) pt hd tx ps ru ty rf lks lo1 hi1 sp cd pl gv) s.heap.size) s.heap s.heap [] := va_S.rf
  have hA := wk_hA (ModC mo sa pa ha ta cJ cI (sM n b fl me st lk cm v nu) pt hd tx ps ru ty rf lks lo1 hi1 sp cd pl gv) s.heap.size
  have hD9 : True := trivial
  have hinX7 : ∀ w ∈ wsX70, w ∈ wsX7_lost := by decide +kernel
  refine lv_iconst (v := nI 0) hx hb dX7_lost_0 (by decide) ?_
  refine lv_istore_n (lv' := [(1, .int (nI 0)), (0, .ref mo)]) hx hb dX7_lost_1 rfl hl (by decide) rfl (fun ls hl => ?_)
  refine lv_iconst (v := nI 0) hx hb dX7_lost_2 (by decide) ?_
  refine lv_istore_n (lv' := [(2, .int (nI 0)), (1, .int (nI 0)), (0, .ref mo)]) hx hb dX7_lost_3 rfl hl (by decide) rfl (fun ls hl => ?_)
  have el_l1 : cnt (fun j => decide (sr1 fl v n b (v j) = none)) 0 = 0 := by rfl
  have el_w0_lks : lst lks (fun j => sr2 fl v n b (v j)) 0 = lks := by rfl
  have el_w0_lo1 : lst lo1 (fun j => sr3 fl v n b (v j)) 0 = lo1 := by rfl
  have el_w0_hi1 : lst hi1 (fun j => sr4 fl v n b (v j)) 0 = hi1 := by rfl
  have loop4 : ∀ (K : Nat) (i : Nat), n - i < K → i ≤ n → ∀ (H : Heap) (locs : List Loc), va_P D vwCl (ModC mo sa pa ha ta cJ cI (sM n b fl me st lk cm v nu) pt hd tx ps ru ty rf (lst lks (fun j => sr2 fl v n b (v j)) i) (lst lo1 (fun j => sr3 fl v n b (v j)) i) (lst hi1 (fun j => sr4 fl v n b (v j)) i) sp cd pl gv) H → va_D (va_A (ModC mo sa pa ha ta cJ cI (sM n b fl me st lk cm v nu) pt hd tx ps ru ty rf lks lo1 hi1 sp cd pl gv) s.heap.size) (ModC mo sa pa ha ta cJ cI (sM n b fl me st lk cm v nu) pt hd tx ps ru ty rf (lst lks (fun j => sr2 fl v n b (v j)) i) (lst lo1 (fun j => sr3 fl v n b (v j)) i) (lst hi1 (fun j => sr4 fl v n b (v j)) i) sp cd pl gv) → va_S (va_A (ModC mo sa pa ha ta cJ cI (sM n b fl me st lk cm v nu) pt hd tx ps ru ty rf lks lo1 hi1 sp cd pl gv) s.heap.size) s.heap H locs → ∀ ls : Array Slot, lv_has ls 3 [(0, .ref mo), (1, .int (nI (cnt (fun j => decide (sr1 fl v n b (v j) = none)) i))), (2, .int (nI i))] → W p l e ({ frames := 2, cells := 0, slots := 0, locals := 50 } : Room) s m args below meth c H locs 0 0 (ZMi below args s D (ModC mo sa pa ha ta cJ cI (sM n b fl me st lk cm v nu) pt hd tx ps ru ty rf lks lo1 hi1 sp cd pl gv) (nI (cnt (fun j => decide (sr1 fl v n b (v j) = none)) n)) (ModC mo sa pa ha ta cJ cI (sM n b fl me st lk cm v nu) pt hd tx ps ru ty rf (lst lks (fun j => sr2 fl v n b (v j)) n) (lst lo1 (fun j => sr3 fl v n b (v j)) n) (lst hi1 (fun j => sr4 fl v n b (v j)) n) sp cd pl gv)) (F0 m 4 ls []) := by
    intro K
    induction K with
    | zero => intro i hK0; exact absurd hK0 (Nat.not_lt_zero _)
    | succ K ih4 =>
      intro i hKm hi H locs hP hD hS ls hl
      refine lv_iload_n hx hb dX7_lost_4 rfl (lv_at hl 2 rfl) ?_
      refine lv_aload_n hx hb dX7_lost_5 rfl (lv_at hl 0 rfl) ?_
      refine lv_iconst (v := nI 0) hx hb dX7_lost_6 (by decide) ?_
      refine wv_callPi (As := [.int (nI 0)]) (rest := [.int (nI i)]) ⟨hx, hb, hml, hown, hts⟩ (kX7_of l D mo sa pa ha ta cJ cI n b fl me st lk cm v nu pt hd tx ps ru ty rf (lst lks (fun j => sr2 fl v n b (v j)) i) (lst lo1 (fun j => sr3 fl v n b (v j)) i) (lst hi1 (fun j => sr4 fl v n b (v j)) i) sp cd pl gv 0 (by first | assumption | omega)) (cwV 1 hts gX7_lost_X7_of rfl rfl rfl (by decide +kernel) ⟨Nat.le_of_ble_eq_true rfl, Nat.le_of_ble_eq_true rfl⟩) hK hN hP hS hA [0, 1, 2, 3, 4] [0, 1] rfl rfl 0 5 rfl rfl rfl rfl hl.1 rfl (Nat.le_of_ble_eq_true rfl) dX7_lost_7 ⟨Nat.zero_le _, Nat.zero_le _⟩ (fun H locs hz9 hP hS => ?_)
      refine wv_ti (y := nI n) of_0 ?_
      refine wv_icmp_ge (tgt := 46) hx hb (by omega) (by omega) dX7_lost_10 (by decide) (fun c10 => ?_) (fun c10 => ?_)
      · skip
        refine lv_iload_n hx hb dX7_lost_46 rfl (lv_at hl 1 rfl) ?_
        have ew0_lks : lst lks (fun j => sr2 fl v n b (v j)) n = lst lks (fun j => sr2 fl v n b (v j)) i := by rw [show i = n by omega]
        have ew0_lo1 : lst lo1 (fun j => sr3 fl v n b (v j)) n = lst lo1 (fun j => sr3 fl v n b (v j)) i := by rw [show i = n by omega]
        have ew0_hi1 : lst hi1 (fun j => sr4 fl v n b (v j)) n = lst hi1 (fun j => sr4 fl v n b (v j)) i := by rw [show i = n by omega]
        exact wv_iretM hx hb hr hlocks hP hD hS (by rw [show i = n by omega]) (by rw [ew0_hi1, ew0_lks, ew0_lo1]) dX7_lost_47
      · skip
        have hob : ∀ k, sr1 fl v n b (v i) = some k → k < 2 ^ 31 := fun k hk => by have := sr1_lt fl v b (v i) hk; omega
        refine lv_iload_n hx hb dX7_lost_13 rfl (lv_at hl 1 rfl) ?_
        refine lv_aload_n hx hb dX7_lost_14 rfl (lv_at hl 0 rfl) ?_
        refine lv_aload_n hx hb dX7_lost_15 rfl (lv_at hl 0 rfl) ?_
        refine va_get (D := D) (ci := 5) (C := RX7) (T := TX7) (N := 15) hx hb hts hinX7 hown hK hP 0 rfl rfl 0 (by decide) (hts (.fieldLink RX7 7 "NearRanksModel" "s" "[J") (by decide +kernel)) (fun _ h9 => h9) rfl dX7_lost_16 ?_
        refine lv_bipush (v := nI 7) hx hb dX7_lost_19 (by decide) ?_
        refine lv_iload_n hx hb dX7_lost_21 rfl (lv_at hl 2 rfl) ?_
        refine lv_iadd hx hb dX7_lost_22 ?_
        refine wv_ti (nI_add _ _) ?_
        refine wv_lald hx hb hK hP 1 0 rfl rfl (k := 7 + i) (by omega) (by decide) dX7_lost_23 ?_
        refine wv_tl (y := v i) (sM_v (by omega) (by omega)) ?_
        refine wv_callMi (As := [.long (v i)]) (rest := [.int (nI (cnt (fun j => decide (sr1 fl v n b (v j) = none)) i))]) (wr := []) (ws1 := ModC mo sa pa ha ta cJ cI (sM n b fl me st lk cm v nu) pt hd tx ps ru ty rf (sr2 fl v n b (v i)) (sr3 fl v n b (v i)) (sr4 fl v n b (v i)) sp cd pl gv) ⟨hx, hb, hml, hown, hts⟩ (kX7_searches l D mo sa pa ha ta cJ cI n b fl me st lk cm v nu pt hd tx ps ru ty rf (lst lks (fun j => sr2 fl v n b (v j)) i) (lst lo1 (fun j => sr3 fl v n b (v j)) i) (lst hi1 (fun j => sr4 fl v n b (v j)) i) sp cd pl gv (v i) (by first | assumption | omega) (by first | assumption | omega)) (cwV 1 hts gX7_lost_X7_searches rfl rfl rfl (by decide +kernel) ⟨Nat.le_of_ble_eq_true rfl, Nat.le_of_ble_eq_true rfl⟩) hK hN hP hD hS hA [0, 1, 2, 3, 4] [] [0, 1] [0, 1, 2, 3, 4] rfl rfl (by decide) rfl (by decide) (by decide) rfl (by decide) rfl 0 5 rfl rfl rfl rfl hl.1 rfl (Nat.le_of_ble_eq_true rfl) dX7_lost_24 ⟨Nat.zero_le _, Nat.zero_le _⟩ (fun H locs hz9 hP hD hS => ?_)
        refine lv_sipush (v := (-1000)) hx hb dX7_lost_27 (by decide) ?_
        refine lv_icmp_ne (tgt := 37) hx hb dX7_lost_30 (by decide) (fun c30 => ?_) (fun c30 => ?_)
        · skip
          refine lv_iconst (v := nI 0) hx hb dX7_lost_37 (by decide) ?_
          refine lv_iadd hx hb dX7_lost_38 ?_
          refine wv_ti (nI_add _ _) ?_
          refine lv_istore_n (lv' := [(1, .int (nI ((cnt (fun j => decide (sr1 fl v n b (v j) = none)) i) + 0))), (0, .ref mo), (2, .int (nI i))]) hx hb dX7_lost_39 rfl hl (by decide) rfl (fun ls hl => ?_)
          refine lv_iinc (v := nI (i + 1)) (lv' := [(2, .int (nI (i + 1))), (1, .int (nI ((cnt (fun j => decide (sr1 fl v n b (v j) = none)) i) + 0))), (0, .ref mo)]) hx hb dX7_lost_40 hl (k := 2) rfl (nI_1 _) (by decide) rfl (fun ls hl => ?_)
          refine lv_goto (tgt := 4) hx hb dX7_lost_43 (by decide) ?_
          have el_l1 : cnt (fun j => decide (sr1 fl v n b (v j) = none)) (i + 1) = (cnt (fun j => decide (sr1 fl v n b (v j) = none)) i) + 0 := by first | exact cnt_t (decide_eq_true ((oI_ne hob).mp c30)) | exact cnt_f (decide_eq_false (fun z => c30 ((oI_ne hob).mpr z)))
          have el_w0_lks : lst lks (fun j => sr2 fl v n b (v j)) (i + 1) = sr2 fl v n b (v i) := by rfl
          have el_w0_lo1 : lst lo1 (fun j => sr3 fl v n b (v j)) (i + 1) = sr3 fl v n b (v i) := by rfl
          have el_w0_hi1 : lst hi1 (fun j => sr4 fl v n b (v j)) (i + 1) = sr4 fl v n b (v i) := by rfl
          exact ih4 (i + 1) (by omega) (by first | assumption | omega) _ _ (by first | (rw [el_l1, el_w0_hi1, el_w0_lks, el_w0_lo1]; exact hP) | (simp only [el_l1, el_w0_hi1, el_w0_lks, el_w0_lo1]; exact hP) | exact hP) (by first | (rw [el_l1, el_w0_hi1, el_w0_lks, el_w0_lo1]; exact hD) | (simp only [el_l1, el_w0_hi1, el_w0_lks, el_w0_lo1]; exact hD) | exact hD) hS ls (by first | (rw [el_l1, el_w0_hi1, el_w0_lks, el_w0_lo1]; exact lv_sub hl [2, 1, 0] rfl) | (simp only [el_l1, el_w0_hi1, el_w0_lks, el_w0_lo1]; exact lv_sub hl [2, 1, 0] rfl) | exact lv_sub hl [2, 1, 0] rfl)
        · skip
          refine lv_iconst (v := nI 1) hx hb dX7_lost_33 (by decide) ?_
          refine lv_goto (tgt := 38) hx hb dX7_lost_34 (by decide) ?_
          refine lv_iadd hx hb dX7_lost_38 ?_
          refine wv_ti (nI_add _ _) ?_
          refine lv_istore_n (lv' := [(1, .int (nI ((cnt (fun j => decide (sr1 fl v n b (v j) = none)) i) + 1))), (0, .ref mo), (2, .int (nI i))]) hx hb dX7_lost_39 rfl hl (by decide) rfl (fun ls hl => ?_)
          refine lv_iinc (v := nI (i + 1)) (lv' := [(2, .int (nI (i + 1))), (1, .int (nI ((cnt (fun j => decide (sr1 fl v n b (v j) = none)) i) + 1))), (0, .ref mo)]) hx hb dX7_lost_40 hl (k := 2) rfl (nI_1 _) (by decide) rfl (fun ls hl => ?_)
          refine lv_goto (tgt := 4) hx hb dX7_lost_43 (by decide) ?_
          have el_l1 : cnt (fun j => decide (sr1 fl v n b (v j) = none)) (i + 1) = (cnt (fun j => decide (sr1 fl v n b (v j) = none)) i) + 1 := by first | exact cnt_t (decide_eq_true ((oI_ne hob).mp c30)) | exact cnt_f (decide_eq_false (fun z => c30 ((oI_ne hob).mpr z)))
          have el_w0_lks : lst lks (fun j => sr2 fl v n b (v j)) (i + 1) = sr2 fl v n b (v i) := by rfl
          have el_w0_lo1 : lst lo1 (fun j => sr3 fl v n b (v j)) (i + 1) = sr3 fl v n b (v i) := by rfl
          have el_w0_hi1 : lst hi1 (fun j => sr4 fl v n b (v j)) (i + 1) = sr4 fl v n b (v i) := by rfl
          exact ih4 (i + 1) (by omega) (by first | assumption | omega) _ _ (by first | (rw [el_l1, el_w0_hi1, el_w0_lks, el_w0_lo1]; exact hP) | (simp only [el_l1, el_w0_hi1, el_w0_lks, el_w0_lo1]; exact hP) | exact hP) (by first | (rw [el_l1, el_w0_hi1, el_w0_lks, el_w0_lo1]; exact hD) | (simp only [el_l1, el_w0_hi1, el_w0_lks, el_w0_lo1]; exact hD) | exact hD) hS ls (by first | (rw [el_l1, el_w0_hi1, el_w0_lks, el_w0_lo1]; exact lv_sub hl [2, 1, 0] rfl) | (simp only [el_l1, el_w0_hi1, el_w0_lks, el_w0_lo1]; exact lv_sub hl [2, 1, 0] rfl) | exact lv_sub hl [2, 1, 0] rfl)
  exact loop4 (n - 0 + 1) 0 (by omega) (by first | assumption | omega) _ _ (by first | (rw [el_l1, el_w0_hi1, el_w0_lks, el_w0_lo1]; exact hP) | (simp only [el_l1, el_w0_hi1, el_w0_lks, el_w0_lo1]; exact hP) | exact hP) (by first | (rw [el_l1, el_w0_hi1, el_w0_lks, el_w0_lo1]; exact hD) | (simp only [el_l1, el_w0_hi1, el_w0_lks, el_w0_lo1]; exact hD) | exact hD) hS ls (by first | (rw [el_l1, el_w0_hi1, el_w0_lks, el_w0_lo1]; exact lv_sub hl [2, 1, 0] rfl) | (simp only [el_l1, el_w0_hi1, el_w0_lks, el_w0_lo1]; exact lv_sub hl [2, 1, 0] rfl) | exact lv_sub hl [2, 1, 0] rfl)

set_option maxHeartbeats 4000000 in
set_option maxRecDepth 100000 in
theorem kX7_saves (l : Launch) (D : va_G) (mo : Nat) (sa : Nat) (pa : Nat) (ha : Nat) (ta : Nat) (cJ : ClassId) (cI : ClassId) (n : Nat) (b : Nat) (fl : Bool) (me : Bool) (st : Int64) (lk : Int64) (cm : Int64) (v : Nat → Int64) (nu : Nat → Int64) (pt : Nat → Int64) (hd : Nat → Int64) (tx : Nat → Int32) (ps : Nat) (ru : Bool) (ty : Nat) (rf : Nat) (lks : Nat) (lo1 : Int32) (hi1 : Int32) (sp : Nat) (cd : Int32) (pl : Int32) (gv : Int64) (hps : ps ≤ 4) : MMv l yX7_saves wsX7_saves ({ frames := 0, cells := 0, slots := 0, locals := 0 } : Room) [.ref mo] D (ModC mo sa pa ha ta cJ cI (sM n b fl me st lk cm v nu) pt hd tx ps ru ty rf lks lo1 hi1 sp cd pl gv) [(cJ, .long), (cI, .int)] (ModC mo sa pa ha ta cJ cI (sM n b fl me st lk cm v nu) (svP ru pt ps (sM n b fl me st lk cm v nu)) hd tx (svN ru ps) ru ty rf lks lo1 hi1 sp cd pl gv) := by
  refine MMv_of (cc := cX7_saves) (maxL := 2) (ret := none) (by decide +kernel) rfl (Nat.le_of_ble_eq_true rfl) ?_
  intro p e s m args below meth c hx hb hr hts hown hlocks hml hP hK hN hD ls hl
  have hown : s.vm.findClass RX7 = some m.cls := hown
  have hl : lv_has ls 2 [(0, .ref mo)] := hl
  have hS : va_S (va_A (ModC mo sa pa ha ta cJ cI (sM n b fl me st lk cm v nu) pt hd tx ps ru ty rf lks lo1 hi1 sp cd pl gv) s.heap.size) s.heap s.heap [] := va_S.rf
  have hA := wk_hA (ModC mo sa pa ha ta cJ cI (sM n b fl me st lk cm v nu) pt hd tx ps ru ty rf lks lo1 hi1 sp cd pl gv) s.heap.size
  have hD9 : True := trivial
  have hinX7 : ∀ w ∈ wsX70, w ∈ wsX7_saves := by decide +kernel
  refine lv_aload_n hx hb dX7_saves_0 rfl (lv_at hl 0 rfl) ?_
  refine va_get (D := D) (ci := 5) (C := RX7) (T := TX7) (N := 15) hx hb hts hinX7 hown hK hP 0 rfl rfl 4 (by decide) (hts (.fieldLink RX7 29 "NearRanksModel" "runs" "Z") (by decide +kernel)) (fun _ h9 => h9) rfl dX7_saves_1 ?_
  refine wv_ifeqB (tgt := 8) hx hb dX7_saves_4 (by decide) (fun c4 => ?_) (fun c4 => ?_)
  · skip
    refine lv_aload_n hx hb dX7_saves_8 rfl (lv_at hl 0 rfl) ?_
    refine va_get (D := D) (ci := 5) (C := RX7) (T := TX7) (N := 15) hx hb hts hinX7 hown hK hP 0 rfl rfl 3 (by decide) (hts (.fieldLink RX7 33 "NearRanksModel" "pasts" "I") (by decide +kernel)) (fun _ h9 => h9) rfl dX7_saves_9 ?_
    refine lv_iconst (v := nI 4) hx hb dX7_saves_12 (by decide) ?_
    refine wv_icmp_ne (tgt := 56) hx hb (by omega) (by omega) dX7_saves_13 (by decide) (fun c13 => ?_) (fun c13 => ?_)
    · skip
      refine lv_iconst (v := nI 0) hx hb dX7_saves_56 (by decide) ?_
      refine lv_istore_n (lv' := [(1, .int (nI 0)), (0, .ref mo)]) hx hb dX7_saves_57 rfl hl (by decide) rfl (fun ls hl => ?_)
      have el_w0_pt : wrP pt ps (sM n b fl me st lk cm v nu) 0 = pt := by exact wrP_0 _ _ _
      have loop58 : ∀ (K : Nat) (i : Nat) (pt1 : Nat → Int64) (j : Nat), 71 - i < K → i ≤ 71 → j ≤ 3 → pt1 = (if ps = 4 then shP pt 213 else pt) ∧ j = (if ps = 4 then 3 else ps) → ∀ (H : Heap) (locs : List Loc), va_P D vwCl (ModC mo sa pa ha ta cJ cI (sM n b fl me st lk cm v nu) (wrP pt1 j (sM n b fl me st lk cm v nu) i) hd tx j ru ty rf lks lo1 hi1 sp cd pl gv) H → va_D (va_A (ModC mo sa pa ha ta cJ cI (sM n b fl me st lk cm v nu) pt hd tx ps ru ty rf lks lo1 hi1 sp cd pl gv) s.heap.size) (ModC mo sa pa ha ta cJ cI (sM n b fl me st lk cm v nu) (wrP pt1 j (sM n b fl me st lk cm v nu) i) hd tx j ru ty rf lks lo1 hi1 sp cd pl gv) → va_S (va_A (ModC mo sa pa ha ta cJ cI (sM n b fl me st lk cm v nu) pt hd tx ps ru ty rf lks lo1 hi1 sp cd pl gv) s.heap.size) s.heap H locs → ∀ ls : Array Slot, lv_has ls 2 [(0, .ref mo), (1, .int (nI i))] → W p l e ({ frames := 0, cells := 0, slots := 0, locals := 0 } : Room) s m args below meth c H locs 0 0 (ZMv below args s D (ModC mo sa pa ha ta cJ cI (sM n b fl me st lk cm v nu) pt hd tx ps ru ty rf lks lo1 hi1 sp cd pl gv) (ModC mo sa pa ha ta cJ cI (sM n b fl me st lk cm v nu) (svP ru pt ps (sM n b fl me st lk cm v nu)) hd tx (svN ru ps) ru ty rf lks lo1 hi1 sp cd pl gv)) (F0 m 58 ls []) := by
        intro K
        induction K with
        | zero => intro i pt1 j hK0; exact absurd hK0 (Nat.not_lt_zero _)
        | succ K ih58 =>
          intro i pt1 j hKm hi hj hpt H locs hP hD hS ls hl
          refine lv_iload_n hx hb dX7_saves_58 rfl (lv_at hl 1 rfl) ?_
          refine lv_bipush (v := nI 71) hx hb dX7_saves_59 (by decide) ?_
          refine wv_icmp_ge (tgt := 90) hx hb (by omega) (by omega) dX7_saves_61 (by decide) (fun c61 => ?_) (fun c61 => ?_)
          · skip
            refine lv_aload_n hx hb dX7_saves_90 rfl (lv_at hl 0 rfl) ?_
            refine lv_dup hx hb dX7_saves_91 rfl ?_
            refine va_get (D := D) (ci := 5) (C := RX7) (T := TX7) (N := 15) hx hb hts hinX7 hown hK hP 0 rfl rfl 3 (by decide) (hts (.fieldLink RX7 33 "NearRanksModel" "pasts" "I") (by decide +kernel)) (fun _ h9 => h9) rfl dX7_saves_92 ?_
            refine lv_iconst (v := nI 1) hx hb dX7_saves_95 (by decide) ?_
            refine lv_iadd hx hb dX7_saves_96 ?_
            refine wv_ti (nI_add _ _) ?_
            refine va_put (D := D) (ci := 5) (v := .int (nI (j + 1))) (ty := .int) (C := RX7) (T := TX7) (N := 15) hx hb hts hinX7 tyX7 tyX7_ok nmX7 hown hK hP hD hS 0 rfl rfl 3 (by decide) (hts (.fieldLink RX7 33 "NearRanksModel" "pasts" "I") (by decide +kernel)) (fun _ h9 => h9) rfl (by decide +kernel) rfl rfl (Nat.le_of_ble_eq_true rfl) dX7_saves_97 (fun H locs hP hD hS => ?_)
            have hP : va_P D vwCl (ModC mo sa pa ha ta cJ cI (sM n b fl me st lk cm v nu) (wrP pt1 j (sM n b fl me st lk cm v nu) i) hd tx (j + 1) ru ty rf lks lo1 hi1 sp cd pl gv) H := hP
            have hD : va_D _ (ModC mo sa pa ha ta cJ cI (sM n b fl me st lk cm v nu) (wrP pt1 j (sM n b fl me st lk cm v nu) i) hd tx (j + 1) ru ty rf lks lo1 hi1 sp cd pl gv) := hD
            have ew0_pt : svP ru pt ps (sM n b fl me st lk cm v nu) = wrP pt1 j (sM n b fl me st lk cm v nu) i := by rw [show i = 71 by omega, c4]; show svp _ _ _ = _; unfold svp; rw [hpt.1, hpt.2]; split <;> rfl
            have ew0_ps : svN ru ps = j + 1 := by rw [c4]; show svn _ = _; unfold svn; rw [hpt.2]; split <;> rfl
            exact wv_vretM hx hb hr hlocks hP hD hS (by rw [ew0_pt, ew0_ps]) dX7_saves_100
          · skip
            refine lv_aload_n hx hb dX7_saves_64 rfl (lv_at hl 0 rfl) ?_
            refine va_get (D := D) (ci := 5) (C := RX7) (T := TX7) (N := 15) hx hb hts hinX7 hown hK hP 0 rfl rfl 1 (by decide) (hts (.fieldLink RX7 13 "NearRanksModel" "past" "[J") (by decide +kernel)) (fun _ h9 => h9) rfl dX7_saves_65 ?_
            refine lv_bipush (v := nI 71) hx hb dX7_saves_68 (by decide) ?_
            refine lv_aload_n hx hb dX7_saves_70 rfl (lv_at hl 0 rfl) ?_
            refine va_get (D := D) (ci := 5) (C := RX7) (T := TX7) (N := 15) hx hb hts hinX7 hown hK hP 0 rfl rfl 3 (by decide) (hts (.fieldLink RX7 33 "NearRanksModel" "pasts" "I") (by decide +kernel)) (fun _ h9 => h9) rfl dX7_saves_71 ?_
            refine lv_imul hx hb dX7_saves_74 ?_
            refine wv_ti (pk_mul _ _) ?_
            refine lv_iload_n hx hb dX7_saves_75 rfl (lv_at hl 1 rfl) ?_
            refine lv_iadd hx hb dX7_saves_76 ?_
            refine wv_ti (nI_add _ _) ?_
            refine lv_aload_n hx hb dX7_saves_77 rfl (lv_at hl 0 rfl) ?_
            refine va_get (D := D) (ci := 5) (C := RX7) (T := TX7) (N := 15) hx hb hts hinX7 hown hK hP 0 rfl rfl 0 (by decide) (hts (.fieldLink RX7 7 "NearRanksModel" "s" "[J") (by decide +kernel)) (fun _ h9 => h9) rfl dX7_saves_78 ?_
            refine lv_iload_n hx hb dX7_saves_81 rfl (lv_at hl 1 rfl) ?_
            refine wv_lald hx hb hK hP 1 0 rfl rfl (k := i) (by omega) (by decide) dX7_saves_82 ?_
            refine wv_last hx hb hK hP hD hS 2 0 rfl rfl (k := (71 * j) + i) (by omega) (by decide) dX7_saves_83 (fun H locs hP hD hS => ?_)
            have hP : va_P D vwCl (ModC mo sa pa ha ta cJ cI (sM n b fl me st lk cm v nu) (vp_updL (wrP pt1 j (sM n b fl me st lk cm v nu) i) ((71 * j) + i) ((sM n b fl me st lk cm v nu) i)) hd tx j ru ty rf lks lo1 hi1 sp cd pl gv) H := hP
            have hD : va_D _ (ModC mo sa pa ha ta cJ cI (sM n b fl me st lk cm v nu) (vp_updL (wrP pt1 j (sM n b fl me st lk cm v nu) i) ((71 * j) + i) ((sM n b fl me st lk cm v nu) i)) hd tx j ru ty rf lks lo1 hi1 sp cd pl gv) := hD
            refine lv_iinc (v := nI (i + 1)) (lv' := [(1, .int (nI (i + 1))), (0, .ref mo)]) hx hb dX7_saves_84 hl (k := 1) rfl (nI_1 _) (by decide) rfl (fun ls hl => ?_)
            refine lv_goto (tgt := 58) hx hb dX7_saves_87 (by decide) ?_
            have el_w0_pt : wrP pt1 j (sM n b fl me st lk cm v nu) (i + 1) = vp_updL (wrP pt1 j (sM n b fl me st lk cm v nu) i) ((71 * j) + i) ((sM n b fl me st lk cm v nu) i) := by exact wrP_s _ _ _ _
            exact ih58 (i + 1) pt1 j (by omega) (by first | assumption | omega) (by first | assumption | omega) (by assumption) _ _ (by first | (rw [el_w0_pt]; exact hP) | (simp only [el_w0_pt]; exact hP) | exact hP) (by first | (rw [el_w0_pt]; exact hD) | (simp only [el_w0_pt]; exact hD) | exact hD) hS ls (by first | (rw [el_w0_pt]; exact lv_sub hl [1, 0] rfl) | (simp only [el_w0_pt]; exact lv_sub hl [1, 0] rfl) | exact lv_sub hl [1, 0] rfl)
      exact loop58 (71 - 0 + 1) 0 pt ps (by omega) (by first | assumption | omega) (by first | assumption | omega) (by first | exact ⟨(if_neg c13).symm, (if_neg c13).symm⟩ | (rw [if_pos h4, if_pos h4, show i = 213 by omega, h4]; exact ⟨rfl, rfl⟩)) _ _ (by first | (rw [el_w0_pt]; exact hP) | (simp only [el_w0_pt]; exact hP) | exact hP) (by first | (rw [el_w0_pt]; exact hD) | (simp only [el_w0_pt]; exact hD) | exact hD) hS ls (by first | (rw [el_w0_pt]; exact lv_sub hl [1, 0] rfl) | (simp only [el_w0_pt]; exact lv_sub hl [1, 0] rfl) | exact lv_sub hl [1, 0] rfl)
    · skip
      refine lv_iconst (v := nI 0) hx hb dX7_saves_16 (by decide) ?_
      refine lv_istore_n (lv' := [(1, .int (nI 0)), (0, .ref mo)]) hx hb dX7_saves_17 rfl hl (by decide) rfl (fun ls hl => ?_)
      have el_w0_pt : shP pt 0 = pt := by exact (shP_0 pt)
      have loop18 : ∀ (K : Nat) (i : Nat), 213 - i < K → i ≤ 213 → ps = 4 → ∀ (H : Heap) (locs : List Loc), va_P D vwCl (ModC mo sa pa ha ta cJ cI (sM n b fl me st lk cm v nu) (shP pt i) hd tx ps ru ty rf lks lo1 hi1 sp cd pl gv) H → va_D (va_A (ModC mo sa pa ha ta cJ cI (sM n b fl me st lk cm v nu) pt hd tx ps ru ty rf lks lo1 hi1 sp cd pl gv) s.heap.size) (ModC mo sa pa ha ta cJ cI (sM n b fl me st lk cm v nu) (shP pt i) hd tx ps ru ty rf lks lo1 hi1 sp cd pl gv) → va_S (va_A (ModC mo sa pa ha ta cJ cI (sM n b fl me st lk cm v nu) pt hd tx ps ru ty rf lks lo1 hi1 sp cd pl gv) s.heap.size) s.heap H locs → ∀ ls : Array Slot, lv_has ls 2 [(0, .ref mo), (1, .int (nI i))] → W p l e ({ frames := 0, cells := 0, slots := 0, locals := 0 } : Room) s m args below meth c H locs 0 0 (ZMv below args s D (ModC mo sa pa ha ta cJ cI (sM n b fl me st lk cm v nu) pt hd tx ps ru ty rf lks lo1 hi1 sp cd pl gv) (ModC mo sa pa ha ta cJ cI (sM n b fl me st lk cm v nu) (svP ru pt ps (sM n b fl me st lk cm v nu)) hd tx (svN ru ps) ru ty rf lks lo1 hi1 sp cd pl gv)) (F0 m 18 ls []) := by
        intro K
        induction K with
        | zero => intro i hK0; exact absurd hK0 (Nat.not_lt_zero _)
        | succ K ih18 =>
          intro i hKm hi h4 H locs hP hD hS ls hl
          refine lv_iload_n hx hb dX7_saves_18 rfl (lv_at hl 1 rfl) ?_
          refine lv_sipush (v := nI 213) hx hb dX7_saves_19 (by decide) ?_
          refine wv_icmp_ge (tgt := 46) hx hb (by omega) (by omega) dX7_saves_22 (by decide) (fun c22 => ?_) (fun c22 => ?_)
          · skip
            refine lv_aload_n hx hb dX7_saves_46 rfl (lv_at hl 0 rfl) ?_
            refine lv_dup hx hb dX7_saves_47 rfl ?_
            refine va_get (D := D) (ci := 5) (C := RX7) (T := TX7) (N := 15) hx hb hts hinX7 hown hK hP 0 rfl rfl 3 (by decide) (hts (.fieldLink RX7 33 "NearRanksModel" "pasts" "I") (by decide +kernel)) (fun _ h9 => h9) rfl dX7_saves_48 ?_
            refine lv_iconst (v := nI 1) hx hb dX7_saves_51 (by decide) ?_
            refine lv_isub hx hb dX7_saves_52 ?_
            refine wv_ti (pk_sub (by omega)) ?_
            refine va_put (D := D) (ci := 5) (v := .int (nI (ps - 1))) (ty := .int) (C := RX7) (T := TX7) (N := 15) hx hb hts hinX7 tyX7 tyX7_ok nmX7 hown hK hP hD hS 0 rfl rfl 3 (by decide) (hts (.fieldLink RX7 33 "NearRanksModel" "pasts" "I") (by decide +kernel)) (fun _ h9 => h9) rfl (by decide +kernel) rfl rfl (Nat.le_of_ble_eq_true rfl) dX7_saves_53 (fun H locs hP hD hS => ?_)
            have hP : va_P D vwCl (ModC mo sa pa ha ta cJ cI (sM n b fl me st lk cm v nu) (shP pt i) hd tx (ps - 1) ru ty rf lks lo1 hi1 sp cd pl gv) H := hP
            have hD : va_D _ (ModC mo sa pa ha ta cJ cI (sM n b fl me st lk cm v nu) (shP pt i) hd tx (ps - 1) ru ty rf lks lo1 hi1 sp cd pl gv) := hD
            refine lv_iconst (v := nI 0) hx hb dX7_saves_56 (by decide) ?_
            refine lv_istore_n (lv' := [(1, .int (nI 0)), (0, .ref mo)]) hx hb dX7_saves_57 rfl hl (by decide) rfl (fun ls hl => ?_)
            have el_w0_pt : wrP (shP pt i) (ps - 1) (sM n b fl me st lk cm v nu) 0 = shP pt i := by exact wrP_0 _ _ _
            have loop58 : ∀ (K : Nat) (i : Nat) (pt1 : Nat → Int64) (j : Nat), 71 - i < K → i ≤ 71 → j ≤ 3 → pt1 = (if ps = 4 then shP pt 213 else pt) ∧ j = (if ps = 4 then 3 else ps) → ∀ (H : Heap) (locs : List Loc), va_P D vwCl (ModC mo sa pa ha ta cJ cI (sM n b fl me st lk cm v nu) (wrP pt1 j (sM n b fl me st lk cm v nu) i) hd tx j ru ty rf lks lo1 hi1 sp cd pl gv) H → va_D (va_A (ModC mo sa pa ha ta cJ cI (sM n b fl me st lk cm v nu) pt hd tx ps ru ty rf lks lo1 hi1 sp cd pl gv) s.heap.size) (ModC mo sa pa ha ta cJ cI (sM n b fl me st lk cm v nu) (wrP pt1 j (sM n b fl me st lk cm v nu) i) hd tx j ru ty rf lks lo1 hi1 sp cd pl gv) → va_S (va_A (ModC mo sa pa ha ta cJ cI (sM n b fl me st lk cm v nu) pt hd tx ps ru ty rf lks lo1 hi1 sp cd pl gv) s.heap.size) s.heap H locs → ∀ ls : Array Slot, lv_has ls 2 [(0, .ref mo), (1, .int (nI i))] → W p l e ({ frames := 0, cells := 0, slots := 0, locals := 0 } : Room) s m args below meth c H locs 0 0 (ZMv below args s D (ModC mo sa pa ha ta cJ cI (sM n b fl me st lk cm v nu) pt hd tx ps ru ty rf lks lo1 hi1 sp cd pl gv) (ModC mo sa pa ha ta cJ cI (sM n b fl me st lk cm v nu) (svP ru pt ps (sM n b fl me st lk cm v nu)) hd tx (svN ru ps) ru ty rf lks lo1 hi1 sp cd pl gv)) (F0 m 58 ls []) := by
              intro K
              induction K with
              | zero => intro i pt1 j hK0; exact absurd hK0 (Nat.not_lt_zero _)
              | succ K ih58 =>
                intro i pt1 j hKm hi hj hpt H locs hP hD hS ls hl
                refine lv_iload_n hx hb dX7_saves_58 rfl (lv_at hl 1 rfl) ?_
                refine lv_bipush (v := nI 71) hx hb dX7_saves_59 (by decide) ?_
                refine wv_icmp_ge (tgt := 90) hx hb (by omega) (by omega) dX7_saves_61 (by decide) (fun c61 => ?_) (fun c61 => ?_)
                · skip
                  refine lv_aload_n hx hb dX7_saves_90 rfl (lv_at hl 0 rfl) ?_
                  refine lv_dup hx hb dX7_saves_91 rfl ?_
                  refine va_get (D := D) (ci := 5) (C := RX7) (T := TX7) (N := 15) hx hb hts hinX7 hown hK hP 0 rfl rfl 3 (by decide) (hts (.fieldLink RX7 33 "NearRanksModel" "pasts" "I") (by decide +kernel)) (fun _ h9 => h9) rfl dX7_saves_92 ?_
                  refine lv_iconst (v := nI 1) hx hb dX7_saves_95 (by decide) ?_
                  refine lv_iadd hx hb dX7_saves_96 ?_
                  refine wv_ti (nI_add _ _) ?_
                  refine va_put (D := D) (ci := 5) (v := .int (nI (j + 1))) (ty := .int) (C := RX7) (T := TX7) (N := 15) hx hb hts hinX7 tyX7 tyX7_ok nmX7 hown hK hP hD hS 0 rfl rfl 3 (by decide) (hts (.fieldLink RX7 33 "NearRanksModel" "pasts" "I") (by decide +kernel)) (fun _ h9 => h9) rfl (by decide +kernel) rfl rfl (Nat.le_of_ble_eq_true rfl) dX7_saves_97 (fun H locs hP hD hS => ?_)
                  have hP : va_P D vwCl (ModC mo sa pa ha ta cJ cI (sM n b fl me st lk cm v nu) (wrP pt1 j (sM n b fl me st lk cm v nu) i) hd tx (j + 1) ru ty rf lks lo1 hi1 sp cd pl gv) H := hP
                  have hD : va_D _ (ModC mo sa pa ha ta cJ cI (sM n b fl me st lk cm v nu) (wrP pt1 j (sM n b fl me st lk cm v nu) i) hd tx (j + 1) ru ty rf lks lo1 hi1 sp cd pl gv) := hD
                  have ew0_pt : svP ru pt ps (sM n b fl me st lk cm v nu) = wrP pt1 j (sM n b fl me st lk cm v nu) i := by rw [show i = 71 by omega, c4]; show svp _ _ _ = _; unfold svp; rw [hpt.1, hpt.2]; split <;> rfl
                  have ew0_ps : svN ru ps = j + 1 := by rw [c4]; show svn _ = _; unfold svn; rw [hpt.2]; split <;> rfl
                  exact wv_vretM hx hb hr hlocks hP hD hS (by rw [ew0_pt, ew0_ps]) dX7_saves_100
                · skip
                  refine lv_aload_n hx hb dX7_saves_64 rfl (lv_at hl 0 rfl) ?_
                  refine va_get (D := D) (ci := 5) (C := RX7) (T := TX7) (N := 15) hx hb hts hinX7 hown hK hP 0 rfl rfl 1 (by decide) (hts (.fieldLink RX7 13 "NearRanksModel" "past" "[J") (by decide +kernel)) (fun _ h9 => h9) rfl dX7_saves_65 ?_
                  refine lv_bipush (v := nI 71) hx hb dX7_saves_68 (by decide) ?_
                  refine lv_aload_n hx hb dX7_saves_70 rfl (lv_at hl 0 rfl) ?_
                  refine va_get (D := D) (ci := 5) (C := RX7) (T := TX7) (N := 15) hx hb hts hinX7 hown hK hP 0 rfl rfl 3 (by decide) (hts (.fieldLink RX7 33 "NearRanksModel" "pasts" "I") (by decide +kernel)) (fun _ h9 => h9) rfl dX7_saves_71 ?_
                  refine lv_imul hx hb dX7_saves_74 ?_
                  refine wv_ti (pk_mul _ _) ?_
                  refine lv_iload_n hx hb dX7_saves_75 rfl (lv_at hl 1 rfl) ?_
                  refine lv_iadd hx hb dX7_saves_76 ?_
                  refine wv_ti (nI_add _ _) ?_
                  refine lv_aload_n hx hb dX7_saves_77 rfl (lv_at hl 0 rfl) ?_
                  refine va_get (D := D) (ci := 5) (C := RX7) (T := TX7) (N := 15) hx hb hts hinX7 hown hK hP 0 rfl rfl 0 (by decide) (hts (.fieldLink RX7 7 "NearRanksModel" "s" "[J") (by decide +kernel)) (fun _ h9 => h9) rfl dX7_saves_78 ?_
                  refine lv_iload_n hx hb dX7_saves_81 rfl (lv_at hl 1 rfl) ?_
                  refine wv_lald hx hb hK hP 1 0 rfl rfl (k := i) (by omega) (by decide) dX7_saves_82 ?_
                  refine wv_last hx hb hK hP hD hS 2 0 rfl rfl (k := (71 * j) + i) (by omega) (by decide) dX7_saves_83 (fun H locs hP hD hS => ?_)
                  have hP : va_P D vwCl (ModC mo sa pa ha ta cJ cI (sM n b fl me st lk cm v nu) (vp_updL (wrP pt1 j (sM n b fl me st lk cm v nu) i) ((71 * j) + i) ((sM n b fl me st lk cm v nu) i)) hd tx j ru ty rf lks lo1 hi1 sp cd pl gv) H := hP
                  have hD : va_D _ (ModC mo sa pa ha ta cJ cI (sM n b fl me st lk cm v nu) (vp_updL (wrP pt1 j (sM n b fl me st lk cm v nu) i) ((71 * j) + i) ((sM n b fl me st lk cm v nu) i)) hd tx j ru ty rf lks lo1 hi1 sp cd pl gv) := hD
                  refine lv_iinc (v := nI (i + 1)) (lv' := [(1, .int (nI (i + 1))), (0, .ref mo)]) hx hb dX7_saves_84 hl (k := 1) rfl (nI_1 _) (by decide) rfl (fun ls hl => ?_)
                  refine lv_goto (tgt := 58) hx hb dX7_saves_87 (by decide) ?_
                  have el_w0_pt : wrP pt1 j (sM n b fl me st lk cm v nu) (i + 1) = vp_updL (wrP pt1 j (sM n b fl me st lk cm v nu) i) ((71 * j) + i) ((sM n b fl me st lk cm v nu) i) := by exact wrP_s _ _ _ _
                  exact ih58 (i + 1) pt1 j (by omega) (by first | assumption | omega) (by first | assumption | omega) (by assumption) _ _ (by first | (rw [el_w0_pt]; exact hP) | (simp only [el_w0_pt]; exact hP) | exact hP) (by first | (rw [el_w0_pt]; exact hD) | (simp only [el_w0_pt]; exact hD) | exact hD) hS ls (by first | (rw [el_w0_pt]; exact lv_sub hl [1, 0] rfl) | (simp only [el_w0_pt]; exact lv_sub hl [1, 0] rfl) | exact lv_sub hl [1, 0] rfl)
            exact loop58 (71 - 0 + 1) 0 (shP pt i) (ps - 1) (by omega) (by first | assumption | omega) (by first | assumption | omega) (by first | exact ⟨(if_neg c13).symm, (if_neg c13).symm⟩ | (rw [if_pos h4, if_pos h4, show i = 213 by omega, h4]; exact ⟨rfl, rfl⟩)) _ _ (by first | (rw [el_w0_pt]; exact hP) | (simp only [el_w0_pt]; exact hP) | exact hP) (by first | (rw [el_w0_pt]; exact hD) | (simp only [el_w0_pt]; exact hD) | exact hD) hS ls (by first | (rw [el_w0_pt]; exact lv_sub hl [1, 0] rfl) | (simp only [el_w0_pt]; exact lv_sub hl [1, 0] rfl) | exact lv_sub hl [1, 0] rfl)
          · skip
            refine lv_aload_n hx hb dX7_saves_25 rfl (lv_at hl 0 rfl) ?_
            refine va_get (D := D) (ci := 5) (C := RX7) (T := TX7) (N := 15) hx hb hts hinX7 hown hK hP 0 rfl rfl 1 (by decide) (hts (.fieldLink RX7 13 "NearRanksModel" "past" "[J") (by decide +kernel)) (fun _ h9 => h9) rfl dX7_saves_26 ?_
            refine lv_iload_n hx hb dX7_saves_29 rfl (lv_at hl 1 rfl) ?_
            refine lv_aload_n hx hb dX7_saves_30 rfl (lv_at hl 0 rfl) ?_
            refine va_get (D := D) (ci := 5) (C := RX7) (T := TX7) (N := 15) hx hb hts hinX7 hown hK hP 0 rfl rfl 1 (by decide) (hts (.fieldLink RX7 13 "NearRanksModel" "past" "[J") (by decide +kernel)) (fun _ h9 => h9) rfl dX7_saves_31 ?_
            refine lv_iload_n hx hb dX7_saves_34 rfl (lv_at hl 1 rfl) ?_
            refine lv_bipush (v := nI 71) hx hb dX7_saves_35 (by decide) ?_
            refine lv_iadd hx hb dX7_saves_37 ?_
            refine wv_ti (nI_add _ _) ?_
            refine wv_lald hx hb hK hP 2 0 rfl rfl (k := i + 71) (by omega) (by decide) dX7_saves_38 ?_
            refine wv_last hx hb hK hP hD hS 2 0 rfl rfl (k := i) (by omega) (by decide) dX7_saves_39 (fun H locs hP hD hS => ?_)
            have hP : va_P D vwCl (ModC mo sa pa ha ta cJ cI (sM n b fl me st lk cm v nu) (vp_updL (shP pt i) i ((shP pt i) (i + 71))) hd tx ps ru ty rf lks lo1 hi1 sp cd pl gv) H := hP
            have hD : va_D _ (ModC mo sa pa ha ta cJ cI (sM n b fl me st lk cm v nu) (vp_updL (shP pt i) i ((shP pt i) (i + 71))) hd tx ps ru ty rf lks lo1 hi1 sp cd pl gv) := hD
            refine lv_iinc (v := nI (i + 1)) (lv' := [(1, .int (nI (i + 1))), (0, .ref mo)]) hx hb dX7_saves_40 hl (k := 1) rfl (nI_1 _) (by decide) rfl (fun ls hl => ?_)
            refine lv_goto (tgt := 18) hx hb dX7_saves_43 (by decide) ?_
            have el_w0_pt : shP pt (i + 1) = vp_updL (shP pt i) i ((shP pt i) (i + 71)) := by rw [shP_s, shP_r]
            exact ih18 (i + 1) (by omega) (by first | assumption | omega) (by first | assumption | omega) _ _ (by first | (rw [el_w0_pt]; exact hP) | (simp only [el_w0_pt]; exact hP) | exact hP) (by first | (rw [el_w0_pt]; exact hD) | (simp only [el_w0_pt]; exact hD) | exact hD) hS ls (by first | (rw [el_w0_pt]; exact lv_sub hl [1, 0] rfl) | (simp only [el_w0_pt]; exact lv_sub hl [1, 0] rfl) | exact lv_sub hl [1, 0] rfl)
      exact loop18 (213 - 0 + 1) 0 (by omega) (by first | assumption | omega) (by first | assumption | omega) _ _ (by first | (rw [el_w0_pt]; exact hP) | (simp only [el_w0_pt]; exact hP) | exact hP) (by first | (rw [el_w0_pt]; exact hD) | (simp only [el_w0_pt]; exact hD) | exact hD) hS ls (by first | (rw [el_w0_pt]; exact lv_sub hl [1, 0] rfl) | (simp only [el_w0_pt]; exact lv_sub hl [1, 0] rfl) | exact lv_sub hl [1, 0] rfl)
  · skip
    have ew0_pt : svP ru pt ps (sM n b fl me st lk cm v nu) = pt := by rw [c4]; rfl
    have ew0_ps : svN ru ps = ps := by rw [c4]; rfl
    exact wv_vretM hx hb hr hlocks hP hD hS (by rw [ew0_pt, ew0_ps]) dX7_saves_7

set_option maxHeartbeats 4000000 in
set_option maxRecDepth 100000 in
theorem kX7_holds (l : Launch) (D : va_G) (mo : Nat) (sa : Nat) (pa : Nat) (ha : Nat) (ta : Nat) (cJ : ClassId) (cI : ClassId) (n : Nat) (b : Nat) (fl : Bool) (me : Bool) (st : Int64) (lk : Int64) (cm : Int64) (v : Nat → Int64) (nu : Nat → Int64) (pt : Nat → Int64) (hd : Nat → Int64) (tx : Nat → Int32) (ps : Nat) (ru : Bool) (ty : Nat) (rf : Nat) (lks : Nat) (lo1 : Int32) (hi1 : Int32) (sp : Nat) (cd : Int32) (pl : Int32) (gv : Int64)  : MMv l yX7_holds wsX7_holds ({ frames := 0, cells := 0, slots := 0, locals := 0 } : Room) [.ref mo] D (ModC mo sa pa ha ta cJ cI (sM n b fl me st lk cm v nu) pt hd tx ps ru ty rf lks lo1 hi1 sp cd pl gv) [(cJ, .long), (cI, .int)] (ModC mo sa pa ha ta cJ cI (sM n b fl me st lk cm v nu) pt (cpk (sM n b fl me st lk cm v nu) hd 71) tx ps ru ty rf lks lo1 hi1 sp cd pl gv) := by
  refine MMv_of (cc := cX7_holds) (maxL := 2) (ret := none) (by decide +kernel) rfl (Nat.le_of_ble_eq_true rfl) ?_
  intro p e s m args below meth c hx hb hr hts hown hlocks hml hP hK hN hD ls hl
  have hown : s.vm.findClass RX7 = some m.cls := hown
  have hl : lv_has ls 2 [(0, .ref mo)] := hl
  have hS : va_S (va_A (ModC mo sa pa ha ta cJ cI (sM n b fl me st lk cm v nu) pt hd tx ps ru ty rf lks lo1 hi1 sp cd pl gv) s.heap.size) s.heap s.heap [] := va_S.rf
  have hA := wk_hA (ModC mo sa pa ha ta cJ cI (sM n b fl me st lk cm v nu) pt hd tx ps ru ty rf lks lo1 hi1 sp cd pl gv) s.heap.size
  have hD9 : True := trivial
  have hinX7 : ∀ w ∈ wsX70, w ∈ wsX7_holds := by decide +kernel
  refine lv_iconst (v := nI 0) hx hb dX7_holds_0 (by decide) ?_
  refine lv_istore_n (lv' := [(1, .int (nI 0)), (0, .ref mo)]) hx hb dX7_holds_1 rfl hl (by decide) rfl (fun ls hl => ?_)
  have el_w0_hd : cpk (sM n b fl me st lk cm v nu) hd 0 = hd := by exact cpk_0 _ _
  have loop2 : ∀ (K : Nat) (i : Nat), 71 - i < K → i ≤ 71 → ∀ (H : Heap) (locs : List Loc), va_P D vwCl (ModC mo sa pa ha ta cJ cI (sM n b fl me st lk cm v nu) pt (cpk (sM n b fl me st lk cm v nu) hd i) tx ps ru ty rf lks lo1 hi1 sp cd pl gv) H → va_D (va_A (ModC mo sa pa ha ta cJ cI (sM n b fl me st lk cm v nu) pt hd tx ps ru ty rf lks lo1 hi1 sp cd pl gv) s.heap.size) (ModC mo sa pa ha ta cJ cI (sM n b fl me st lk cm v nu) pt (cpk (sM n b fl me st lk cm v nu) hd i) tx ps ru ty rf lks lo1 hi1 sp cd pl gv) → va_S (va_A (ModC mo sa pa ha ta cJ cI (sM n b fl me st lk cm v nu) pt hd tx ps ru ty rf lks lo1 hi1 sp cd pl gv) s.heap.size) s.heap H locs → ∀ ls : Array Slot, lv_has ls 2 [(0, .ref mo), (1, .int (nI i))] → W p l e ({ frames := 0, cells := 0, slots := 0, locals := 0 } : Room) s m args below meth c H locs 0 0 (ZMv below args s D (ModC mo sa pa ha ta cJ cI (sM n b fl me st lk cm v nu) pt hd tx ps ru ty rf lks lo1 hi1 sp cd pl gv) (ModC mo sa pa ha ta cJ cI (sM n b fl me st lk cm v nu) pt (cpk (sM n b fl me st lk cm v nu) hd 71) tx ps ru ty rf lks lo1 hi1 sp cd pl gv)) (F0 m 2 ls []) := by
    intro K
    induction K with
    | zero => intro i hK0; exact absurd hK0 (Nat.not_lt_zero _)
    | succ K ih2 =>
      intro i hKm hi H locs hP hD hS ls hl
      refine lv_iload_n hx hb dX7_holds_2 rfl (lv_at hl 1 rfl) ?_
      refine lv_bipush (v := nI 71) hx hb dX7_holds_3 (by decide) ?_
      refine wv_icmp_ge (tgt := 26) hx hb (by omega) (by omega) dX7_holds_5 (by decide) (fun c5 => ?_) (fun c5 => ?_)
      · skip
        have ew0_hd : cpk (sM n b fl me st lk cm v nu) hd 71 = cpk (sM n b fl me st lk cm v nu) hd i := by rw [show i = 71 by omega]
        exact wv_vretM hx hb hr hlocks hP hD hS (by rw [ew0_hd]) dX7_holds_26
      · skip
        refine lv_aload_n hx hb dX7_holds_8 rfl (lv_at hl 0 rfl) ?_
        refine va_get (D := D) (ci := 5) (C := RX7) (T := TX7) (N := 15) hx hb hts hinX7 hown hK hP 0 rfl rfl 2 (by decide) (hts (.fieldLink RX7 16 "NearRanksModel" "held" "[J") (by decide +kernel)) (fun _ h9 => h9) rfl dX7_holds_9 ?_
        refine lv_iload_n hx hb dX7_holds_12 rfl (lv_at hl 1 rfl) ?_
        refine lv_aload_n hx hb dX7_holds_13 rfl (lv_at hl 0 rfl) ?_
        refine va_get (D := D) (ci := 5) (C := RX7) (T := TX7) (N := 15) hx hb hts hinX7 hown hK hP 0 rfl rfl 0 (by decide) (hts (.fieldLink RX7 7 "NearRanksModel" "s" "[J") (by decide +kernel)) (fun _ h9 => h9) rfl dX7_holds_14 ?_
        refine lv_iload_n hx hb dX7_holds_17 rfl (lv_at hl 1 rfl) ?_
        refine wv_lald hx hb hK hP 1 0 rfl rfl (k := i) (by omega) (by decide) dX7_holds_18 ?_
        refine wv_last hx hb hK hP hD hS 3 0 rfl rfl (k := i) (by omega) (by decide) dX7_holds_19 (fun H locs hP hD hS => ?_)
        have hP : va_P D vwCl (ModC mo sa pa ha ta cJ cI (sM n b fl me st lk cm v nu) pt (vp_updL (cpk (sM n b fl me st lk cm v nu) hd i) i ((sM n b fl me st lk cm v nu) i)) tx ps ru ty rf lks lo1 hi1 sp cd pl gv) H := hP
        have hD : va_D _ (ModC mo sa pa ha ta cJ cI (sM n b fl me st lk cm v nu) pt (vp_updL (cpk (sM n b fl me st lk cm v nu) hd i) i ((sM n b fl me st lk cm v nu) i)) tx ps ru ty rf lks lo1 hi1 sp cd pl gv) := hD
        refine lv_iinc (v := nI (i + 1)) (lv' := [(1, .int (nI (i + 1))), (0, .ref mo)]) hx hb dX7_holds_20 hl (k := 1) rfl (nI_1 _) (by decide) rfl (fun ls hl => ?_)
        refine lv_goto (tgt := 2) hx hb dX7_holds_23 (by decide) ?_
        have el_w0_hd : cpk (sM n b fl me st lk cm v nu) hd (i + 1) = vp_updL (cpk (sM n b fl me st lk cm v nu) hd i) i ((sM n b fl me st lk cm v nu) i) := by exact cpk_s _ _ _
        exact ih2 (i + 1) (by omega) (by first | assumption | omega) _ _ (by first | (rw [el_w0_hd]; exact hP) | (simp only [el_w0_hd]; exact hP) | exact hP) (by first | (rw [el_w0_hd]; exact hD) | (simp only [el_w0_hd]; exact hD) | exact hD) hS ls (by first | (rw [el_w0_hd]; exact lv_sub hl [1, 0] rfl) | (simp only [el_w0_hd]; exact lv_sub hl [1, 0] rfl) | exact lv_sub hl [1, 0] rfl)
  exact loop2 (71 - 0 + 1) 0 (by omega) (by first | assumption | omega) _ _ (by first | (rw [el_w0_hd]; exact hP) | (simp only [el_w0_hd]; exact hP) | exact hP) (by first | (rw [el_w0_hd]; exact hD) | (simp only [el_w0_hd]; exact hD) | exact hD) hS ls (by first | (rw [el_w0_hd]; exact lv_sub hl [1, 0] rfl) | (simp only [el_w0_hd]; exact lv_sub hl [1, 0] rfl) | exact lv_sub hl [1, 0] rfl)

set_option maxHeartbeats 4000000 in
set_option maxRecDepth 100000 in
theorem kX7_lets (l : Launch) (D : va_G) (mo : Nat) (sa : Nat) (pa : Nat) (ha : Nat) (ta : Nat) (cJ : ClassId) (cI : ClassId) (n : Nat) (b : Nat) (fl : Bool) (me : Bool) (st : Int64) (lk : Int64) (cm : Int64) (v : Nat → Int64) (nu : Nat → Int64) (pt : Nat → Int64) (hd : Nat → Int64) (tx : Nat → Int32) (ps : Nat) (ru : Bool) (ty : Nat) (rf : Nat) (lks : Nat) (lo1 : Int32) (hi1 : Int32) (sp : Nat) (cd : Int32) (pl : Int32) (gv : Int64)  : MMv l yX7_lets wsX7_lets ({ frames := 0, cells := 0, slots := 0, locals := 0 } : Room) [.ref mo] D (ModC mo sa pa ha ta cJ cI (sM n b fl me st lk cm v nu) pt hd tx ps ru ty rf lks lo1 hi1 sp cd pl gv) [(cJ, .long), (cI, .int)] (ModC mo sa pa ha ta cJ cI (cpk hd (sM n b fl me st lk cm v nu) 71) pt hd tx ps ru ty rf lks lo1 hi1 sp cd pl gv) := by
  refine MMv_of (cc := cX7_lets) (maxL := 2) (ret := none) (by decide +kernel) rfl (Nat.le_of_ble_eq_true rfl) ?_
  intro p e s m args below meth c hx hb hr hts hown hlocks hml hP hK hN hD ls hl
  have hown : s.vm.findClass RX7 = some m.cls := hown
  have hl : lv_has ls 2 [(0, .ref mo)] := hl
  have hS : va_S (va_A (ModC mo sa pa ha ta cJ cI (sM n b fl me st lk cm v nu) pt hd tx ps ru ty rf lks lo1 hi1 sp cd pl gv) s.heap.size) s.heap s.heap [] := va_S.rf
  have hA := wk_hA (ModC mo sa pa ha ta cJ cI (sM n b fl me st lk cm v nu) pt hd tx ps ru ty rf lks lo1 hi1 sp cd pl gv) s.heap.size
  have hD9 : True := trivial
  have hinX7 : ∀ w ∈ wsX70, w ∈ wsX7_lets := by decide +kernel
  refine lv_iconst (v := nI 0) hx hb dX7_lets_0 (by decide) ?_
  refine lv_istore_n (lv' := [(1, .int (nI 0)), (0, .ref mo)]) hx hb dX7_lets_1 rfl hl (by decide) rfl (fun ls hl => ?_)
  have el_w0_ss : cpk hd (sM n b fl me st lk cm v nu) 0 = sM n b fl me st lk cm v nu := by exact cpk_0 _ _
  have loop2 : ∀ (K : Nat) (i : Nat), 71 - i < K → i ≤ 71 → ∀ (H : Heap) (locs : List Loc), va_P D vwCl (ModC mo sa pa ha ta cJ cI (cpk hd (sM n b fl me st lk cm v nu) i) pt hd tx ps ru ty rf lks lo1 hi1 sp cd pl gv) H → va_D (va_A (ModC mo sa pa ha ta cJ cI (sM n b fl me st lk cm v nu) pt hd tx ps ru ty rf lks lo1 hi1 sp cd pl gv) s.heap.size) (ModC mo sa pa ha ta cJ cI (cpk hd (sM n b fl me st lk cm v nu) i) pt hd tx ps ru ty rf lks lo1 hi1 sp cd pl gv) → va_S (va_A (ModC mo sa pa ha ta cJ cI (sM n b fl me st lk cm v nu) pt hd tx ps ru ty rf lks lo1 hi1 sp cd pl gv) s.heap.size) s.heap H locs → ∀ ls : Array Slot, lv_has ls 2 [(0, .ref mo), (1, .int (nI i))] → W p l e ({ frames := 0, cells := 0, slots := 0, locals := 0 } : Room) s m args below meth c H locs 0 0 (ZMv below args s D (ModC mo sa pa ha ta cJ cI (sM n b fl me st lk cm v nu) pt hd tx ps ru ty rf lks lo1 hi1 sp cd pl gv) (ModC mo sa pa ha ta cJ cI (cpk hd (sM n b fl me st lk cm v nu) 71) pt hd tx ps ru ty rf lks lo1 hi1 sp cd pl gv)) (F0 m 2 ls []) := by
    intro K
    induction K with
    | zero => intro i hK0; exact absurd hK0 (Nat.not_lt_zero _)
    | succ K ih2 =>
      intro i hKm hi H locs hP hD hS ls hl
      refine lv_iload_n hx hb dX7_lets_2 rfl (lv_at hl 1 rfl) ?_
      refine lv_bipush (v := nI 71) hx hb dX7_lets_3 (by decide) ?_
      refine wv_icmp_ge (tgt := 26) hx hb (by omega) (by omega) dX7_lets_5 (by decide) (fun c5 => ?_) (fun c5 => ?_)
      · skip
        have ew0_ss : cpk hd (sM n b fl me st lk cm v nu) 71 = cpk hd (sM n b fl me st lk cm v nu) i := by rw [show i = 71 by omega]
        exact wv_vretM hx hb hr hlocks hP hD hS (by rw [ew0_ss]) dX7_lets_26
      · skip
        refine lv_aload_n hx hb dX7_lets_8 rfl (lv_at hl 0 rfl) ?_
        refine va_get (D := D) (ci := 5) (C := RX7) (T := TX7) (N := 15) hx hb hts hinX7 hown hK hP 0 rfl rfl 0 (by decide) (hts (.fieldLink RX7 7 "NearRanksModel" "s" "[J") (by decide +kernel)) (fun _ h9 => h9) rfl dX7_lets_9 ?_
        refine lv_iload_n hx hb dX7_lets_12 rfl (lv_at hl 1 rfl) ?_
        refine lv_aload_n hx hb dX7_lets_13 rfl (lv_at hl 0 rfl) ?_
        refine va_get (D := D) (ci := 5) (C := RX7) (T := TX7) (N := 15) hx hb hts hinX7 hown hK hP 0 rfl rfl 2 (by decide) (hts (.fieldLink RX7 16 "NearRanksModel" "held" "[J") (by decide +kernel)) (fun _ h9 => h9) rfl dX7_lets_14 ?_
        refine lv_iload_n hx hb dX7_lets_17 rfl (lv_at hl 1 rfl) ?_
        refine wv_lald hx hb hK hP 3 0 rfl rfl (k := i) (by omega) (by decide) dX7_lets_18 ?_
        refine wv_last hx hb hK hP hD hS 1 0 rfl rfl (k := i) (by omega) (by decide) dX7_lets_19 (fun H locs hP hD hS => ?_)
        have hP : va_P D vwCl (ModC mo sa pa ha ta cJ cI (vp_updL (cpk hd (sM n b fl me st lk cm v nu) i) i (hd i)) pt hd tx ps ru ty rf lks lo1 hi1 sp cd pl gv) H := hP
        have hD : va_D _ (ModC mo sa pa ha ta cJ cI (vp_updL (cpk hd (sM n b fl me st lk cm v nu) i) i (hd i)) pt hd tx ps ru ty rf lks lo1 hi1 sp cd pl gv) := hD
        refine lv_iinc (v := nI (i + 1)) (lv' := [(1, .int (nI (i + 1))), (0, .ref mo)]) hx hb dX7_lets_20 hl (k := 1) rfl (nI_1 _) (by decide) rfl (fun ls hl => ?_)
        refine lv_goto (tgt := 2) hx hb dX7_lets_23 (by decide) ?_
        have el_w0_ss : cpk hd (sM n b fl me st lk cm v nu) (i + 1) = vp_updL (cpk hd (sM n b fl me st lk cm v nu) i) i (hd i) := by exact cpk_s _ _ _
        exact ih2 (i + 1) (by omega) (by first | assumption | omega) _ _ (by first | (rw [el_w0_ss]; exact hP) | (simp only [el_w0_ss]; exact hP) | exact hP) (by first | (rw [el_w0_ss]; exact hD) | (simp only [el_w0_ss]; exact hD) | exact hD) hS ls (by first | (rw [el_w0_ss]; exact lv_sub hl [1, 0] rfl) | (simp only [el_w0_ss]; exact lv_sub hl [1, 0] rfl) | exact lv_sub hl [1, 0] rfl)
  exact loop2 (71 - 0 + 1) 0 (by omega) (by first | assumption | omega) _ _ (by first | (rw [el_w0_ss]; exact hP) | (simp only [el_w0_ss]; exact hP) | exact hP) (by first | (rw [el_w0_ss]; exact hD) | (simp only [el_w0_ss]; exact hD) | exact hD) hS ls (by first | (rw [el_w0_ss]; exact lv_sub hl [1, 0] rfl) | (simp only [el_w0_ss]; exact lv_sub hl [1, 0] rfl) | exact lv_sub hl [1, 0] rfl)

set_option maxHeartbeats 4000000 in
set_option maxRecDepth 100000 in
theorem kX7_ends (l : Launch) (D : va_G) (mo : Nat) (sa : Nat) (pa : Nat) (ha : Nat) (ta : Nat) (cJ : ClassId) (cI : ClassId) (n : Nat) (b : Nat) (fl : Bool) (me : Bool) (st : Int64) (lk : Int64) (cm : Int64) (v : Nat → Int64) (nu : Nat → Int64) (pt : Nat → Int64) (hd : Nat → Int64) (tx : Nat → Int32) (ps : Nat) (ru : Bool) (ty : Nat) (rf : Nat) (lks : Nat) (lo1 : Int32) (hi1 : Int32) (sp : Nat) (cd : Int32) (pl : Int32) (gv : Int64) (t : Int32) (hn : n ≤ 32) (hb : b ≤ 31) : MMi l yX7_ends wsX7_ends ({ frames := 6, cells := 0, slots := 0, locals := 134 } : Room) [.ref mo, .int t] D (ModC mo sa pa ha ta cJ cI (sM n b fl me st lk cm v nu) pt hd tx ps ru ty rf lks lo1 hi1 sp cd pl gv) [(cJ, .long), (cI, .int)] (t) (ModC mo sa pa ha ta cJ cI (sM n b fl me (st + (lN (eL me fl n b v).length)) lk cm (sws v (eL me fl n b v)) (sws nu (eL me fl n b v))) pt hd tx ps ru ty rf lks lo1 hi1 sp cd pl gv) := by
  refine MMi_of (cc := cX7_ends) (maxL := 3) (ret := some .int) (by decide +kernel) rfl (Nat.le_of_ble_eq_true rfl) ?_
  intro p e s m args below meth c hx hb hr hts hown hlocks hml hP hK hN hD ls hl
  have hown : s.vm.findClass RX7 = some m.cls := hown
  have hl : lv_has ls 3 [(0, .ref mo), (1, .int t)] := hl
  have hS : va_S (va_A (ModC mo sa pa ha ta cJ cI (sM n b fl me st lk cm v nu) pt hd tx ps ru ty rf lks lo1 hi1 sp cd pl gv) s.heap.size) s.heap s.heap [] := va_S.rf
  have hA := wk_hA (ModC mo sa pa ha ta cJ cI (sM n b fl me st lk cm v nu) pt hd tx ps ru ty rf lks lo1 hi1 sp cd pl gv) s.heap.size
  have hD9 : True := trivial
  have hinX7 : ∀ w ∈ wsX70, w ∈ wsX7_ends := by decide +kernel
  refine lv_aload_n hx hb dX7_ends_0 rfl (lv_at hl 0 rfl) ?_
  refine va_get (D := D) (ci := 5) (C := RX7) (T := TX7) (N := 15) hx hb hts hinX7 hown hK hP 0 rfl rfl 0 (by decide) (hts (.fieldLink RX7 7 "NearRanksModel" "s" "[J") (by decide +kernel)) (fun _ h9 => h9) rfl dX7_ends_1 ?_
  refine lv_iconst (v := nI 3) hx hb dX7_ends_4 (by decide) ?_
  refine wv_lald hx hb hK hP 1 0 rfl rfl (k := 3) (by omega) (by decide) dX7_ends_5 ?_
  refine wv_tl (y := bL me) sM_3 ?_
  refine lv_lconst (v := lN 1) hx hb dX7_ends_6 rfl ?_
  refine wv_lc_ne (tgt := 18) hx hb dX7_ends_7 dX7_ends_8 (by decide) (fun c8 => ?_) (fun c8 => ?_)
  · skip
    have c8 : me = false := Bool.eq_false_iff.mpr (fun z => c8 (bL_1.mpr z))
    have he : eL me fl n b v = [] := by unfold eL; rw [c8]; rfl
    refine lv_iconst (v := nI 0) hx hb dX7_ends_18 (by decide) ?_
    refine lv_istore_n (lv' := [(2, .int (nI 0)), (0, .ref mo), (1, .int t)]) hx hb dX7_ends_19 rfl hl (by decide) rfl (fun ls hl => ?_)
    refine lv_iload_n hx hb dX7_ends_20 rfl (lv_at hl 0 rfl) ?_
    refine lv_if_ge (tgt := 28) hx hb dX7_ends_21 (by decide) (fun _ => ?_) (fun h => absurd h (by decide))
    refine lv_iload_n hx hb dX7_ends_28 rfl (lv_at hl 2 rfl) ?_
    have ew0_st : (st + (lN (eL me fl n b v).length)) = st := by first | (rw [he]; done) | (rw [he]; exact (Int64.add_zero st))
    have ew0_v : (sws v (eL me fl n b v)) = v := by first | (rw [he]; done) | (rw [he]; rfl)
    have ew0_nu : (sws nu (eL me fl n b v)) = nu := by first | (rw [he]; done) | (rw [he]; rfl)
    exact wv_iretM hx hb hr hlocks hP hD hS rfl (by rw [ew0_st, ew0_nu, ew0_v]) dX7_ends_29
  · skip
    have c8 : me = true := bL_1.mp c8
    have he : eL me fl n b v = mL fl n b 1000 v := by unfold eL; rw [c8]; rfl
    refine lv_aload_n hx hb dX7_ends_11 rfl (lv_at hl 0 rfl) ?_
    refine wv_callMi (As := []) (rest := []) (wr := []) (ws1 := ModC mo sa pa ha ta cJ cI (sM n b fl me (st + (lN (mL fl n b 1000 v).length)) lk cm (sws v (mL fl n b 1000 v)) (sws nu (mL fl n b 1000 v))) pt hd tx ps ru ty rf lks lo1 hi1 sp cd pl gv) ⟨hx, hb, hml, hown, hts⟩ (kX7_mends l D mo sa pa ha ta cJ cI n b fl me st lk cm v nu pt hd tx ps ru ty rf lks lo1 hi1 sp cd pl gv (by first | assumption | omega) (by first | assumption | omega)) (cwV 0 hts gX7_ends_X7_mends rfl rfl rfl (by decide +kernel) ⟨Nat.le_of_ble_eq_true rfl, Nat.le_of_ble_eq_true rfl⟩) hK hN hP hD hS hA [0, 1, 2, 3, 4] [] [0, 1] [0, 1, 2, 3, 4] rfl rfl (by decide) rfl (by decide) (by decide) rfl (by decide) rfl 0 5 rfl rfl rfl rfl hl.1 rfl (Nat.le_of_ble_eq_true rfl) dX7_ends_12 ⟨Nat.zero_le _, Nat.zero_le _⟩ (fun H locs hz9 hP hD hS => ?_)
    obtain ⟨mlen, emlen⟩ : ∃ z : Nat, z = (mL fl n b 1000 v).length := ⟨_, rfl⟩
    refine wv_ti (y := nI mlen) (by rw [emlen]) ?_
    have hml9 : mlen ≤ 496 := by rw [emlen]; exact mL_len hn
    refine lv_goto (tgt := 19) hx hb dX7_ends_15 (by decide) ?_
    refine lv_istore_n (lv' := [(2, .int (nI mlen)), (0, .ref mo), (1, .int t)]) hx hb dX7_ends_19 rfl hl (by decide) rfl (fun ls hl => ?_)
    refine lv_iload_n hx hb dX7_ends_20 rfl (lv_at hl 0 rfl) ?_
    refine wv_if_ge hx hb (by omega) dX7_ends_21 (tgt := 28) (by decide) ?_
    refine lv_iload_n hx hb dX7_ends_28 rfl (lv_at hl 2 rfl) ?_
    have ew0_st : (st + (lN (eL me fl n b v).length)) = (st + (lN (mL fl n b 1000 v).length)) := by first | (rw [he]; done) | (rw [he]; exact (Int64.add_zero st))
    have ew0_v : (sws v (eL me fl n b v)) = (sws v (mL fl n b 1000 v)) := by first | (rw [he]; done) | (rw [he]; rfl)
    have ew0_nu : (sws nu (eL me fl n b v)) = (sws nu (mL fl n b 1000 v)) := by first | (rw [he]; done) | (rw [he]; rfl)
    exact wv_iretM hx hb hr hlocks hP hD hS rfl (by rw [ew0_st, ew0_nu, ew0_v]) dX7_ends_29

set_option maxHeartbeats 4000000 in
set_option maxRecDepth 100000 in
theorem kX7_throwsAt (l : Launch) (D : va_G) (mo : Nat) (sa : Nat) (pa : Nat) (ha : Nat) (ta : Nat) (cJ : ClassId) (cI : ClassId) (n : Nat) (b : Nat) (fl : Bool) (me : Bool) (st : Int64) (lk : Int64) (cm : Int64) (v : Nat → Int64) (nu : Nat → Int64) (pt : Nat → Int64) (hd : Nat → Int64) (tx : Nat → Int32) (ps : Nat) (ru : Bool) (ty : Nat) (rf : Nat) (lks : Nat) (lo1 : Int32) (hi1 : Int32) (sp : Nat) (cd : Int32) (pl : Int32) (gv : Int64) (k : Nat) (hk : k < 2 ^ 31) : MMi l yX7_throwsAt wsX7_throwsAt ({ frames := 0, cells := 0, slots := 0, locals := 0 } : Room) [.ref mo, .int (nI k)] D (ModC mo sa pa ha ta cJ cI (sM n b fl me st lk cm v nu) pt hd tx ps ru ty rf lks lo1 hi1 sp cd pl gv) [(cJ, .long), (cI, .int)] (bI (decide (0 < k))) (ModC mo sa pa ha ta cJ cI (sM n b fl me st lk cm v nu) pt hd tx ps ru ty k lks lo1 hi1 sp cd pl gv) := by
  refine MMi_of (cc := cX7_throwsAt) (maxL := 2) (ret := some .boolean) (by decide +kernel) rfl (Nat.le_of_ble_eq_true rfl) ?_
  intro p e s m args below meth c hx hb hr hts hown hlocks hml hP hK hN hD ls hl
  have hown : s.vm.findClass RX7 = some m.cls := hown
  have hl : lv_has ls 2 [(0, .ref mo), (1, .int (nI k))] := hl
  have hS : va_S (va_A (ModC mo sa pa ha ta cJ cI (sM n b fl me st lk cm v nu) pt hd tx ps ru ty rf lks lo1 hi1 sp cd pl gv) s.heap.size) s.heap s.heap [] := va_S.rf
  have hA := wk_hA (ModC mo sa pa ha ta cJ cI (sM n b fl me st lk cm v nu) pt hd tx ps ru ty rf lks lo1 hi1 sp cd pl gv) s.heap.size
  have hD9 : True := trivial
  have hinX7 : ∀ w ∈ wsX70, w ∈ wsX7_throwsAt := by decide +kernel
  refine lv_aload_n hx hb dX7_throwsAt_0 rfl (lv_at hl 0 rfl) ?_
  refine lv_iload_n hx hb dX7_throwsAt_1 rfl (lv_at hl 1 rfl) ?_
  refine va_put (D := D) (ci := 5) (v := .int (nI k)) (ty := .int) (C := RX7) (T := TX7) (N := 15) hx hb hts hinX7 tyX7 tyX7_ok nmX7 hown hK hP hD hS 0 rfl rfl 7 (by decide) (hts (.fieldLink RX7 25 "NearRanksModel" "refused" "I") (by decide +kernel)) (fun _ h9 => h9) rfl (by decide +kernel) rfl rfl (Nat.le_of_ble_eq_true rfl) dX7_throwsAt_2 (fun H locs hP hD hS => ?_)
  have hP : va_P D vwCl (ModC mo sa pa ha ta cJ cI (sM n b fl me st lk cm v nu) pt hd tx ps ru ty k lks lo1 hi1 sp cd pl gv) H := hP
  have hD : va_D _ (ModC mo sa pa ha ta cJ cI (sM n b fl me st lk cm v nu) pt hd tx ps ru ty k lks lo1 hi1 sp cd pl gv) := hD
  refine lv_iload_n hx hb dX7_throwsAt_5 rfl (lv_at hl 1 rfl) ?_
  refine wv_if_le (tgt := 13) hx hb (by omega) dX7_throwsAt_6 (by decide) (fun c6 => ?_) (fun c6 => ?_)
  · skip
    refine lv_iconst (v := nI 0) hx hb dX7_throwsAt_13 (by decide) ?_
    exact wv_zretM (b := false) hx hb hr hlocks hP hD hS rfl (by simp [bI, nI_0, wk_1, *]) rfl dX7_throwsAt_14
  · skip
    refine lv_iconst (v := nI 1) hx hb dX7_throwsAt_9 (by decide) ?_
    refine lv_goto (tgt := 14) hx hb dX7_throwsAt_10 (by decide) ?_
    exact wv_zretM (b := true) hx hb hr hlocks hP hD hS rfl (by simp [bI, nI_0, wk_1, *]) rfl dX7_throwsAt_14

set_option maxHeartbeats 4000000 in
set_option maxRecDepth 100000 in
theorem kX7_thrown (l : Launch) (D : va_G) (mo : Nat) (sa : Nat) (pa : Nat) (ha : Nat) (ta : Nat) (cJ : ClassId) (cI : ClassId) (n : Nat) (b : Nat) (fl : Bool) (me : Bool) (st : Int64) (lk : Int64) (cm : Int64) (v : Nat → Int64) (nu : Nat → Int64) (pt : Nat → Int64) (hd : Nat → Int64) (tx : Nat → Int32) (ps : Nat) (ru : Bool) (ty : Nat) (rf : Nat) (lks : Nat) (lo1 : Int32) (hi1 : Int32) (sp : Nat) (cd : Int32) (pl : Int32) (gv : Int64)  : PMi l yX7_thrown wsX7_thrown ({ frames := 0, cells := 0, slots := 0, locals := 0 } : Room) [.ref mo] D (ModC mo sa pa ha ta cJ cI (sM n b fl me st lk cm v nu) pt hd tx ps ru ty rf lks lo1 hi1 sp cd pl gv) [(cJ, .long), (cI, .int)] (nI rf) := by
  refine PMi_of (cc := cX7_thrown) (maxL := 1) (ret := some .int) (by decide +kernel) rfl (Nat.le_of_ble_eq_true rfl) ?_
  intro p e s m args below meth c hx hb hr hts hown hlocks hml hP hK hN ls hl
  have hown : s.vm.findClass RX7 = some m.cls := hown
  have hl : lv_has ls 1 [(0, .ref mo)] := hl
  have hS : va_S (va_A [] s.heap.size) s.heap s.heap [] := va_S.rf
  have hA := wk_hA [] s.heap.size
  have hD9 : True := trivial
  have hinX7 : ∀ w ∈ wsX70, w ∈ wsX7_thrown := by decide +kernel
  refine lv_aload_n hx hb dX7_thrown_0 rfl (lv_at hl 0 rfl) ?_
  refine va_get (D := D) (ci := 5) (C := RX7) (T := TX7) (N := 15) hx hb hts hinX7 hown hK hP 0 rfl rfl 7 (by decide) (hts (.fieldLink RX7 25 "NearRanksModel" "refused" "I") (by decide +kernel)) (fun _ h9 => h9) rfl dX7_thrown_1 ?_
  exact wv_iretP hx hb hr hlocks hS rfl dX7_thrown_4
