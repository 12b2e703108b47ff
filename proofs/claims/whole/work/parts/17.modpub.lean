/-! The model: its public methods. -/
set_option maxHeartbeats 4000000 in
set_option maxRecDepth 100000 in
theorem kX7_append_full (l : Launch) (D : va_G) (mo : Nat) (sa : Nat) (pa : Nat) (ha : Nat) (ta : Nat) (cJ : ClassId) (cI : ClassId) (n : Nat) (b : Nat) (fl : Bool) (me : Bool) (st : Int64) (lk : Int64) (cm : Int64) (v : Nat → Int64) (nu : Nat → Int64) (pt : Nat → Int64) (hd : Nat → Int64) (tx : Nat → Int32) (ps : Nat) (ru : Bool) (ty : Nat) (rf : Nat) (lks : Nat) (lo1 : Int32) (hi1 : Int32) (sp : Nat) (cd : Int32) (pl : Int32) (gv : Int64) (x : Int64) (hn : n = 32) : MMi l yX7_append wsX7_append ({ frames := 1, cells := 0, slots := 0, locals := 21 } : Room) [.ref mo, .long x] D (ModC mo sa pa ha ta cJ cI (sM n b fl me st lk cm v nu) pt hd tx ps ru ty rf lks lo1 hi1 sp cd pl gv) [(cJ, .long), (cI, .int)] (nI 0) (ModC mo sa pa ha ta cJ cI (sM n b fl me st lk cm v nu) pt hd tx ps ru ty 1 lks lo1 hi1 sp cd pl gv) := by
  refine MMi_of (cc := cX7_append) (maxL := 4) (ret := some .int) (by decide +kernel) rfl (Nat.le_of_ble_eq_true rfl) ?_
  intro p e s m args below meth c hx hb hr hts hown hlocks hml hP hK hN hD ls hl
  have hown : s.vm.findClass RX7 = some m.cls := hown
  have hl : lv_has ls 4 [(0, .ref mo), (1, .long x)] := hl
  have hS : va_S (va_A (ModC mo sa pa ha ta cJ cI (sM n b fl me st lk cm v nu) pt hd tx ps ru ty rf lks lo1 hi1 sp cd pl gv) s.heap.size) s.heap s.heap [] := va_S.rf
  have hA := wk_hA (ModC mo sa pa ha ta cJ cI (sM n b fl me st lk cm v nu) pt hd tx ps ru ty rf lks lo1 hi1 sp cd pl gv) s.heap.size
  have hD9 : True := trivial
  have hinX7 : ∀ w ∈ wsX70, w ∈ wsX7_append := by decide +kernel
  refine lv_aload_n hx hb dX7_append_0 rfl (lv_at hl 0 rfl) ?_
  refine lv_aload_n hx hb dX7_append_1 rfl (lv_at hl 0 rfl) ?_
  refine va_get (D := D) (ci := 5) (C := RX7) (T := TX7) (N := 15) hx hb hts hinX7 hown hK hP 0 rfl rfl 0 (by decide) (hts (.fieldLink RX7 7 "NearRanksModel" "s" "[J") (by decide +kernel)) (fun _ h9 => h9) rfl dX7_append_2 ?_
  refine lv_iconst (v := nI 0) hx hb dX7_append_5 (by decide) ?_
  refine wv_lald hx hb hK hP 1 0 rfl rfl (k := 0) (by omega) (by decide) dX7_append_6 ?_
  refine wv_tl (y := lN n) sM_0 ?_
  refine lv_ldc2 (v := lN 32) hx hb hown (hts (.constantLong RX7 74 (32)) (by decide +kernel)) dX7_append_7 ?_
  refine wv_lcN_ne (tgt := 18) hx hb (by omega) (by omega) dX7_append_10 dX7_append_11 (by decide) (fun c11 => by exfalso; exact c11 hn) (fun c11 => ?_)
  refine lv_iconst (v := nI 1) hx hb dX7_append_14 (by decide) ?_
  refine lv_goto (tgt := 19) hx hb dX7_append_15 (by decide) ?_
  refine wv_callMi (As := [.int (nI 1)]) (rest := []) (wr := []) (ws1 := ModC mo sa pa ha ta cJ cI (sM n b fl me st lk cm v nu) pt hd tx ps ru ty 1 lks lo1 hi1 sp cd pl gv) ⟨hx, hb, hml, hown, hts⟩ (kX7_throwsAt l D mo sa pa ha ta cJ cI n b fl me st lk cm v nu pt hd tx ps ru ty rf lks lo1 hi1 sp cd pl gv 1 (by first | assumption | omega)) (cwV 1 hts gX7_append_X7_throwsAt rfl rfl rfl (by decide +kernel) ⟨Nat.le_of_ble_eq_true rfl, Nat.le_of_ble_eq_true rfl⟩) hK hN hP hD hS hA [0, 1, 2, 3, 4] [] [0, 1] [0, 1, 2, 3, 4] rfl rfl (by decide) rfl (by decide) (by decide) rfl (by decide) rfl 0 5 rfl rfl rfl rfl hl.1 rfl (Nat.le_of_ble_eq_true rfl) dX7_append_19 ⟨Nat.zero_le _, Nat.zero_le _⟩ (fun H locs hz9 hP hD hS => ?_)
  refine wv_ti (y := bI true) (by decide) ?_
  refine wv_ifeqB (tgt := 27) hx hb dX7_append_22 (by decide) (fun h => by cases h) (fun _ => ?_)
  refine lv_iconst (v := nI 0) hx hb dX7_append_25 (by decide) ?_
  exact wv_iretM hx hb hr hlocks hP hD hS rfl rfl dX7_append_26

set_option maxHeartbeats 4000000 in
set_option maxRecDepth 100000 in
theorem kX7_append (l : Launch) (D : va_G) (mo : Nat) (sa : Nat) (pa : Nat) (ha : Nat) (ta : Nat) (cJ : ClassId) (cI : ClassId) (n : Nat) (b : Nat) (fl : Bool) (me : Bool) (st : Int64) (lk : Int64) (cm : Int64) (v : Nat → Int64) (nu : Nat → Int64) (pt : Nat → Int64) (hd : Nat → Int64) (tx : Nat → Int32) (ps : Nat) (ru : Bool) (ty : Nat) (rf : Nat) (lks : Nat) (lo1 : Int32) (hi1 : Int32) (sp : Nat) (cd : Int32) (pl : Int32) (gv : Int64) (x : Int64) (hn : n < 32) (hb : b ≤ 31) (hps : ps ≤ 4) : MMi l yX7_append wsX7_append ({ frames := 7, cells := 0, slots := 0, locals := 156 } : Room) [.ref mo, .long x] D (ModC mo sa pa ha ta cJ cI (sM n b fl me st lk cm v nu) pt hd tx ps ru ty rf lks lo1 hi1 sp cd pl gv) [(cJ, .long), (cI, .int)] (dst fl (insA v n n x) (n + 1) n) (ModC mo sa pa ha ta cJ cI (sM (n + 1) b fl me (st + (lN (eL me fl (n + 1) b (insA v n n x)).length)) lk (cm + (lN 1)) (sws (insA v n n x) (eL me fl (n + 1) b (insA v n n x))) (sws (insA nu n n cm) (eL me fl (n + 1) b (insA v n n x)))) (svP ru pt ps (sM n b fl me st lk cm v nu)) hd tx (svN ru ps) ru ty 0 lks lo1 hi1 sp cd pl gv) := by
  refine MMi_of (cc := cX7_append) (maxL := 4) (ret := some .int) (by decide +kernel) rfl (Nat.le_of_ble_eq_true rfl) ?_
  intro p e s m args below meth c hx hb hr hts hown hlocks hml hP hK hN hD ls hl
  have hown : s.vm.findClass RX7 = some m.cls := hown
  have hl : lv_has ls 4 [(0, .ref mo), (1, .long x)] := hl
  have hS : va_S (va_A (ModC mo sa pa ha ta cJ cI (sM n b fl me st lk cm v nu) pt hd tx ps ru ty rf lks lo1 hi1 sp cd pl gv) s.heap.size) s.heap s.heap [] := va_S.rf
  have hA := wk_hA (ModC mo sa pa ha ta cJ cI (sM n b fl me st lk cm v nu) pt hd tx ps ru ty rf lks lo1 hi1 sp cd pl gv) s.heap.size
  have hD9 : True := trivial
  have hinX7 : ∀ w ∈ wsX70, w ∈ wsX7_append := by decide +kernel
  refine lv_aload_n hx hb dX7_append_0 rfl (lv_at hl 0 rfl) ?_
  refine lv_aload_n hx hb dX7_append_1 rfl (lv_at hl 0 rfl) ?_
  refine va_get (D := D) (ci := 5) (C := RX7) (T := TX7) (N := 15) hx hb hts hinX7 hown hK hP 0 rfl rfl 0 (by decide) (hts (.fieldLink RX7 7 "NearRanksModel" "s" "[J") (by decide +kernel)) (fun _ h9 => h9) rfl dX7_append_2 ?_
  refine lv_iconst (v := nI 0) hx hb dX7_append_5 (by decide) ?_
  refine wv_lald hx hb hK hP 1 0 rfl rfl (k := 0) (by omega) (by decide) dX7_append_6 ?_
  refine wv_tl (y := lN n) sM_0 ?_
  refine lv_ldc2 (v := lN 32) hx hb hown (hts (.constantLong RX7 74 (32)) (by decide +kernel)) dX7_append_7 ?_
  refine wv_lcN_ne (tgt := 18) hx hb (by omega) (by omega) dX7_append_10 dX7_append_11 (by decide) (fun c11 => ?_) (fun c11 => by exfalso; omega)
  refine lv_iconst (v := nI 0) hx hb dX7_append_18 (by decide) ?_
  refine wv_callMi (As := [.int (nI 0)]) (rest := []) (wr := []) (ws1 := ModC mo sa pa ha ta cJ cI (sM n b fl me st lk cm v nu) pt hd tx ps ru ty 0 lks lo1 hi1 sp cd pl gv) ⟨hx, hb, hml, hown, hts⟩ (kX7_throwsAt l D mo sa pa ha ta cJ cI n b fl me st lk cm v nu pt hd tx ps ru ty rf lks lo1 hi1 sp cd pl gv 0 (by first | assumption | omega)) (cwV 1 hts gX7_append_X7_throwsAt rfl rfl rfl (by decide +kernel) ⟨Nat.le_of_ble_eq_true rfl, Nat.le_of_ble_eq_true rfl⟩) hK hN hP hD hS hA [0, 1, 2, 3, 4] [] [0, 1] [0, 1, 2, 3, 4] rfl rfl (by decide) rfl (by decide) (by decide) rfl (by decide) rfl 0 5 rfl rfl rfl rfl hl.1 rfl (Nat.le_of_ble_eq_true rfl) dX7_append_19 ⟨Nat.zero_le _, Nat.zero_le _⟩ (fun H locs hz9 hP hD hS => ?_)
  refine wv_ti (y := bI false) (by decide) ?_
  refine wv_ifeqB (tgt := 27) hx hb dX7_append_22 (by decide) (fun _ => ?_) (fun h => by cases h)
  refine lv_aload_n hx hb dX7_append_27 rfl (lv_at hl 0 rfl) ?_
  refine wv_callMv (As := []) (rest := []) (wr := []) (ws1 := ModC mo sa pa ha ta cJ cI (sM n b fl me st lk cm v nu) (svP ru pt ps (sM n b fl me st lk cm v nu)) hd tx (svN ru ps) ru ty 0 lks lo1 hi1 sp cd pl gv) ⟨hx, hb, hml, hown, hts⟩ (kX7_saves l D mo sa pa ha ta cJ cI n b fl me st lk cm v nu pt hd tx ps ru ty 0 lks lo1 hi1 sp cd pl gv (by first | assumption | omega)) (cwV 0 hts gX7_append_X7_saves rfl rfl rfl (by decide +kernel) ⟨Nat.le_of_ble_eq_true rfl, Nat.le_of_ble_eq_true rfl⟩) hK hN hP hD hS hA [0, 1, 2, 3, 4] [] [0, 1] [0, 1, 2, 3, 4] rfl rfl (by decide) rfl (by decide) (by decide) rfl (by decide) rfl 0 5 rfl rfl rfl rfl hl.1 rfl (Nat.le_of_ble_eq_true rfl) dX7_append_28 ⟨Nat.zero_le _, Nat.zero_le _⟩ (fun H locs hz9 hP hD hS => ?_)
  refine lv_aload_n hx hb dX7_append_31 rfl (lv_at hl 0 rfl) ?_
  refine lv_iconst (v := nI 0) hx hb dX7_append_32 (by decide) ?_
  refine wv_callPi (As := [.int (nI 0)]) (rest := []) ⟨hx, hb, hml, hown, hts⟩ (kX7_of l D mo sa pa ha ta cJ cI n b fl me st lk cm v nu (svP ru pt ps (sM n b fl me st lk cm v nu)) hd tx (svN ru ps) ru ty 0 lks lo1 hi1 sp cd pl gv 0 (by first | assumption | omega)) (cwV 1 hts gX7_append_X7_of rfl rfl rfl (by decide +kernel) ⟨Nat.le_of_ble_eq_true rfl, Nat.le_of_ble_eq_true rfl⟩) hK hN hP hS hA [0, 1, 2, 3, 4] [0, 1] rfl rfl 0 5 rfl rfl rfl rfl hl.1 rfl (Nat.le_of_ble_eq_true rfl) dX7_append_33 ⟨Nat.zero_le _, Nat.zero_le _⟩ (fun H locs hz9 hP hS => ?_)
  refine wv_ti (y := nI n) of_0 ?_
  refine lv_istore_n (lv' := [(3, .int (nI n)), (0, .ref mo), (1, .long x)]) hx hb dX7_append_36 rfl hl (by decide) rfl (fun ls hl => ?_)
  refine lv_aload_n hx hb dX7_append_37 rfl (lv_at hl 1 rfl) ?_
  refine lv_iload_n hx hb dX7_append_38 rfl (lv_at hl 0 rfl) ?_
  refine lv_lload_n hx hb dX7_append_39 rfl (lv_at hl 2 rfl) ?_
  refine wv_callMv (As := [.int (nI n), .long x]) (rest := []) (wr := []) (ws1 := ModC mo sa pa ha ta cJ cI (sM (n + 1) b fl me st lk (cm + (lN 1)) (insA v n n x) (insA nu n n cm)) (svP ru pt ps (sM n b fl me st lk cm v nu)) hd tx (svN ru ps) ru ty 0 lks lo1 hi1 sp cd pl gv) ⟨hx, hb, hml, hown, hts⟩ (kX7_puts l D mo sa pa ha ta cJ cI n b fl me st lk cm v nu (svP ru pt ps (sM n b fl me st lk cm v nu)) hd tx (svN ru ps) ru ty 0 lks lo1 hi1 sp cd pl gv n x (by first | assumption | omega) (by first | assumption | omega)) (cwV 2 hts gX7_append_X7_puts rfl rfl rfl (by decide +kernel) ⟨Nat.le_of_ble_eq_true rfl, Nat.le_of_ble_eq_true rfl⟩) hK hN hP hD hS hA [0, 1, 2, 3, 4] [] [0, 1] [0, 1, 2, 3, 4] rfl rfl (by decide) rfl (by decide) (by decide) rfl (by decide) rfl 0 5 rfl rfl rfl rfl hl.1 rfl (Nat.le_of_ble_eq_true rfl) dX7_append_40 ⟨Nat.zero_le _, Nat.zero_le _⟩ (fun H locs hz9 hP hD hS => ?_)
  refine lv_aload_n hx hb dX7_append_43 rfl (lv_at hl 1 rfl) ?_
  refine lv_aload_n hx hb dX7_append_44 rfl (lv_at hl 1 rfl) ?_
  refine lv_iload_n hx hb dX7_append_45 rfl (lv_at hl 0 rfl) ?_
  refine wv_callPi (As := [.int (nI n)]) (rest := [.ref mo]) ⟨hx, hb, hml, hown, hts⟩ (kX7_distance l D mo sa pa ha ta cJ cI (n + 1) b fl me st lk (cm + (lN 1)) (insA v n n x) (insA nu n n cm) (svP ru pt ps (sM n b fl me st lk cm v nu)) hd tx (svN ru ps) ru ty 0 lks lo1 hi1 sp cd pl gv n (by first | assumption | omega) (by first | assumption | omega)) (cwV 1 hts gX7_append_X7_distance rfl rfl rfl (by decide +kernel) ⟨Nat.le_of_ble_eq_true rfl, Nat.le_of_ble_eq_true rfl⟩) hK hN hP hS hA [0, 1, 2, 3, 4] [0, 1] rfl rfl 0 5 rfl rfl rfl rfl hl.1 rfl (Nat.le_of_ble_eq_true rfl) dX7_append_46 ⟨Nat.zero_le _, Nat.zero_le _⟩ (fun H locs hz9 hP hS => ?_)
  refine wv_callMi (As := [.int (dst fl (insA v n n x) (n + 1) n)]) (rest := []) (wr := []) (ws1 := ModC mo sa pa ha ta cJ cI (sM (n + 1) b fl me (st + (lN (eL me fl (n + 1) b (insA v n n x)).length)) lk (cm + (lN 1)) (sws (insA v n n x) (eL me fl (n + 1) b (insA v n n x))) (sws (insA nu n n cm) (eL me fl (n + 1) b (insA v n n x)))) (svP ru pt ps (sM n b fl me st lk cm v nu)) hd tx (svN ru ps) ru ty 0 lks lo1 hi1 sp cd pl gv) ⟨hx, hb, hml, hown, hts⟩ (kX7_ends l D mo sa pa ha ta cJ cI (n + 1) b fl me st lk (cm + (lN 1)) (insA v n n x) (insA nu n n cm) (svP ru pt ps (sM n b fl me st lk cm v nu)) hd tx (svN ru ps) ru ty 0 lks lo1 hi1 sp cd pl gv (dst fl (insA v n n x) (n + 1) n) (by first | assumption | omega) (by first | assumption | omega)) (cwV 1 hts gX7_append_X7_ends rfl rfl rfl (by decide +kernel) ⟨Nat.le_of_ble_eq_true rfl, Nat.le_of_ble_eq_true rfl⟩) hK hN hP hD hS hA [0, 1, 2, 3, 4] [] [0, 1] [0, 1, 2, 3, 4] rfl rfl (by decide) rfl (by decide) (by decide) rfl (by decide) rfl 0 5 rfl rfl rfl rfl hl.1 rfl (Nat.le_of_ble_eq_true rfl) dX7_append_49 ⟨Nat.zero_le _, Nat.zero_le _⟩ (fun H locs hz9 hP hD hS => ?_)
  exact wv_iretM hx hb hr hlocks hP hD hS rfl rfl dX7_append_52

set_option maxHeartbeats 4000000 in
set_option maxRecDepth 100000 in
theorem kX7_insert_bad (l : Launch) (D : va_G) (mo : Nat) (sa : Nat) (pa : Nat) (ha : Nat) (ta : Nat) (cJ : ClassId) (cI : ClassId) (n : Nat) (b : Nat) (fl : Bool) (me : Bool) (st : Int64) (lk : Int64) (cm : Int64) (v : Nat → Int64) (nu : Nat → Int64) (pt : Nat → Int64) (hd : Nat → Int64) (tx : Nat → Int32) (ps : Nat) (ru : Bool) (ty : Nat) (rf : Nat) (lks : Nat) (lo1 : Int32) (hi1 : Int32) (sp : Nat) (cd : Int32) (pl : Int32) (gv : Int64) (z : Int32) (x : Int64) (hn : n ≤ 32) (hz : opn z n = false) : MMi l yX7_insert wsX7_insert ({ frames := 1, cells := 0, slots := 0, locals := 25 } : Room) [.ref mo, .int z, .long x] D (ModC mo sa pa ha ta cJ cI (sM n b fl me st lk cm v nu) pt hd tx ps ru ty rf lks lo1 hi1 sp cd pl gv) [(cJ, .long), (cI, .int)] (nI 0) (ModC mo sa pa ha ta cJ cI (sM n b fl me st lk cm v nu) pt hd tx ps ru ty 1 lks lo1 hi1 sp cd pl gv) := by
  refine MMi_of (cc := cX7_insert) (maxL := 4) (ret := some .int) (by decide +kernel) rfl (Nat.le_of_ble_eq_true rfl) ?_
  intro p e s m args below meth c hx hb hr hts hown hlocks hml hP hK hN hD ls hl
  have hown : s.vm.findClass RX7 = some m.cls := hown
  have hl : lv_has ls 4 [(0, .ref mo), (1, .int z), (2, .long x)] := hl
  have hS : va_S (va_A (ModC mo sa pa ha ta cJ cI (sM n b fl me st lk cm v nu) pt hd tx ps ru ty rf lks lo1 hi1 sp cd pl gv) s.heap.size) s.heap s.heap [] := va_S.rf
  have hA := wk_hA (ModC mo sa pa ha ta cJ cI (sM n b fl me st lk cm v nu) pt hd tx ps ru ty rf lks lo1 hi1 sp cd pl gv) s.heap.size
  have hD9 : True := trivial
  have hinX7 : ∀ w ∈ wsX70, w ∈ wsX7_insert := by decide +kernel
  refine lv_aload_n hx hb dX7_insert_0 rfl (lv_at hl 0 rfl) ?_
  refine lv_iload_n hx hb dX7_insert_1 rfl (lv_at hl 1 rfl) ?_
  refine lv_i2l (v := z.toInt64) hx hb dX7_insert_2 rfl ?_
  refine lv_lconst (v := lN 0) hx hb dX7_insert_3 rfl ?_
  refine lv_aload_n hx hb dX7_insert_4 rfl (lv_at hl 0 rfl) ?_
  refine va_get (D := D) (ci := 5) (C := RX7) (T := TX7) (N := 15) hx hb hts hinX7 hown hK hP 0 rfl rfl 0 (by decide) (hts (.fieldLink RX7 7 "NearRanksModel" "s" "[J") (by decide +kernel)) (fun _ h9 => h9) rfl dX7_insert_5 ?_
  refine lv_iconst (v := nI 0) hx hb dX7_insert_8 (by decide) ?_
  refine wv_lald hx hb hK hP 1 0 rfl rfl (k := 0) (by omega) (by decide) dX7_insert_9 ?_
  refine wv_tl (y := lN n) sM_0 ?_
  refine wv_callSi (As := [.long z.toInt64, .long (lN 0), .long (lN n)]) (rest := [.ref mo]) ⟨hx, hb, hml, hown, hts⟩ (kX7_in l D z.toInt64 (lN 0) (lN n)) (va_cwS 3 hts gX7_insert_X7_in rfl rfl rfl (by decide +kernel) ⟨Nat.le_of_ble_eq_true rfl, Nat.le_of_ble_eq_true rfl⟩) hK hN hP hS hA [] [] rfl rfl rfl hl.1 rfl (Nat.le_of_ble_eq_true rfl) dX7_insert_10 ⟨Nat.zero_le _, Nat.zero_le _⟩ (fun H locs hz9 hP hS => ?_)
  refine wv_ti (y := bI false) (by rw [wk_in_o z (by omega), hz]) ?_
  refine wv_ifneB (tgt := 20) hx hb dX7_insert_13 (by decide) (fun h => by cases h) (fun _ => ?_)
  refine lv_iconst (v := nI 1) hx hb dX7_insert_16 (by decide) ?_
  refine lv_goto (tgt := 38) hx hb dX7_insert_17 (by decide) ?_
  refine wv_callMi (As := [.int (nI 1)]) (rest := []) (wr := []) (ws1 := ModC mo sa pa ha ta cJ cI (sM n b fl me st lk cm v nu) pt hd tx ps ru ty 1 lks lo1 hi1 sp cd pl gv) ⟨hx, hb, hml, hown, hts⟩ (kX7_throwsAt l D mo sa pa ha ta cJ cI n b fl me st lk cm v nu pt hd tx ps ru ty rf lks lo1 hi1 sp cd pl gv 1 (by first | assumption | omega)) (cwV 1 hts gX7_insert_X7_throwsAt rfl rfl rfl (by decide +kernel) ⟨Nat.le_of_ble_eq_true rfl, Nat.le_of_ble_eq_true rfl⟩) hK hN hP hD hS hA [0, 1, 2, 3, 4] [] [0, 1] [0, 1, 2, 3, 4] rfl rfl (by decide) rfl (by decide) (by decide) rfl (by decide) rfl 0 5 rfl rfl rfl rfl hl.1 rfl (Nat.le_of_ble_eq_true rfl) dX7_insert_38 ⟨Nat.zero_le _, Nat.zero_le _⟩ (fun H locs hz9 hP hD hS => ?_)
  refine wv_ti (y := bI true) (by decide) ?_
  refine wv_ifeqB (tgt := 46) hx hb dX7_insert_41 (by decide) (fun h => by cases h) (fun _ => ?_)
  refine lv_iconst (v := nI 0) hx hb dX7_insert_44 (by decide) ?_
  exact wv_iretM hx hb hr hlocks hP hD hS rfl rfl dX7_insert_45

set_option maxHeartbeats 4000000 in
set_option maxRecDepth 100000 in
theorem kX7_insert_full (l : Launch) (D : va_G) (mo : Nat) (sa : Nat) (pa : Nat) (ha : Nat) (ta : Nat) (cJ : ClassId) (cI : ClassId) (n : Nat) (b : Nat) (fl : Bool) (me : Bool) (st : Int64) (lk : Int64) (cm : Int64) (v : Nat → Int64) (nu : Nat → Int64) (pt : Nat → Int64) (hd : Nat → Int64) (tx : Nat → Int32) (ps : Nat) (ru : Bool) (ty : Nat) (rf : Nat) (lks : Nat) (lo1 : Int32) (hi1 : Int32) (sp : Nat) (cd : Int32) (pl : Int32) (gv : Int64) (k : Nat) (x : Int64) (hn : n = 32) (hk : k ≤ n) : MMi l yX7_insert wsX7_insert ({ frames := 1, cells := 0, slots := 0, locals := 25 } : Room) [.ref mo, .int (nI k), .long x] D (ModC mo sa pa ha ta cJ cI (sM n b fl me st lk cm v nu) pt hd tx ps ru ty rf lks lo1 hi1 sp cd pl gv) [(cJ, .long), (cI, .int)] (nI 0) (ModC mo sa pa ha ta cJ cI (sM n b fl me st lk cm v nu) pt hd tx ps ru ty 2 lks lo1 hi1 sp cd pl gv) := by
  refine MMi_of (cc := cX7_insert) (maxL := 4) (ret := some .int) (by decide +kernel) rfl (Nat.le_of_ble_eq_true rfl) ?_
  intro p e s m args below meth c hx hb hr hts hown hlocks hml hP hK hN hD ls hl
  have hown : s.vm.findClass RX7 = some m.cls := hown
  have hl : lv_has ls 4 [(0, .ref mo), (1, .int (nI k)), (2, .long x)] := hl
  have hS : va_S (va_A (ModC mo sa pa ha ta cJ cI (sM n b fl me st lk cm v nu) pt hd tx ps ru ty rf lks lo1 hi1 sp cd pl gv) s.heap.size) s.heap s.heap [] := va_S.rf
  have hA := wk_hA (ModC mo sa pa ha ta cJ cI (sM n b fl me st lk cm v nu) pt hd tx ps ru ty rf lks lo1 hi1 sp cd pl gv) s.heap.size
  have hD9 : True := trivial
  have hinX7 : ∀ w ∈ wsX70, w ∈ wsX7_insert := by decide +kernel
  refine lv_aload_n hx hb dX7_insert_0 rfl (lv_at hl 0 rfl) ?_
  refine lv_iload_n hx hb dX7_insert_1 rfl (lv_at hl 1 rfl) ?_
  refine lv_i2l (v := lN k) hx hb dX7_insert_2 (nI_l (by omega)) ?_
  refine lv_lconst (v := lN 0) hx hb dX7_insert_3 rfl ?_
  refine lv_aload_n hx hb dX7_insert_4 rfl (lv_at hl 0 rfl) ?_
  refine va_get (D := D) (ci := 5) (C := RX7) (T := TX7) (N := 15) hx hb hts hinX7 hown hK hP 0 rfl rfl 0 (by decide) (hts (.fieldLink RX7 7 "NearRanksModel" "s" "[J") (by decide +kernel)) (fun _ h9 => h9) rfl dX7_insert_5 ?_
  refine lv_iconst (v := nI 0) hx hb dX7_insert_8 (by decide) ?_
  refine wv_lald hx hb hK hP 1 0 rfl rfl (k := 0) (by omega) (by decide) dX7_insert_9 ?_
  refine wv_tl (y := lN n) sM_0 ?_
  refine wv_callSi (As := [.long (lN k), .long (lN 0), .long (lN n)]) (rest := [.ref mo]) ⟨hx, hb, hml, hown, hts⟩ (kX7_in l D (lN k) (lN 0) (lN n)) (va_cwS 3 hts gX7_insert_X7_in rfl rfl rfl (by decide +kernel) ⟨Nat.le_of_ble_eq_true rfl, Nat.le_of_ble_eq_true rfl⟩) hK hN hP hS hA [] [] rfl rfl rfl hl.1 rfl (Nat.le_of_ble_eq_true rfl) dX7_insert_10 ⟨Nat.zero_le _, Nat.zero_le _⟩ (fun H locs hz9 hP hS => ?_)
  refine wv_ti (y := bI true) (by rw [wk_in_t (by omega) hk (by omega)]) ?_
  refine wv_ifneB (tgt := 20) hx hb dX7_insert_13 (by decide) (fun _ => ?_) (fun h => by cases h)
  refine lv_aload_n hx hb dX7_insert_20 rfl (lv_at hl 0 rfl) ?_
  refine va_get (D := D) (ci := 5) (C := RX7) (T := TX7) (N := 15) hx hb hts hinX7 hown hK hP 0 rfl rfl 0 (by decide) (hts (.fieldLink RX7 7 "NearRanksModel" "s" "[J") (by decide +kernel)) (fun _ h9 => h9) rfl dX7_insert_21 ?_
  refine lv_iconst (v := nI 0) hx hb dX7_insert_24 (by decide) ?_
  refine wv_lald hx hb hK hP 1 0 rfl rfl (k := 0) (by omega) (by decide) dX7_insert_25 ?_
  refine wv_tl (y := lN n) sM_0 ?_
  refine lv_ldc2 (v := lN 32) hx hb hown (hts (.constantLong RX7 74 (32)) (by decide +kernel)) dX7_insert_26 ?_
  refine wv_lcN_ne (tgt := 37) hx hb (by omega) (by omega) dX7_insert_29 dX7_insert_30 (by decide) (fun c30 => by exfalso; exact c30 hn) (fun c30 => ?_)
  refine lv_iconst (v := nI 2) hx hb dX7_insert_33 (by decide) ?_
  refine lv_goto (tgt := 38) hx hb dX7_insert_34 (by decide) ?_
  refine wv_callMi (As := [.int (nI 2)]) (rest := []) (wr := []) (ws1 := ModC mo sa pa ha ta cJ cI (sM n b fl me st lk cm v nu) pt hd tx ps ru ty 2 lks lo1 hi1 sp cd pl gv) ⟨hx, hb, hml, hown, hts⟩ (kX7_throwsAt l D mo sa pa ha ta cJ cI n b fl me st lk cm v nu pt hd tx ps ru ty rf lks lo1 hi1 sp cd pl gv 2 (by first | assumption | omega)) (cwV 1 hts gX7_insert_X7_throwsAt rfl rfl rfl (by decide +kernel) ⟨Nat.le_of_ble_eq_true rfl, Nat.le_of_ble_eq_true rfl⟩) hK hN hP hD hS hA [0, 1, 2, 3, 4] [] [0, 1] [0, 1, 2, 3, 4] rfl rfl (by decide) rfl (by decide) (by decide) rfl (by decide) rfl 0 5 rfl rfl rfl rfl hl.1 rfl (Nat.le_of_ble_eq_true rfl) dX7_insert_38 ⟨Nat.zero_le _, Nat.zero_le _⟩ (fun H locs hz9 hP hD hS => ?_)
  refine wv_ti (y := bI true) (by decide) ?_
  refine wv_ifeqB (tgt := 46) hx hb dX7_insert_41 (by decide) (fun h => by cases h) (fun _ => ?_)
  refine lv_iconst (v := nI 0) hx hb dX7_insert_44 (by decide) ?_
  exact wv_iretM hx hb hr hlocks hP hD hS rfl rfl dX7_insert_45

set_option maxHeartbeats 4000000 in
set_option maxRecDepth 100000 in
theorem kX7_insert (l : Launch) (D : va_G) (mo : Nat) (sa : Nat) (pa : Nat) (ha : Nat) (ta : Nat) (cJ : ClassId) (cI : ClassId) (n : Nat) (b : Nat) (fl : Bool) (me : Bool) (st : Int64) (lk : Int64) (cm : Int64) (v : Nat → Int64) (nu : Nat → Int64) (pt : Nat → Int64) (hd : Nat → Int64) (tx : Nat → Int32) (ps : Nat) (ru : Bool) (ty : Nat) (rf : Nat) (lks : Nat) (lo1 : Int32) (hi1 : Int32) (sp : Nat) (cd : Int32) (pl : Int32) (gv : Int64) (k : Nat) (x : Int64) (hn : n < 32) (hk : k ≤ n) (hb : b ≤ 31) (hps : ps ≤ 4) : MMi l yX7_insert wsX7_insert ({ frames := 7, cells := 0, slots := 0, locals := 156 } : Room) [.ref mo, .int (nI k), .long x] D (ModC mo sa pa ha ta cJ cI (sM n b fl me st lk cm v nu) pt hd tx ps ru ty rf lks lo1 hi1 sp cd pl gv) [(cJ, .long), (cI, .int)] ((cm + (lN 1)).toInt32 - (nI 1)) (ModC mo sa pa ha ta cJ cI (sM (n + 1) b fl me (st + (lN (eL me fl (n + 1) b (insA v n k x)).length)) lk (cm + (lN 1)) (sws (insA v n k x) (eL me fl (n + 1) b (insA v n k x))) (sws (insA nu n k cm) (eL me fl (n + 1) b (insA v n k x)))) (svP ru pt ps (sM n b fl me st lk cm v nu)) hd tx (svN ru ps) ru ty 0 lks lo1 hi1 sp cd pl gv) := by
  refine MMi_of (cc := cX7_insert) (maxL := 4) (ret := some .int) (by decide +kernel) rfl (Nat.le_of_ble_eq_true rfl) ?_
  intro p e s m args below meth c hx hb hr hts hown hlocks hml hP hK hN hD ls hl
  have hown : s.vm.findClass RX7 = some m.cls := hown
  have hl : lv_has ls 4 [(0, .ref mo), (1, .int (nI k)), (2, .long x)] := hl
  have hS : va_S (va_A (ModC mo sa pa ha ta cJ cI (sM n b fl me st lk cm v nu) pt hd tx ps ru ty rf lks lo1 hi1 sp cd pl gv) s.heap.size) s.heap s.heap [] := va_S.rf
  have hA := wk_hA (ModC mo sa pa ha ta cJ cI (sM n b fl me st lk cm v nu) pt hd tx ps ru ty rf lks lo1 hi1 sp cd pl gv) s.heap.size
  have hD9 : True := trivial
  have hinX7 : ∀ w ∈ wsX70, w ∈ wsX7_insert := by decide +kernel
  refine lv_aload_n hx hb dX7_insert_0 rfl (lv_at hl 0 rfl) ?_
  refine lv_iload_n hx hb dX7_insert_1 rfl (lv_at hl 1 rfl) ?_
  refine lv_i2l (v := lN k) hx hb dX7_insert_2 (nI_l (by omega)) ?_
  refine lv_lconst (v := lN 0) hx hb dX7_insert_3 rfl ?_
  refine lv_aload_n hx hb dX7_insert_4 rfl (lv_at hl 0 rfl) ?_
  refine va_get (D := D) (ci := 5) (C := RX7) (T := TX7) (N := 15) hx hb hts hinX7 hown hK hP 0 rfl rfl 0 (by decide) (hts (.fieldLink RX7 7 "NearRanksModel" "s" "[J") (by decide +kernel)) (fun _ h9 => h9) rfl dX7_insert_5 ?_
  refine lv_iconst (v := nI 0) hx hb dX7_insert_8 (by decide) ?_
  refine wv_lald hx hb hK hP 1 0 rfl rfl (k := 0) (by omega) (by decide) dX7_insert_9 ?_
  refine wv_tl (y := lN n) sM_0 ?_
  refine wv_callSi (As := [.long (lN k), .long (lN 0), .long (lN n)]) (rest := [.ref mo]) ⟨hx, hb, hml, hown, hts⟩ (kX7_in l D (lN k) (lN 0) (lN n)) (va_cwS 3 hts gX7_insert_X7_in rfl rfl rfl (by decide +kernel) ⟨Nat.le_of_ble_eq_true rfl, Nat.le_of_ble_eq_true rfl⟩) hK hN hP hS hA [] [] rfl rfl rfl hl.1 rfl (Nat.le_of_ble_eq_true rfl) dX7_insert_10 ⟨Nat.zero_le _, Nat.zero_le _⟩ (fun H locs hz9 hP hS => ?_)
  refine wv_ti (y := bI true) (by rw [wk_in_t (by omega) hk (by omega)]) ?_
  refine wv_ifneB (tgt := 20) hx hb dX7_insert_13 (by decide) (fun _ => ?_) (fun h => by cases h)
  refine lv_aload_n hx hb dX7_insert_20 rfl (lv_at hl 0 rfl) ?_
  refine va_get (D := D) (ci := 5) (C := RX7) (T := TX7) (N := 15) hx hb hts hinX7 hown hK hP 0 rfl rfl 0 (by decide) (hts (.fieldLink RX7 7 "NearRanksModel" "s" "[J") (by decide +kernel)) (fun _ h9 => h9) rfl dX7_insert_21 ?_
  refine lv_iconst (v := nI 0) hx hb dX7_insert_24 (by decide) ?_
  refine wv_lald hx hb hK hP 1 0 rfl rfl (k := 0) (by omega) (by decide) dX7_insert_25 ?_
  refine wv_tl (y := lN n) sM_0 ?_
  refine lv_ldc2 (v := lN 32) hx hb hown (hts (.constantLong RX7 74 (32)) (by decide +kernel)) dX7_insert_26 ?_
  refine wv_lcN_ne (tgt := 37) hx hb (by omega) (by omega) dX7_insert_29 dX7_insert_30 (by decide) (fun c30 => ?_) (fun c30 => by exfalso; omega)
  refine lv_iconst (v := nI 0) hx hb dX7_insert_37 (by decide) ?_
  refine wv_callMi (As := [.int (nI 0)]) (rest := []) (wr := []) (ws1 := ModC mo sa pa ha ta cJ cI (sM n b fl me st lk cm v nu) pt hd tx ps ru ty 0 lks lo1 hi1 sp cd pl gv) ⟨hx, hb, hml, hown, hts⟩ (kX7_throwsAt l D mo sa pa ha ta cJ cI n b fl me st lk cm v nu pt hd tx ps ru ty rf lks lo1 hi1 sp cd pl gv 0 (by first | assumption | omega)) (cwV 1 hts gX7_insert_X7_throwsAt rfl rfl rfl (by decide +kernel) ⟨Nat.le_of_ble_eq_true rfl, Nat.le_of_ble_eq_true rfl⟩) hK hN hP hD hS hA [0, 1, 2, 3, 4] [] [0, 1] [0, 1, 2, 3, 4] rfl rfl (by decide) rfl (by decide) (by decide) rfl (by decide) rfl 0 5 rfl rfl rfl rfl hl.1 rfl (Nat.le_of_ble_eq_true rfl) dX7_insert_38 ⟨Nat.zero_le _, Nat.zero_le _⟩ (fun H locs hz9 hP hD hS => ?_)
  refine wv_ti (y := bI false) (by decide) ?_
  refine wv_ifeqB (tgt := 46) hx hb dX7_insert_41 (by decide) (fun _ => ?_) (fun h => by cases h)
  refine lv_aload_n hx hb dX7_insert_46 rfl (lv_at hl 0 rfl) ?_
  refine wv_callMv (As := []) (rest := []) (wr := []) (ws1 := ModC mo sa pa ha ta cJ cI (sM n b fl me st lk cm v nu) (svP ru pt ps (sM n b fl me st lk cm v nu)) hd tx (svN ru ps) ru ty 0 lks lo1 hi1 sp cd pl gv) ⟨hx, hb, hml, hown, hts⟩ (kX7_saves l D mo sa pa ha ta cJ cI n b fl me st lk cm v nu pt hd tx ps ru ty 0 lks lo1 hi1 sp cd pl gv (by first | assumption | omega)) (cwV 0 hts gX7_insert_X7_saves rfl rfl rfl (by decide +kernel) ⟨Nat.le_of_ble_eq_true rfl, Nat.le_of_ble_eq_true rfl⟩) hK hN hP hD hS hA [0, 1, 2, 3, 4] [] [0, 1] [0, 1, 2, 3, 4] rfl rfl (by decide) rfl (by decide) (by decide) rfl (by decide) rfl 0 5 rfl rfl rfl rfl hl.1 rfl (Nat.le_of_ble_eq_true rfl) dX7_insert_47 ⟨Nat.zero_le _, Nat.zero_le _⟩ (fun H locs hz9 hP hD hS => ?_)
  refine lv_aload_n hx hb dX7_insert_50 rfl (lv_at hl 0 rfl) ?_
  refine lv_iload_n hx hb dX7_insert_51 rfl (lv_at hl 1 rfl) ?_
  refine lv_lload_n hx hb dX7_insert_52 rfl (lv_at hl 2 rfl) ?_
  refine wv_callMv (As := [.int (nI k), .long x]) (rest := []) (wr := []) (ws1 := ModC mo sa pa ha ta cJ cI (sM (n + 1) b fl me st lk (cm + (lN 1)) (insA v n k x) (insA nu n k cm)) (svP ru pt ps (sM n b fl me st lk cm v nu)) hd tx (svN ru ps) ru ty 0 lks lo1 hi1 sp cd pl gv) ⟨hx, hb, hml, hown, hts⟩ (kX7_puts l D mo sa pa ha ta cJ cI n b fl me st lk cm v nu (svP ru pt ps (sM n b fl me st lk cm v nu)) hd tx (svN ru ps) ru ty 0 lks lo1 hi1 sp cd pl gv k x (by first | assumption | omega) (by first | assumption | omega)) (cwV 2 hts gX7_insert_X7_puts rfl rfl rfl (by decide +kernel) ⟨Nat.le_of_ble_eq_true rfl, Nat.le_of_ble_eq_true rfl⟩) hK hN hP hD hS hA [0, 1, 2, 3, 4] [] [0, 1] [0, 1, 2, 3, 4] rfl rfl (by decide) rfl (by decide) (by decide) rfl (by decide) rfl 0 5 rfl rfl rfl rfl hl.1 rfl (Nat.le_of_ble_eq_true rfl) dX7_insert_53 ⟨Nat.zero_le _, Nat.zero_le _⟩ (fun H locs hz9 hP hD hS => ?_)
  refine lv_aload_n hx hb dX7_insert_56 rfl (lv_at hl 0 rfl) ?_
  refine lv_aload_n hx hb dX7_insert_57 rfl (lv_at hl 0 rfl) ?_
  refine lv_bipush (v := nI 6) hx hb dX7_insert_58 (by decide) ?_
  refine wv_callPi (As := [.int (nI 6)]) (rest := [.ref mo]) ⟨hx, hb, hml, hown, hts⟩ (kX7_of l D mo sa pa ha ta cJ cI (n + 1) b fl me st lk (cm + (lN 1)) (insA v n k x) (insA nu n k cm) (svP ru pt ps (sM n b fl me st lk cm v nu)) hd tx (svN ru ps) ru ty 0 lks lo1 hi1 sp cd pl gv 6 (by first | assumption | omega)) (cwV 1 hts gX7_insert_X7_of rfl rfl rfl (by decide +kernel) ⟨Nat.le_of_ble_eq_true rfl, Nat.le_of_ble_eq_true rfl⟩) hK hN hP hS hA [0, 1, 2, 3, 4] [0, 1] rfl rfl 0 5 rfl rfl rfl rfl hl.1 rfl (Nat.le_of_ble_eq_true rfl) dX7_insert_60 ⟨Nat.zero_le _, Nat.zero_le _⟩ (fun H locs hz9 hP hS => ?_)
  refine wv_ti (y := (cm + (lN 1)).toInt32) of_6 ?_
  refine lv_iconst (v := nI 1) hx hb dX7_insert_63 (by decide) ?_
  refine lv_isub hx hb dX7_insert_64 ?_
  refine wv_callMi (As := [.int (((cm + (lN 1)).toInt32) - (nI 1))]) (rest := []) (wr := []) (ws1 := ModC mo sa pa ha ta cJ cI (sM (n + 1) b fl me (st + (lN (eL me fl (n + 1) b (insA v n k x)).length)) lk (cm + (lN 1)) (sws (insA v n k x) (eL me fl (n + 1) b (insA v n k x))) (sws (insA nu n k cm) (eL me fl (n + 1) b (insA v n k x)))) (svP ru pt ps (sM n b fl me st lk cm v nu)) hd tx (svN ru ps) ru ty 0 lks lo1 hi1 sp cd pl gv) ⟨hx, hb, hml, hown, hts⟩ (kX7_ends l D mo sa pa ha ta cJ cI (n + 1) b fl me st lk (cm + (lN 1)) (insA v n k x) (insA nu n k cm) (svP ru pt ps (sM n b fl me st lk cm v nu)) hd tx (svN ru ps) ru ty 0 lks lo1 hi1 sp cd pl gv (((cm + (lN 1)).toInt32) - (nI 1)) (by first | assumption | omega) (by first | assumption | omega)) (cwV 1 hts gX7_insert_X7_ends rfl rfl rfl (by decide +kernel) ⟨Nat.le_of_ble_eq_true rfl, Nat.le_of_ble_eq_true rfl⟩) hK hN hP hD hS hA [0, 1, 2, 3, 4] [] [0, 1] [0, 1, 2, 3, 4] rfl rfl (by decide) rfl (by decide) (by decide) rfl (by decide) rfl 0 5 rfl rfl rfl rfl hl.1 rfl (Nat.le_of_ble_eq_true rfl) dX7_insert_65 ⟨Nat.zero_le _, Nat.zero_le _⟩ (fun H locs hz9 hP hD hS => ?_)
  exact wv_iretM hx hb hr hlocks hP hD hS (by first | rfl | (simp [bI, *]; done) | (simp_all [bI]; done)) rfl dX7_insert_68

set_option maxHeartbeats 4000000 in
set_option maxRecDepth 100000 in
theorem kX7_removeAt_bad (l : Launch) (D : va_G) (mo : Nat) (sa : Nat) (pa : Nat) (ha : Nat) (ta : Nat) (cJ : ClassId) (cI : ClassId) (n : Nat) (b : Nat) (fl : Bool) (me : Bool) (st : Int64) (lk : Int64) (cm : Int64) (v : Nat → Int64) (nu : Nat → Int64) (pt : Nat → Int64) (hd : Nat → Int64) (tx : Nat → Int32) (ps : Nat) (ru : Bool) (ty : Nat) (rf : Nat) (lks : Nat) (lo1 : Int32) (hi1 : Int32) (sp : Nat) (cd : Int32) (pl : Int32) (gv : Int64) (z : Int32) (hn : n ≤ 32) (hz : inR z n = false) : MMi l yX7_removeAt wsX7_removeAt ({ frames := 1, cells := 0, slots := 0, locals := 21 } : Room) [.ref mo, .int z] D (ModC mo sa pa ha ta cJ cI (sM n b fl me st lk cm v nu) pt hd tx ps ru ty rf lks lo1 hi1 sp cd pl gv) [(cJ, .long), (cI, .int)] (nI 0) (ModC mo sa pa ha ta cJ cI (sM n b fl me st lk cm v nu) pt hd tx ps ru ty 1 lks lo1 hi1 sp cd pl gv) := by
  refine MMi_of (cc := cX7_removeAt) (maxL := 3) (ret := some .int) (by decide +kernel) rfl (Nat.le_of_ble_eq_true rfl) ?_
  intro p e s m args below meth c hx hb hr hts hown hlocks hml hP hK hN hD ls hl
  have hown : s.vm.findClass RX7 = some m.cls := hown
  have hl : lv_has ls 3 [(0, .ref mo), (1, .int z)] := hl
  have hS : va_S (va_A (ModC mo sa pa ha ta cJ cI (sM n b fl me st lk cm v nu) pt hd tx ps ru ty rf lks lo1 hi1 sp cd pl gv) s.heap.size) s.heap s.heap [] := va_S.rf
  have hA := wk_hA (ModC mo sa pa ha ta cJ cI (sM n b fl me st lk cm v nu) pt hd tx ps ru ty rf lks lo1 hi1 sp cd pl gv) s.heap.size
  have hD9 : True := trivial
  refine lv_aload_n hx hb dX7_removeAt_0 rfl (lv_at hl 0 rfl) ?_
  refine lv_aload_n hx hb dX7_removeAt_1 rfl (lv_at hl 0 rfl) ?_
  refine lv_iload_n hx hb dX7_removeAt_2 rfl (lv_at hl 1 rfl) ?_
  refine wv_callPi (As := [.int z]) (rest := [.ref mo]) ⟨hx, hb, hml, hown, hts⟩ (kX7_isPlace l D mo sa pa ha ta cJ cI n b fl me st lk cm v nu pt hd tx ps ru ty rf lks lo1 hi1 sp cd pl gv z (by first | assumption | omega)) (cwV 1 hts gX7_removeAt_X7_isPlace rfl rfl rfl (by decide +kernel) ⟨Nat.le_of_ble_eq_true rfl, Nat.le_of_ble_eq_true rfl⟩) hK hN hP hS hA [0, 1, 2, 3, 4] [0, 1] rfl rfl 0 5 rfl rfl rfl rfl hl.1 rfl (Nat.le_of_ble_eq_true rfl) dX7_removeAt_3 ⟨Nat.zero_le _, Nat.zero_le _⟩ (fun H locs hz9 hP hS => ?_)
  refine wv_ti (y := bI false) (by rw [hz]) ?_
  refine wv_ifeqB (tgt := 13) hx hb dX7_removeAt_6 (by decide) (fun _ => ?_) (fun h => by cases h)
  refine lv_iconst (v := nI 1) hx hb dX7_removeAt_13 (by decide) ?_
  refine wv_callMi (As := [.int (nI 1)]) (rest := []) (wr := []) (ws1 := ModC mo sa pa ha ta cJ cI (sM n b fl me st lk cm v nu) pt hd tx ps ru ty 1 lks lo1 hi1 sp cd pl gv) ⟨hx, hb, hml, hown, hts⟩ (kX7_throwsAt l D mo sa pa ha ta cJ cI n b fl me st lk cm v nu pt hd tx ps ru ty rf lks lo1 hi1 sp cd pl gv 1 (by first | assumption | omega)) (cwV 1 hts gX7_removeAt_X7_throwsAt rfl rfl rfl (by decide +kernel) ⟨Nat.le_of_ble_eq_true rfl, Nat.le_of_ble_eq_true rfl⟩) hK hN hP hD hS hA [0, 1, 2, 3, 4] [] [0, 1] [0, 1, 2, 3, 4] rfl rfl (by decide) rfl (by decide) (by decide) rfl (by decide) rfl 0 5 rfl rfl rfl rfl hl.1 rfl (Nat.le_of_ble_eq_true rfl) dX7_removeAt_14 ⟨Nat.zero_le _, Nat.zero_le _⟩ (fun H locs hz9 hP hD hS => ?_)
  refine wv_ti (y := bI true) (by decide) ?_
  refine wv_ifeqB (tgt := 22) hx hb dX7_removeAt_17 (by decide) (fun h => by cases h) (fun _ => ?_)
  refine lv_iconst (v := nI 0) hx hb dX7_removeAt_20 (by decide) ?_
  exact wv_iretM hx hb hr hlocks hP hD hS rfl rfl dX7_removeAt_21

set_option maxHeartbeats 4000000 in
set_option maxRecDepth 100000 in
theorem kX7_removeAt (l : Launch) (D : va_G) (mo : Nat) (sa : Nat) (pa : Nat) (ha : Nat) (ta : Nat) (cJ : ClassId) (cI : ClassId) (n : Nat) (b : Nat) (fl : Bool) (me : Bool) (st : Int64) (lk : Int64) (cm : Int64) (v : Nat → Int64) (nu : Nat → Int64) (pt : Nat → Int64) (hd : Nat → Int64) (tx : Nat → Int32) (ps : Nat) (ru : Bool) (ty : Nat) (rf : Nat) (lks : Nat) (lo1 : Int32) (hi1 : Int32) (sp : Nat) (cd : Int32) (pl : Int32) (gv : Int64) (k : Nat) (hn : n ≤ 32) (hk : k < n) (hb : b ≤ 31) (hps : ps ≤ 4) : MMi l yX7_removeAt wsX7_removeAt ({ frames := 7, cells := 0, slots := 0, locals := 156 } : Room) [.ref mo, .int (nI k)] D (ModC mo sa pa ha ta cJ cI (sM n b fl me st lk cm v nu) pt hd tx ps ru ty rf lks lo1 hi1 sp cd pl gv) [(cJ, .long), (cI, .int)] ((nu k).toInt32) (ModC mo sa pa ha ta cJ cI (sM (n - 1) b fl me (st + (lN (eL me fl (n - 1) b (cla v k (n - 1))).length)) lk cm (sws (cla v k (n - 1)) (eL me fl (n - 1) b (cla v k (n - 1)))) (sws (cla nu k (n - 1)) (eL me fl (n - 1) b (cla v k (n - 1))))) (svP ru pt ps (sM n b fl me st lk cm v nu)) hd tx (svN ru ps) ru ty 0 lks lo1 hi1 sp cd pl gv) := by
  refine MMi_of (cc := cX7_removeAt) (maxL := 3) (ret := some .int) (by decide +kernel) rfl (Nat.le_of_ble_eq_true rfl) ?_
  intro p e s m args below meth c hx hb hr hts hown hlocks hml hP hK hN hD ls hl
  have hown : s.vm.findClass RX7 = some m.cls := hown
  have hl : lv_has ls 3 [(0, .ref mo), (1, .int (nI k))] := hl
  have hS : va_S (va_A (ModC mo sa pa ha ta cJ cI (sM n b fl me st lk cm v nu) pt hd tx ps ru ty rf lks lo1 hi1 sp cd pl gv) s.heap.size) s.heap s.heap [] := va_S.rf
  have hA := wk_hA (ModC mo sa pa ha ta cJ cI (sM n b fl me st lk cm v nu) pt hd tx ps ru ty rf lks lo1 hi1 sp cd pl gv) s.heap.size
  have hD9 : True := trivial
  refine lv_aload_n hx hb dX7_removeAt_0 rfl (lv_at hl 0 rfl) ?_
  refine lv_aload_n hx hb dX7_removeAt_1 rfl (lv_at hl 0 rfl) ?_
  refine lv_iload_n hx hb dX7_removeAt_2 rfl (lv_at hl 1 rfl) ?_
  refine wv_callPi (As := [.int (nI k)]) (rest := [.ref mo]) ⟨hx, hb, hml, hown, hts⟩ (kX7_isPlace l D mo sa pa ha ta cJ cI n b fl me st lk cm v nu pt hd tx ps ru ty rf lks lo1 hi1 sp cd pl gv (nI k) (by first | assumption | omega)) (cwV 1 hts gX7_removeAt_X7_isPlace rfl rfl rfl (by decide +kernel) ⟨Nat.le_of_ble_eq_true rfl, Nat.le_of_ble_eq_true rfl⟩) hK hN hP hS hA [0, 1, 2, 3, 4] [0, 1] rfl rfl 0 5 rfl rfl rfl rfl hl.1 rfl (Nat.le_of_ble_eq_true rfl) dX7_removeAt_3 ⟨Nat.zero_le _, Nat.zero_le _⟩ (fun H locs hz9 hP hS => ?_)
  refine wv_ti (y := bI true) (by rw [inR_t hk (by omega)]) ?_
  refine wv_ifeqB (tgt := 13) hx hb dX7_removeAt_6 (by decide) (fun h => by cases h) (fun _ => ?_)
  refine lv_iconst (v := nI 0) hx hb dX7_removeAt_9 (by decide) ?_
  refine lv_goto (tgt := 14) hx hb dX7_removeAt_10 (by decide) ?_
  refine wv_callMi (As := [.int (nI 0)]) (rest := []) (wr := []) (ws1 := ModC mo sa pa ha ta cJ cI (sM n b fl me st lk cm v nu) pt hd tx ps ru ty 0 lks lo1 hi1 sp cd pl gv) ⟨hx, hb, hml, hown, hts⟩ (kX7_throwsAt l D mo sa pa ha ta cJ cI n b fl me st lk cm v nu pt hd tx ps ru ty rf lks lo1 hi1 sp cd pl gv 0 (by first | assumption | omega)) (cwV 1 hts gX7_removeAt_X7_throwsAt rfl rfl rfl (by decide +kernel) ⟨Nat.le_of_ble_eq_true rfl, Nat.le_of_ble_eq_true rfl⟩) hK hN hP hD hS hA [0, 1, 2, 3, 4] [] [0, 1] [0, 1, 2, 3, 4] rfl rfl (by decide) rfl (by decide) (by decide) rfl (by decide) rfl 0 5 rfl rfl rfl rfl hl.1 rfl (Nat.le_of_ble_eq_true rfl) dX7_removeAt_14 ⟨Nat.zero_le _, Nat.zero_le _⟩ (fun H locs hz9 hP hD hS => ?_)
  refine wv_ti (y := bI false) (by decide) ?_
  refine wv_ifeqB (tgt := 22) hx hb dX7_removeAt_17 (by decide) (fun _ => ?_) (fun h => by cases h)
  refine lv_aload_n hx hb dX7_removeAt_22 rfl (lv_at hl 0 rfl) ?_
  refine wv_callMv (As := []) (rest := []) (wr := []) (ws1 := ModC mo sa pa ha ta cJ cI (sM n b fl me st lk cm v nu) (svP ru pt ps (sM n b fl me st lk cm v nu)) hd tx (svN ru ps) ru ty 0 lks lo1 hi1 sp cd pl gv) ⟨hx, hb, hml, hown, hts⟩ (kX7_saves l D mo sa pa ha ta cJ cI n b fl me st lk cm v nu pt hd tx ps ru ty 0 lks lo1 hi1 sp cd pl gv (by first | assumption | omega)) (cwV 0 hts gX7_removeAt_X7_saves rfl rfl rfl (by decide +kernel) ⟨Nat.le_of_ble_eq_true rfl, Nat.le_of_ble_eq_true rfl⟩) hK hN hP hD hS hA [0, 1, 2, 3, 4] [] [0, 1] [0, 1, 2, 3, 4] rfl rfl (by decide) rfl (by decide) (by decide) rfl (by decide) rfl 0 5 rfl rfl rfl rfl hl.1 rfl (Nat.le_of_ble_eq_true rfl) dX7_removeAt_23 ⟨Nat.zero_le _, Nat.zero_le _⟩ (fun H locs hz9 hP hD hS => ?_)
  refine lv_aload_n hx hb dX7_removeAt_26 rfl (lv_at hl 0 rfl) ?_
  refine lv_bipush (v := nI 39) hx hb dX7_removeAt_27 (by decide) ?_
  refine lv_iload_n hx hb dX7_removeAt_29 rfl (lv_at hl 1 rfl) ?_
  refine lv_iadd hx hb dX7_removeAt_30 ?_
  refine wv_ti (nI_add _ _) ?_
  refine wv_callPi (As := [.int (nI (39 + k))]) (rest := []) ⟨hx, hb, hml, hown, hts⟩ (kX7_of l D mo sa pa ha ta cJ cI n b fl me st lk cm v nu (svP ru pt ps (sM n b fl me st lk cm v nu)) hd tx (svN ru ps) ru ty 0 lks lo1 hi1 sp cd pl gv (39 + k) (by first | assumption | omega)) (cwV 1 hts gX7_removeAt_X7_of rfl rfl rfl (by decide +kernel) ⟨Nat.le_of_ble_eq_true rfl, Nat.le_of_ble_eq_true rfl⟩) hK hN hP hS hA [0, 1, 2, 3, 4] [0, 1] rfl rfl 0 5 rfl rfl rfl rfl hl.1 rfl (Nat.le_of_ble_eq_true rfl) dX7_removeAt_31 ⟨Nat.zero_le _, Nat.zero_le _⟩ (fun H locs hz9 hP hS => ?_)
  refine wv_ti (y := (nu k).toInt32) (of_n (by omega) (by omega)) ?_
  refine lv_istore_n (lv' := [(2, .int ((nu k).toInt32)), (0, .ref mo), (1, .int (nI k))]) hx hb dX7_removeAt_34 rfl hl (by decide) rfl (fun ls hl => ?_)
  refine lv_aload_n hx hb dX7_removeAt_35 rfl (lv_at hl 1 rfl) ?_
  refine lv_iload_n hx hb dX7_removeAt_36 rfl (lv_at hl 2 rfl) ?_
  refine wv_callMv (As := [.int (nI k)]) (rest := []) (wr := []) (ws1 := ModC mo sa pa ha ta cJ cI (sM (n - 1) b fl me st lk cm (cla v k (n - 1)) (cla nu k (n - 1))) (svP ru pt ps (sM n b fl me st lk cm v nu)) hd tx (svN ru ps) ru ty 0 lks lo1 hi1 sp cd pl gv) ⟨hx, hb, hml, hown, hts⟩ (kX7_takes l D mo sa pa ha ta cJ cI n b fl me st lk cm v nu (svP ru pt ps (sM n b fl me st lk cm v nu)) hd tx (svN ru ps) ru ty 0 lks lo1 hi1 sp cd pl gv k (by first | assumption | omega) (by first | assumption | omega)) (cwV 1 hts gX7_removeAt_X7_takes rfl rfl rfl (by decide +kernel) ⟨Nat.le_of_ble_eq_true rfl, Nat.le_of_ble_eq_true rfl⟩) hK hN hP hD hS hA [0, 1, 2, 3, 4] [] [0, 1] [0, 1, 2, 3, 4] rfl rfl (by decide) rfl (by decide) (by decide) rfl (by decide) rfl 0 5 rfl rfl rfl rfl hl.1 rfl (Nat.le_of_ble_eq_true rfl) dX7_removeAt_37 ⟨Nat.zero_le _, Nat.zero_le _⟩ (fun H locs hz9 hP hD hS => ?_)
  refine lv_aload_n hx hb dX7_removeAt_40 rfl (lv_at hl 1 rfl) ?_
  refine lv_iload_n hx hb dX7_removeAt_41 rfl (lv_at hl 0 rfl) ?_
  refine wv_callMi (As := [.int ((nu k).toInt32)]) (rest := []) (wr := []) (ws1 := ModC mo sa pa ha ta cJ cI (sM (n - 1) b fl me (st + (lN (eL me fl (n - 1) b (cla v k (n - 1))).length)) lk cm (sws (cla v k (n - 1)) (eL me fl (n - 1) b (cla v k (n - 1)))) (sws (cla nu k (n - 1)) (eL me fl (n - 1) b (cla v k (n - 1))))) (svP ru pt ps (sM n b fl me st lk cm v nu)) hd tx (svN ru ps) ru ty 0 lks lo1 hi1 sp cd pl gv) ⟨hx, hb, hml, hown, hts⟩ (kX7_ends l D mo sa pa ha ta cJ cI (n - 1) b fl me st lk cm (cla v k (n - 1)) (cla nu k (n - 1)) (svP ru pt ps (sM n b fl me st lk cm v nu)) hd tx (svN ru ps) ru ty 0 lks lo1 hi1 sp cd pl gv ((nu k).toInt32) (by first | assumption | omega) (by first | assumption | omega)) (cwV 1 hts gX7_removeAt_X7_ends rfl rfl rfl (by decide +kernel) ⟨Nat.le_of_ble_eq_true rfl, Nat.le_of_ble_eq_true rfl⟩) hK hN hP hD hS hA [0, 1, 2, 3, 4] [] [0, 1] [0, 1, 2, 3, 4] rfl rfl (by decide) rfl (by decide) (by decide) rfl (by decide) rfl 0 5 rfl rfl rfl rfl hl.1 rfl (Nat.le_of_ble_eq_true rfl) dX7_removeAt_42 ⟨Nat.zero_le _, Nat.zero_le _⟩ (fun H locs hz9 hP hD hS => ?_)
  exact wv_iretM hx hb hr hlocks hP hD hS rfl rfl dX7_removeAt_45

set_option maxHeartbeats 4000000 in
set_option maxRecDepth 100000 in
theorem kX7_setValue_bad (l : Launch) (D : va_G) (mo : Nat) (sa : Nat) (pa : Nat) (ha : Nat) (ta : Nat) (cJ : ClassId) (cI : ClassId) (n : Nat) (b : Nat) (fl : Bool) (me : Bool) (st : Int64) (lk : Int64) (cm : Int64) (v : Nat → Int64) (nu : Nat → Int64) (pt : Nat → Int64) (hd : Nat → Int64) (tx : Nat → Int32) (ps : Nat) (ru : Bool) (ty : Nat) (rf : Nat) (lks : Nat) (lo1 : Int32) (hi1 : Int32) (sp : Nat) (cd : Int32) (pl : Int32) (gv : Int64) (z : Int32) (x : Int64) (hn : n ≤ 32) (hz : inR z n = false) : MMl l yX7_setValue wsX7_setValue ({ frames := 1, cells := 0, slots := 0, locals := 21 } : Room) [.ref mo, .int z, .long x] D (ModC mo sa pa ha ta cJ cI (sM n b fl me st lk cm v nu) pt hd tx ps ru ty rf lks lo1 hi1 sp cd pl gv) [(cJ, .long), (cI, .int)] (lN 0) (ModC mo sa pa ha ta cJ cI (sM n b fl me st lk cm v nu) pt hd tx ps ru ty 1 lks lo1 hi1 sp cd pl gv) := by
  refine MMl_of (cc := cX7_setValue) (maxL := 6) (ret := some .long) (by decide +kernel) rfl (Nat.le_of_ble_eq_true rfl) ?_
  intro p e s m args below meth c hx hb hr hts hown hlocks hml hP hK hN hD ls hl
  have hown : s.vm.findClass RX7 = some m.cls := hown
  have hl : lv_has ls 6 [(0, .ref mo), (1, .int z), (2, .long x)] := hl
  have hS : va_S (va_A (ModC mo sa pa ha ta cJ cI (sM n b fl me st lk cm v nu) pt hd tx ps ru ty rf lks lo1 hi1 sp cd pl gv) s.heap.size) s.heap s.heap [] := va_S.rf
  have hA := wk_hA (ModC mo sa pa ha ta cJ cI (sM n b fl me st lk cm v nu) pt hd tx ps ru ty rf lks lo1 hi1 sp cd pl gv) s.heap.size
  have hD9 : True := trivial
  refine lv_aload_n hx hb dX7_setValue_0 rfl (lv_at hl 0 rfl) ?_
  refine lv_aload_n hx hb dX7_setValue_1 rfl (lv_at hl 0 rfl) ?_
  refine lv_iload_n hx hb dX7_setValue_2 rfl (lv_at hl 1 rfl) ?_
  refine wv_callPi (As := [.int z]) (rest := [.ref mo]) ⟨hx, hb, hml, hown, hts⟩ (kX7_isPlace l D mo sa pa ha ta cJ cI n b fl me st lk cm v nu pt hd tx ps ru ty rf lks lo1 hi1 sp cd pl gv z (by first | assumption | omega)) (cwV 1 hts gX7_setValue_X7_isPlace rfl rfl rfl (by decide +kernel) ⟨Nat.le_of_ble_eq_true rfl, Nat.le_of_ble_eq_true rfl⟩) hK hN hP hS hA [0, 1, 2, 3, 4] [0, 1] rfl rfl 0 5 rfl rfl rfl rfl hl.1 rfl (Nat.le_of_ble_eq_true rfl) dX7_setValue_3 ⟨Nat.zero_le _, Nat.zero_le _⟩ (fun H locs hz9 hP hS => ?_)
  refine wv_ti (y := bI false) (by rw [hz]) ?_
  refine wv_ifeqB (tgt := 13) hx hb dX7_setValue_6 (by decide) (fun _ => ?_) (fun h => by cases h)
  refine lv_iconst (v := nI 1) hx hb dX7_setValue_13 (by decide) ?_
  refine wv_callMi (As := [.int (nI 1)]) (rest := []) (wr := []) (ws1 := ModC mo sa pa ha ta cJ cI (sM n b fl me st lk cm v nu) pt hd tx ps ru ty 1 lks lo1 hi1 sp cd pl gv) ⟨hx, hb, hml, hown, hts⟩ (kX7_throwsAt l D mo sa pa ha ta cJ cI n b fl me st lk cm v nu pt hd tx ps ru ty rf lks lo1 hi1 sp cd pl gv 1 (by first | assumption | omega)) (cwV 1 hts gX7_setValue_X7_throwsAt rfl rfl rfl (by decide +kernel) ⟨Nat.le_of_ble_eq_true rfl, Nat.le_of_ble_eq_true rfl⟩) hK hN hP hD hS hA [0, 1, 2, 3, 4] [] [0, 1] [0, 1, 2, 3, 4] rfl rfl (by decide) rfl (by decide) (by decide) rfl (by decide) rfl 0 5 rfl rfl rfl rfl hl.1 rfl (Nat.le_of_ble_eq_true rfl) dX7_setValue_14 ⟨Nat.zero_le _, Nat.zero_le _⟩ (fun H locs hz9 hP hD hS => ?_)
  refine wv_ti (y := bI true) (by decide) ?_
  refine wv_ifeqB (tgt := 22) hx hb dX7_setValue_17 (by decide) (fun h => by cases h) (fun _ => ?_)
  refine lv_lconst (v := lN 0) hx hb dX7_setValue_20 rfl ?_
  exact wv_lretM hx hb hr hlocks hP hD hS rfl rfl dX7_setValue_21

set_option maxHeartbeats 4000000 in
set_option maxRecDepth 100000 in
theorem kX7_setValue (l : Launch) (D : va_G) (mo : Nat) (sa : Nat) (pa : Nat) (ha : Nat) (ta : Nat) (cJ : ClassId) (cI : ClassId) (n : Nat) (b : Nat) (fl : Bool) (me : Bool) (st : Int64) (lk : Int64) (cm : Int64) (v : Nat → Int64) (nu : Nat → Int64) (pt : Nat → Int64) (hd : Nat → Int64) (tx : Nat → Int32) (ps : Nat) (ru : Bool) (ty : Nat) (rf : Nat) (lks : Nat) (lo1 : Int32) (hi1 : Int32) (sp : Nat) (cd : Int32) (pl : Int32) (gv : Int64) (k : Nat) (x : Int64) (hn : n ≤ 32) (hk : k < n) (hb : b ≤ 31) (hps : ps ≤ 4) : MMl l yX7_setValue wsX7_setValue ({ frames := 7, cells := 0, slots := 0, locals := 156 } : Room) [.ref mo, .int (nI k), .long x] D (ModC mo sa pa ha ta cJ cI (sM n b fl me st lk cm v nu) pt hd tx ps ru ty rf lks lo1 hi1 sp cd pl gv) [(cJ, .long), (cI, .int)] (v k) (ModC mo sa pa ha ta cJ cI (sM n b fl me (st + (lN (eL me fl n b (vp_updL v k x)).length)) lk cm (sws (vp_updL v k x) (eL me fl n b (vp_updL v k x))) (sws nu (eL me fl n b (vp_updL v k x)))) (svP ru pt ps (sM n b fl me st lk cm v nu)) hd tx (svN ru ps) ru ty 0 lks lo1 hi1 sp cd pl gv) := by
  refine MMl_of (cc := cX7_setValue) (maxL := 6) (ret := some .long) (by decide +kernel) rfl (Nat.le_of_ble_eq_true rfl) ?_
  intro p e s m args below meth c hx hb hr hts hown hlocks hml hP hK hN hD ls hl
  have hown : s.vm.findClass RX7 = some m.cls := hown
  have hl : lv_has ls 6 [(0, .ref mo), (1, .int (nI k)), (2, .long x)] := hl
  have hS : va_S (va_A (ModC mo sa pa ha ta cJ cI (sM n b fl me st lk cm v nu) pt hd tx ps ru ty rf lks lo1 hi1 sp cd pl gv) s.heap.size) s.heap s.heap [] := va_S.rf
  have hA := wk_hA (ModC mo sa pa ha ta cJ cI (sM n b fl me st lk cm v nu) pt hd tx ps ru ty rf lks lo1 hi1 sp cd pl gv) s.heap.size
  have hD9 : True := trivial
  have hinX7 : ∀ w ∈ wsX70, w ∈ wsX7_setValue := by decide +kernel
  refine lv_aload_n hx hb dX7_setValue_0 rfl (lv_at hl 0 rfl) ?_
  refine lv_aload_n hx hb dX7_setValue_1 rfl (lv_at hl 0 rfl) ?_
  refine lv_iload_n hx hb dX7_setValue_2 rfl (lv_at hl 1 rfl) ?_
  refine wv_callPi (As := [.int (nI k)]) (rest := [.ref mo]) ⟨hx, hb, hml, hown, hts⟩ (kX7_isPlace l D mo sa pa ha ta cJ cI n b fl me st lk cm v nu pt hd tx ps ru ty rf lks lo1 hi1 sp cd pl gv (nI k) (by first | assumption | omega)) (cwV 1 hts gX7_setValue_X7_isPlace rfl rfl rfl (by decide +kernel) ⟨Nat.le_of_ble_eq_true rfl, Nat.le_of_ble_eq_true rfl⟩) hK hN hP hS hA [0, 1, 2, 3, 4] [0, 1] rfl rfl 0 5 rfl rfl rfl rfl hl.1 rfl (Nat.le_of_ble_eq_true rfl) dX7_setValue_3 ⟨Nat.zero_le _, Nat.zero_le _⟩ (fun H locs hz9 hP hS => ?_)
  refine wv_ti (y := bI true) (by rw [inR_t hk (by omega)]) ?_
  refine wv_ifeqB (tgt := 13) hx hb dX7_setValue_6 (by decide) (fun h => by cases h) (fun _ => ?_)
  refine lv_iconst (v := nI 0) hx hb dX7_setValue_9 (by decide) ?_
  refine lv_goto (tgt := 14) hx hb dX7_setValue_10 (by decide) ?_
  refine wv_callMi (As := [.int (nI 0)]) (rest := []) (wr := []) (ws1 := ModC mo sa pa ha ta cJ cI (sM n b fl me st lk cm v nu) pt hd tx ps ru ty 0 lks lo1 hi1 sp cd pl gv) ⟨hx, hb, hml, hown, hts⟩ (kX7_throwsAt l D mo sa pa ha ta cJ cI n b fl me st lk cm v nu pt hd tx ps ru ty rf lks lo1 hi1 sp cd pl gv 0 (by first | assumption | omega)) (cwV 1 hts gX7_setValue_X7_throwsAt rfl rfl rfl (by decide +kernel) ⟨Nat.le_of_ble_eq_true rfl, Nat.le_of_ble_eq_true rfl⟩) hK hN hP hD hS hA [0, 1, 2, 3, 4] [] [0, 1] [0, 1, 2, 3, 4] rfl rfl (by decide) rfl (by decide) (by decide) rfl (by decide) rfl 0 5 rfl rfl rfl rfl hl.1 rfl (Nat.le_of_ble_eq_true rfl) dX7_setValue_14 ⟨Nat.zero_le _, Nat.zero_le _⟩ (fun H locs hz9 hP hD hS => ?_)
  refine wv_ti (y := bI false) (by decide) ?_
  refine wv_ifeqB (tgt := 22) hx hb dX7_setValue_17 (by decide) (fun _ => ?_) (fun h => by cases h)
  refine lv_aload_n hx hb dX7_setValue_22 rfl (lv_at hl 0 rfl) ?_
  refine wv_callMv (As := []) (rest := []) (wr := []) (ws1 := ModC mo sa pa ha ta cJ cI (sM n b fl me st lk cm v nu) (svP ru pt ps (sM n b fl me st lk cm v nu)) hd tx (svN ru ps) ru ty 0 lks lo1 hi1 sp cd pl gv) ⟨hx, hb, hml, hown, hts⟩ (kX7_saves l D mo sa pa ha ta cJ cI n b fl me st lk cm v nu pt hd tx ps ru ty 0 lks lo1 hi1 sp cd pl gv (by first | assumption | omega)) (cwV 0 hts gX7_setValue_X7_saves rfl rfl rfl (by decide +kernel) ⟨Nat.le_of_ble_eq_true rfl, Nat.le_of_ble_eq_true rfl⟩) hK hN hP hD hS hA [0, 1, 2, 3, 4] [] [0, 1] [0, 1, 2, 3, 4] rfl rfl (by decide) rfl (by decide) (by decide) rfl (by decide) rfl 0 5 rfl rfl rfl rfl hl.1 rfl (Nat.le_of_ble_eq_true rfl) dX7_setValue_23 ⟨Nat.zero_le _, Nat.zero_le _⟩ (fun H locs hz9 hP hD hS => ?_)
  refine lv_aload_n hx hb dX7_setValue_26 rfl (lv_at hl 0 rfl) ?_
  refine va_get (D := D) (ci := 5) (C := RX7) (T := TX7) (N := 15) hx hb hts hinX7 hown hK hP 0 rfl rfl 0 (by decide) (hts (.fieldLink RX7 7 "NearRanksModel" "s" "[J") (by decide +kernel)) (fun _ h9 => h9) rfl dX7_setValue_27 ?_
  refine lv_bipush (v := nI 7) hx hb dX7_setValue_30 (by decide) ?_
  refine lv_iload_n hx hb dX7_setValue_32 rfl (lv_at hl 1 rfl) ?_
  refine lv_iadd hx hb dX7_setValue_33 ?_
  refine wv_ti (nI_add _ _) ?_
  refine wv_lald hx hb hK hP 1 0 rfl rfl (k := 7 + k) (by omega) (by decide) dX7_setValue_34 ?_
  refine wv_tl (y := v k) (sM_v (by omega) (by omega)) ?_
  refine lv_lstore (lv' := [(4, .long (v k)), (0, .ref mo), (1, .int (nI k)), (2, .long x)]) hx hb dX7_setValue_35 hl (by decide) rfl (fun ls hl => ?_)
  refine lv_aload_n hx hb dX7_setValue_37 rfl (lv_at hl 1 rfl) ?_
  refine va_get (D := D) (ci := 5) (C := RX7) (T := TX7) (N := 15) hx hb hts hinX7 hown hK hP 0 rfl rfl 0 (by decide) (hts (.fieldLink RX7 7 "NearRanksModel" "s" "[J") (by decide +kernel)) (fun _ h9 => h9) rfl dX7_setValue_38 ?_
  refine lv_bipush (v := nI 7) hx hb dX7_setValue_41 (by decide) ?_
  refine lv_iload_n hx hb dX7_setValue_43 rfl (lv_at hl 2 rfl) ?_
  refine lv_iadd hx hb dX7_setValue_44 ?_
  refine wv_ti (nI_add _ _) ?_
  refine lv_lload_n hx hb dX7_setValue_45 rfl (lv_at hl 3 rfl) ?_
  refine wv_last hx hb hK hP hD hS 1 0 rfl rfl (k := 7 + k) (by omega) (by decide) dX7_setValue_46 (fun H locs hP hD hS => ?_)
  rw [show vp_updL (sM n b fl me st lk cm v nu) (7 + k) x = sM n b fl me st lk cm (vp_updL v k x) nu from sM_uv _ (by omega) (by omega)] at hP hD
  have hP : va_P D vwCl (ModC mo sa pa ha ta cJ cI (sM n b fl me st lk cm (vp_updL v k x) nu) (svP ru pt ps (sM n b fl me st lk cm v nu)) hd tx (svN ru ps) ru ty 0 lks lo1 hi1 sp cd pl gv) H := hP
  have hD : va_D _ (ModC mo sa pa ha ta cJ cI (sM n b fl me st lk cm (vp_updL v k x) nu) (svP ru pt ps (sM n b fl me st lk cm v nu)) hd tx (svN ru ps) ru ty 0 lks lo1 hi1 sp cd pl gv) := hD
  refine lv_aload_n hx hb dX7_setValue_47 rfl (lv_at hl 1 rfl) ?_
  refine lv_iconst (v := nI 0) hx hb dX7_setValue_48 (by decide) ?_
  refine wv_callMi (As := [.int (nI 0)]) (rest := []) (wr := []) (ws1 := ModC mo sa pa ha ta cJ cI (sM n b fl me (st + (lN (eL me fl n b (vp_updL v k x)).length)) lk cm (sws (vp_updL v k x) (eL me fl n b (vp_updL v k x))) (sws nu (eL me fl n b (vp_updL v k x)))) (svP ru pt ps (sM n b fl me st lk cm v nu)) hd tx (svN ru ps) ru ty 0 lks lo1 hi1 sp cd pl gv) ⟨hx, hb, hml, hown, hts⟩ (kX7_ends l D mo sa pa ha ta cJ cI n b fl me st lk cm (vp_updL v k x) nu (svP ru pt ps (sM n b fl me st lk cm v nu)) hd tx (svN ru ps) ru ty 0 lks lo1 hi1 sp cd pl gv (nI 0) (by first | assumption | omega) (by first | assumption | omega)) (cwV 1 hts gX7_setValue_X7_ends rfl rfl rfl (by decide +kernel) ⟨Nat.le_of_ble_eq_true rfl, Nat.le_of_ble_eq_true rfl⟩) hK hN hP hD hS hA [0, 1, 2, 3, 4] [] [0, 1] [0, 1, 2, 3, 4] rfl rfl (by decide) rfl (by decide) (by decide) rfl (by decide) rfl 0 5 rfl rfl rfl rfl hl.1 rfl (Nat.le_of_ble_eq_true rfl) dX7_setValue_49 ⟨Nat.zero_le _, Nat.zero_le _⟩ (fun H locs hz9 hP hD hS => ?_)
  refine lv_if_ne (tgt := 60) hx hb dX7_setValue_52 (by decide) (fun h => absurd h (by decide)) (fun _ => ?_)
  refine lv_lload hx hb dX7_setValue_55 (lv_at hl 0 rfl) ?_
  refine lv_goto (tgt := 61) hx hb dX7_setValue_57 (by decide) ?_
  exact wv_lretM hx hb hr hlocks hP hD hS rfl rfl dX7_setValue_61

set_option maxHeartbeats 4000000 in
set_option maxRecDepth 100000 in
theorem kX7_swap_bad (l : Launch) (D : va_G) (mo : Nat) (sa : Nat) (pa : Nat) (ha : Nat) (ta : Nat) (cJ : ClassId) (cI : ClassId) (n : Nat) (b : Nat) (fl : Bool) (me : Bool) (st : Int64) (lk : Int64) (cm : Int64) (v : Nat → Int64) (nu : Nat → Int64) (pt : Nat → Int64) (hd : Nat → Int64) (tx : Nat → Int32) (ps : Nat) (ru : Bool) (ty : Nat) (rf : Nat) (lks : Nat) (lo1 : Int32) (hi1 : Int32) (sp : Nat) (cd : Int32) (pl : Int32) (gv : Int64) (z : Int32) (hn : n ≤ 32) (hz : inR z n = false) : MMi l yX7_swap wsX7_swap ({ frames := 1, cells := 0, slots := 0, locals := 21 } : Room) [.ref mo, .int z] D (ModC mo sa pa ha ta cJ cI (sM n b fl me st lk cm v nu) pt hd tx ps ru ty rf lks lo1 hi1 sp cd pl gv) [(cJ, .long), (cI, .int)] (nI 0) (ModC mo sa pa ha ta cJ cI (sM n b fl me st lk cm v nu) pt hd tx ps ru ty 1 lks lo1 hi1 sp cd pl gv) := by
  refine MMi_of (cc := cX7_swap) (maxL := 3) (ret := some .int) (by decide +kernel) rfl (Nat.le_of_ble_eq_true rfl) ?_
  intro p e s m args below meth c hx hb hr hts hown hlocks hml hP hK hN hD ls hl
  have hown : s.vm.findClass RX7 = some m.cls := hown
  have hl : lv_has ls 3 [(0, .ref mo), (1, .int z)] := hl
  have hS : va_S (va_A (ModC mo sa pa ha ta cJ cI (sM n b fl me st lk cm v nu) pt hd tx ps ru ty rf lks lo1 hi1 sp cd pl gv) s.heap.size) s.heap s.heap [] := va_S.rf
  have hA := wk_hA (ModC mo sa pa ha ta cJ cI (sM n b fl me st lk cm v nu) pt hd tx ps ru ty rf lks lo1 hi1 sp cd pl gv) s.heap.size
  have hD9 : True := trivial
  refine lv_aload_n hx hb dX7_swap_0 rfl (lv_at hl 0 rfl) ?_
  refine lv_aload_n hx hb dX7_swap_1 rfl (lv_at hl 0 rfl) ?_
  refine lv_iload_n hx hb dX7_swap_2 rfl (lv_at hl 1 rfl) ?_
  refine wv_callPi (As := [.int z]) (rest := [.ref mo]) ⟨hx, hb, hml, hown, hts⟩ (kX7_isPlace l D mo sa pa ha ta cJ cI n b fl me st lk cm v nu pt hd tx ps ru ty rf lks lo1 hi1 sp cd pl gv z (by first | assumption | omega)) (cwV 1 hts gX7_swap_X7_isPlace rfl rfl rfl (by decide +kernel) ⟨Nat.le_of_ble_eq_true rfl, Nat.le_of_ble_eq_true rfl⟩) hK hN hP hS hA [0, 1, 2, 3, 4] [0, 1] rfl rfl 0 5 rfl rfl rfl rfl hl.1 rfl (Nat.le_of_ble_eq_true rfl) dX7_swap_3 ⟨Nat.zero_le _, Nat.zero_le _⟩ (fun H locs hz9 hP hS => ?_)
  refine wv_ti (y := bI false) (by rw [hz]) ?_
  refine wv_ifeqB (tgt := 27) hx hb dX7_swap_6 (by decide) (fun _ => ?_) (fun h => by cases h)
  refine lv_iconst (v := nI 1) hx hb dX7_swap_27 (by decide) ?_
  refine wv_callMi (As := [.int (nI 1)]) (rest := []) (wr := []) (ws1 := ModC mo sa pa ha ta cJ cI (sM n b fl me st lk cm v nu) pt hd tx ps ru ty 1 lks lo1 hi1 sp cd pl gv) ⟨hx, hb, hml, hown, hts⟩ (kX7_throwsAt l D mo sa pa ha ta cJ cI n b fl me st lk cm v nu pt hd tx ps ru ty rf lks lo1 hi1 sp cd pl gv 1 (by first | assumption | omega)) (cwV 1 hts gX7_swap_X7_throwsAt rfl rfl rfl (by decide +kernel) ⟨Nat.le_of_ble_eq_true rfl, Nat.le_of_ble_eq_true rfl⟩) hK hN hP hD hS hA [0, 1, 2, 3, 4] [] [0, 1] [0, 1, 2, 3, 4] rfl rfl (by decide) rfl (by decide) (by decide) rfl (by decide) rfl 0 5 rfl rfl rfl rfl hl.1 rfl (Nat.le_of_ble_eq_true rfl) dX7_swap_28 ⟨Nat.zero_le _, Nat.zero_le _⟩ (fun H locs hz9 hP hD hS => ?_)
  refine wv_ti (y := bI true) (by decide) ?_
  refine wv_ifeqB (tgt := 36) hx hb dX7_swap_31 (by decide) (fun h => by cases h) (fun _ => ?_)
  refine lv_iconst (v := nI 0) hx hb dX7_swap_34 (by decide) ?_
  exact wv_iretM hx hb hr hlocks hP hD hS rfl rfl dX7_swap_35

set_option maxHeartbeats 4000000 in
set_option maxRecDepth 100000 in
theorem kX7_swap_last (l : Launch) (D : va_G) (mo : Nat) (sa : Nat) (pa : Nat) (ha : Nat) (ta : Nat) (cJ : ClassId) (cI : ClassId) (n : Nat) (b : Nat) (fl : Bool) (me : Bool) (st : Int64) (lk : Int64) (cm : Int64) (v : Nat → Int64) (nu : Nat → Int64) (pt : Nat → Int64) (hd : Nat → Int64) (tx : Nat → Int32) (ps : Nat) (ru : Bool) (ty : Nat) (rf : Nat) (lks : Nat) (lo1 : Int32) (hi1 : Int32) (sp : Nat) (cd : Int32) (pl : Int32) (gv : Int64) (k : Nat) (hn : n ≤ 32) (hk1 : k + 1 = n) : MMi l yX7_swap wsX7_swap ({ frames := 1, cells := 0, slots := 0, locals := 21 } : Room) [.ref mo, .int (nI k)] D (ModC mo sa pa ha ta cJ cI (sM n b fl me st lk cm v nu) pt hd tx ps ru ty rf lks lo1 hi1 sp cd pl gv) [(cJ, .long), (cI, .int)] (nI 0) (ModC mo sa pa ha ta cJ cI (sM n b fl me st lk cm v nu) pt hd tx ps ru ty 1 lks lo1 hi1 sp cd pl gv) := by
  refine MMi_of (cc := cX7_swap) (maxL := 3) (ret := some .int) (by decide +kernel) rfl (Nat.le_of_ble_eq_true rfl) ?_
  intro p e s m args below meth c hx hb hr hts hown hlocks hml hP hK hN hD ls hl
  have hown : s.vm.findClass RX7 = some m.cls := hown
  have hl : lv_has ls 3 [(0, .ref mo), (1, .int (nI k))] := hl
  have hS : va_S (va_A (ModC mo sa pa ha ta cJ cI (sM n b fl me st lk cm v nu) pt hd tx ps ru ty rf lks lo1 hi1 sp cd pl gv) s.heap.size) s.heap s.heap [] := va_S.rf
  have hA := wk_hA (ModC mo sa pa ha ta cJ cI (sM n b fl me st lk cm v nu) pt hd tx ps ru ty rf lks lo1 hi1 sp cd pl gv) s.heap.size
  have hD9 : True := trivial
  have hinX7 : ∀ w ∈ wsX70, w ∈ wsX7_swap := by decide +kernel
  have hk : k < n := by omega
  refine lv_aload_n hx hb dX7_swap_0 rfl (lv_at hl 0 rfl) ?_
  refine lv_aload_n hx hb dX7_swap_1 rfl (lv_at hl 0 rfl) ?_
  refine lv_iload_n hx hb dX7_swap_2 rfl (lv_at hl 1 rfl) ?_
  refine wv_callPi (As := [.int (nI k)]) (rest := [.ref mo]) ⟨hx, hb, hml, hown, hts⟩ (kX7_isPlace l D mo sa pa ha ta cJ cI n b fl me st lk cm v nu pt hd tx ps ru ty rf lks lo1 hi1 sp cd pl gv (nI k) (by first | assumption | omega)) (cwV 1 hts gX7_swap_X7_isPlace rfl rfl rfl (by decide +kernel) ⟨Nat.le_of_ble_eq_true rfl, Nat.le_of_ble_eq_true rfl⟩) hK hN hP hS hA [0, 1, 2, 3, 4] [0, 1] rfl rfl 0 5 rfl rfl rfl rfl hl.1 rfl (Nat.le_of_ble_eq_true rfl) dX7_swap_3 ⟨Nat.zero_le _, Nat.zero_le _⟩ (fun H locs hz9 hP hS => ?_)
  refine wv_ti (y := bI true) (by rw [inR_t hk (by omega)]) ?_
  refine wv_ifeqB (tgt := 27) hx hb dX7_swap_6 (by decide) (fun h => by cases h) (fun _ => ?_)
  refine lv_iload_n hx hb dX7_swap_9 rfl (lv_at hl 1 rfl) ?_
  refine lv_iconst (v := nI 1) hx hb dX7_swap_10 (by decide) ?_
  refine lv_iadd hx hb dX7_swap_11 ?_
  refine wv_ti (nI_add _ _) ?_
  refine lv_i2l (v := lN (k + 1)) hx hb dX7_swap_12 (nI_l (by omega)) ?_
  refine lv_aload_n hx hb dX7_swap_13 rfl (lv_at hl 0 rfl) ?_
  refine va_get (D := D) (ci := 5) (C := RX7) (T := TX7) (N := 15) hx hb hts hinX7 hown hK hP 0 rfl rfl 0 (by decide) (hts (.fieldLink RX7 7 "NearRanksModel" "s" "[J") (by decide +kernel)) (fun _ h9 => h9) rfl dX7_swap_14 ?_
  refine lv_iconst (v := nI 0) hx hb dX7_swap_17 (by decide) ?_
  refine wv_lald hx hb hK hP 1 0 rfl rfl (k := 0) (by omega) (by decide) dX7_swap_18 ?_
  refine wv_tl (y := lN n) sM_0 ?_
  refine wv_lcN_ge (tgt := 27) hx hb (by omega) (by omega) dX7_swap_19 dX7_swap_20 (by decide) (fun c20 => ?_) (fun c20 => by exfalso; omega)
  refine lv_iconst (v := nI 1) hx hb dX7_swap_27 (by decide) ?_
  refine wv_callMi (As := [.int (nI 1)]) (rest := []) (wr := []) (ws1 := ModC mo sa pa ha ta cJ cI (sM n b fl me st lk cm v nu) pt hd tx ps ru ty 1 lks lo1 hi1 sp cd pl gv) ⟨hx, hb, hml, hown, hts⟩ (kX7_throwsAt l D mo sa pa ha ta cJ cI n b fl me st lk cm v nu pt hd tx ps ru ty rf lks lo1 hi1 sp cd pl gv 1 (by first | assumption | omega)) (cwV 1 hts gX7_swap_X7_throwsAt rfl rfl rfl (by decide +kernel) ⟨Nat.le_of_ble_eq_true rfl, Nat.le_of_ble_eq_true rfl⟩) hK hN hP hD hS hA [0, 1, 2, 3, 4] [] [0, 1] [0, 1, 2, 3, 4] rfl rfl (by decide) rfl (by decide) (by decide) rfl (by decide) rfl 0 5 rfl rfl rfl rfl hl.1 rfl (Nat.le_of_ble_eq_true rfl) dX7_swap_28 ⟨Nat.zero_le _, Nat.zero_le _⟩ (fun H locs hz9 hP hD hS => ?_)
  refine wv_ti (y := bI true) (by decide) ?_
  refine wv_ifeqB (tgt := 36) hx hb dX7_swap_31 (by decide) (fun h => by cases h) (fun _ => ?_)
  refine lv_iconst (v := nI 0) hx hb dX7_swap_34 (by decide) ?_
  exact wv_iretM hx hb hr hlocks hP hD hS rfl rfl dX7_swap_35

set_option maxHeartbeats 4000000 in
set_option maxRecDepth 100000 in
theorem kX7_swap (l : Launch) (D : va_G) (mo : Nat) (sa : Nat) (pa : Nat) (ha : Nat) (ta : Nat) (cJ : ClassId) (cI : ClassId) (n : Nat) (b : Nat) (fl : Bool) (me : Bool) (st : Int64) (lk : Int64) (cm : Int64) (v : Nat → Int64) (nu : Nat → Int64) (pt : Nat → Int64) (hd : Nat → Int64) (tx : Nat → Int32) (ps : Nat) (ru : Bool) (ty : Nat) (rf : Nat) (lks : Nat) (lo1 : Int32) (hi1 : Int32) (sp : Nat) (cd : Int32) (pl : Int32) (gv : Int64) (k : Nat) (hn : n ≤ 32) (hk1 : k + 1 < n) (hb : b ≤ 31) (hps : ps ≤ 4) : MMi l yX7_swap wsX7_swap ({ frames := 7, cells := 0, slots := 0, locals := 156 } : Room) [.ref mo, .int (nI k)] D (ModC mo sa pa ha ta cJ cI (sM n b fl me st lk cm v nu) pt hd tx ps ru ty rf lks lo1 hi1 sp cd pl gv) [(cJ, .long), (cI, .int)] (ibs fl v k) (ModC mo sa pa ha ta cJ cI (sM n b fl me (st + (lN (eL me fl n b (swa v k)).length)) lk cm (sws (swa v k) (eL me fl n b (swa v k))) (sws (swa nu k) (eL me fl n b (swa v k)))) (svP ru pt ps (sM n b fl me st lk cm v nu)) hd tx (svN ru ps) ru ty 0 lks lo1 hi1 sp cd pl gv) := by
  refine MMi_of (cc := cX7_swap) (maxL := 3) (ret := some .int) (by decide +kernel) rfl (Nat.le_of_ble_eq_true rfl) ?_
  intro p e s m args below meth c hx hb hr hts hown hlocks hml hP hK hN hD ls hl
  have hown : s.vm.findClass RX7 = some m.cls := hown
  have hl : lv_has ls 3 [(0, .ref mo), (1, .int (nI k))] := hl
  have hS : va_S (va_A (ModC mo sa pa ha ta cJ cI (sM n b fl me st lk cm v nu) pt hd tx ps ru ty rf lks lo1 hi1 sp cd pl gv) s.heap.size) s.heap s.heap [] := va_S.rf
  have hA := wk_hA (ModC mo sa pa ha ta cJ cI (sM n b fl me st lk cm v nu) pt hd tx ps ru ty rf lks lo1 hi1 sp cd pl gv) s.heap.size
  have hD9 : True := trivial
  have hinX7 : ∀ w ∈ wsX70, w ∈ wsX7_swap := by decide +kernel
  have hk : k < n := by omega
  refine lv_aload_n hx hb dX7_swap_0 rfl (lv_at hl 0 rfl) ?_
  refine lv_aload_n hx hb dX7_swap_1 rfl (lv_at hl 0 rfl) ?_
  refine lv_iload_n hx hb dX7_swap_2 rfl (lv_at hl 1 rfl) ?_
  refine wv_callPi (As := [.int (nI k)]) (rest := [.ref mo]) ⟨hx, hb, hml, hown, hts⟩ (kX7_isPlace l D mo sa pa ha ta cJ cI n b fl me st lk cm v nu pt hd tx ps ru ty rf lks lo1 hi1 sp cd pl gv (nI k) (by first | assumption | omega)) (cwV 1 hts gX7_swap_X7_isPlace rfl rfl rfl (by decide +kernel) ⟨Nat.le_of_ble_eq_true rfl, Nat.le_of_ble_eq_true rfl⟩) hK hN hP hS hA [0, 1, 2, 3, 4] [0, 1] rfl rfl 0 5 rfl rfl rfl rfl hl.1 rfl (Nat.le_of_ble_eq_true rfl) dX7_swap_3 ⟨Nat.zero_le _, Nat.zero_le _⟩ (fun H locs hz9 hP hS => ?_)
  refine wv_ti (y := bI true) (by rw [inR_t hk (by omega)]) ?_
  refine wv_ifeqB (tgt := 27) hx hb dX7_swap_6 (by decide) (fun h => by cases h) (fun _ => ?_)
  refine lv_iload_n hx hb dX7_swap_9 rfl (lv_at hl 1 rfl) ?_
  refine lv_iconst (v := nI 1) hx hb dX7_swap_10 (by decide) ?_
  refine lv_iadd hx hb dX7_swap_11 ?_
  refine wv_ti (nI_add _ _) ?_
  refine lv_i2l (v := lN (k + 1)) hx hb dX7_swap_12 (nI_l (by omega)) ?_
  refine lv_aload_n hx hb dX7_swap_13 rfl (lv_at hl 0 rfl) ?_
  refine va_get (D := D) (ci := 5) (C := RX7) (T := TX7) (N := 15) hx hb hts hinX7 hown hK hP 0 rfl rfl 0 (by decide) (hts (.fieldLink RX7 7 "NearRanksModel" "s" "[J") (by decide +kernel)) (fun _ h9 => h9) rfl dX7_swap_14 ?_
  refine lv_iconst (v := nI 0) hx hb dX7_swap_17 (by decide) ?_
  refine wv_lald hx hb hK hP 1 0 rfl rfl (k := 0) (by omega) (by decide) dX7_swap_18 ?_
  refine wv_tl (y := lN n) sM_0 ?_
  refine wv_lcN_ge (tgt := 27) hx hb (by omega) (by omega) dX7_swap_19 dX7_swap_20 (by decide) (fun c20 => by exfalso; omega) (fun c20 => ?_)
  refine lv_iconst (v := nI 0) hx hb dX7_swap_23 (by decide) ?_
  refine lv_goto (tgt := 28) hx hb dX7_swap_24 (by decide) ?_
  refine wv_callMi (As := [.int (nI 0)]) (rest := []) (wr := []) (ws1 := ModC mo sa pa ha ta cJ cI (sM n b fl me st lk cm v nu) pt hd tx ps ru ty 0 lks lo1 hi1 sp cd pl gv) ⟨hx, hb, hml, hown, hts⟩ (kX7_throwsAt l D mo sa pa ha ta cJ cI n b fl me st lk cm v nu pt hd tx ps ru ty rf lks lo1 hi1 sp cd pl gv 0 (by first | assumption | omega)) (cwV 1 hts gX7_swap_X7_throwsAt rfl rfl rfl (by decide +kernel) ⟨Nat.le_of_ble_eq_true rfl, Nat.le_of_ble_eq_true rfl⟩) hK hN hP hD hS hA [0, 1, 2, 3, 4] [] [0, 1] [0, 1, 2, 3, 4] rfl rfl (by decide) rfl (by decide) (by decide) rfl (by decide) rfl 0 5 rfl rfl rfl rfl hl.1 rfl (Nat.le_of_ble_eq_true rfl) dX7_swap_28 ⟨Nat.zero_le _, Nat.zero_le _⟩ (fun H locs hz9 hP hD hS => ?_)
  refine wv_ti (y := bI false) (by decide) ?_
  refine wv_ifeqB (tgt := 36) hx hb dX7_swap_31 (by decide) (fun _ => ?_) (fun h => by cases h)
  refine lv_aload_n hx hb dX7_swap_36 rfl (lv_at hl 0 rfl) ?_
  refine wv_callMv (As := []) (rest := []) (wr := []) (ws1 := ModC mo sa pa ha ta cJ cI (sM n b fl me st lk cm v nu) (svP ru pt ps (sM n b fl me st lk cm v nu)) hd tx (svN ru ps) ru ty 0 lks lo1 hi1 sp cd pl gv) ⟨hx, hb, hml, hown, hts⟩ (kX7_saves l D mo sa pa ha ta cJ cI n b fl me st lk cm v nu pt hd tx ps ru ty 0 lks lo1 hi1 sp cd pl gv (by first | assumption | omega)) (cwV 0 hts gX7_swap_X7_saves rfl rfl rfl (by decide +kernel) ⟨Nat.le_of_ble_eq_true rfl, Nat.le_of_ble_eq_true rfl⟩) hK hN hP hD hS hA [0, 1, 2, 3, 4] [] [0, 1] [0, 1, 2, 3, 4] rfl rfl (by decide) rfl (by decide) (by decide) rfl (by decide) rfl 0 5 rfl rfl rfl rfl hl.1 rfl (Nat.le_of_ble_eq_true rfl) dX7_swap_37 ⟨Nat.zero_le _, Nat.zero_le _⟩ (fun H locs hz9 hP hD hS => ?_)
  refine lv_aload_n hx hb dX7_swap_40 rfl (lv_at hl 0 rfl) ?_
  refine lv_iload_n hx hb dX7_swap_41 rfl (lv_at hl 1 rfl) ?_
  refine wv_callPi (As := [.int (nI k)]) (rest := []) ⟨hx, hb, hml, hown, hts⟩ (kX7_isFall l D mo sa pa ha ta cJ cI n b fl me st lk cm v nu (svP ru pt ps (sM n b fl me st lk cm v nu)) hd tx (svN ru ps) ru ty 0 lks lo1 hi1 sp cd pl gv k (by first | assumption | omega) (by first | assumption | omega)) (cwV 1 hts gX7_swap_X7_isFall rfl rfl rfl (by decide +kernel) ⟨Nat.le_of_ble_eq_true rfl, Nat.le_of_ble_eq_true rfl⟩) hK hN hP hS hA [0, 1, 2, 3, 4] [0, 1] rfl rfl 0 5 rfl rfl rfl rfl hl.1 rfl (Nat.le_of_ble_eq_true rfl) dX7_swap_42 ⟨Nat.zero_le _, Nat.zero_le _⟩ (fun H locs hz9 hP hS => ?_)
  refine wv_ifeqB (tgt := 52) hx hb dX7_swap_45 (by decide) (fun c45 => ?_) (fun c45 => ?_)
  · skip
    have c45 : ahd fl (v (k + 1)) (v k) = false := by simpa [fal, hk1] using c45
    refine lv_aload_n hx hb dX7_swap_52 rfl (lv_at hl 0 rfl) ?_
    refine va_get (D := D) (ci := 5) (C := RX7) (T := TX7) (N := 15) hx hb hts hinX7 hown hK hP 0 rfl rfl 0 (by decide) (hts (.fieldLink RX7 7 "NearRanksModel" "s" "[J") (by decide +kernel)) (fun _ h9 => h9) rfl dX7_swap_53 ?_
    refine lv_bipush (v := nI 7) hx hb dX7_swap_56 (by decide) ?_
    refine lv_iload_n hx hb dX7_swap_58 rfl (lv_at hl 1 rfl) ?_
    refine lv_iadd hx hb dX7_swap_59 ?_
    refine wv_ti (nI_add _ _) ?_
    refine wv_lald hx hb hK hP 1 0 rfl rfl (k := 7 + k) (by omega) (by decide) dX7_swap_60 ?_
    refine wv_tl (y := v k) (sM_v (by omega) (by omega)) ?_
    refine lv_aload_n hx hb dX7_swap_61 rfl (lv_at hl 0 rfl) ?_
    refine va_get (D := D) (ci := 5) (C := RX7) (T := TX7) (N := 15) hx hb hts hinX7 hown hK hP 0 rfl rfl 0 (by decide) (hts (.fieldLink RX7 7 "NearRanksModel" "s" "[J") (by decide +kernel)) (fun _ h9 => h9) rfl dX7_swap_62 ?_
    refine lv_bipush (v := nI 7) hx hb dX7_swap_65 (by decide) ?_
    refine lv_iload_n hx hb dX7_swap_67 rfl (lv_at hl 1 rfl) ?_
    refine lv_iadd hx hb dX7_swap_68 ?_
    refine wv_ti (nI_add _ _) ?_
    refine lv_iconst (v := nI 1) hx hb dX7_swap_69 (by decide) ?_
    refine lv_iadd hx hb dX7_swap_70 ?_
    refine wv_ti (nI_add _ _) ?_
    refine wv_lald hx hb hK hP 1 0 rfl rfl (k := (7 + k) + 1) (by omega) (by decide) dX7_swap_71 ?_
    refine wv_tl (y := v (k + 1)) (sM_v (by omega) (by omega)) ?_
    refine wv_lc_ne (tgt := 80) hx hb dX7_swap_72 dX7_swap_73 (by decide) (fun c73 => ?_) (fun c73 => ?_)
    · skip
      refine lv_iconst (v := nI 1) hx hb dX7_swap_80 (by decide) ?_
      refine lv_istore_n (lv' := [(2, .int (nI 1)), (0, .ref mo), (1, .int (nI k))]) hx hb dX7_swap_81 rfl hl (by decide) rfl (fun ls hl => ?_)
      refine lv_aload_n hx hb dX7_swap_82 rfl (lv_at hl 1 rfl) ?_
      refine lv_iload_n hx hb dX7_swap_83 rfl (lv_at hl 2 rfl) ?_
      refine wv_callMv (As := [.int (nI k)]) (rest := []) (wr := []) (ws1 := ModC mo sa pa ha ta cJ cI (sM n b fl me st lk cm (swa v k) (swa nu k)) (svP ru pt ps (sM n b fl me st lk cm v nu)) hd tx (svN ru ps) ru ty 0 lks lo1 hi1 sp cd pl gv) ⟨hx, hb, hml, hown, hts⟩ (kX7_swaps l D mo sa pa ha ta cJ cI n b fl me st lk cm v nu (svP ru pt ps (sM n b fl me st lk cm v nu)) hd tx (svN ru ps) ru ty 0 lks lo1 hi1 sp cd pl gv k (by first | assumption | omega) (by first | assumption | omega)) (cwV 1 hts gX7_swap_X7_swaps rfl rfl rfl (by decide +kernel) ⟨Nat.le_of_ble_eq_true rfl, Nat.le_of_ble_eq_true rfl⟩) hK hN hP hD hS hA [0, 1, 2, 3, 4] [] [0, 1] [0, 1, 2, 3, 4] rfl rfl (by decide) rfl (by decide) (by decide) rfl (by decide) rfl 0 5 rfl rfl rfl rfl hl.1 rfl (Nat.le_of_ble_eq_true rfl) dX7_swap_84 ⟨Nat.zero_le _, Nat.zero_le _⟩ (fun H locs hz9 hP hD hS => ?_)
      refine lv_aload_n hx hb dX7_swap_87 rfl (lv_at hl 1 rfl) ?_
      refine lv_iload_n hx hb dX7_swap_88 rfl (lv_at hl 0 rfl) ?_
      refine wv_callMi (As := [.int (nI 1)]) (rest := []) (wr := []) (ws1 := ModC mo sa pa ha ta cJ cI (sM n b fl me (st + (lN (eL me fl n b (swa v k)).length)) lk cm (sws (swa v k) (eL me fl n b (swa v k))) (sws (swa nu k) (eL me fl n b (swa v k)))) (svP ru pt ps (sM n b fl me st lk cm v nu)) hd tx (svN ru ps) ru ty 0 lks lo1 hi1 sp cd pl gv) ⟨hx, hb, hml, hown, hts⟩ (kX7_ends l D mo sa pa ha ta cJ cI n b fl me st lk cm (swa v k) (swa nu k) (svP ru pt ps (sM n b fl me st lk cm v nu)) hd tx (svN ru ps) ru ty 0 lks lo1 hi1 sp cd pl gv (nI 1) (by first | assumption | omega) (by first | assumption | omega)) (cwV 1 hts gX7_swap_X7_ends rfl rfl rfl (by decide +kernel) ⟨Nat.le_of_ble_eq_true rfl, Nat.le_of_ble_eq_true rfl⟩) hK hN hP hD hS hA [0, 1, 2, 3, 4] [] [0, 1] [0, 1, 2, 3, 4] rfl rfl (by decide) rfl (by decide) (by decide) rfl (by decide) rfl 0 5 rfl rfl rfl rfl hl.1 rfl (Nat.le_of_ble_eq_true rfl) dX7_swap_89 ⟨Nat.zero_le _, Nat.zero_le _⟩ (fun H locs hz9 hP hD hS => ?_)
      exact wv_iretM hx hb hr hlocks hP hD hS (by first | (unfold ibs; rw [if_neg (fun z => by rw [z, ahd_irr] at c45; cases c45), if_pos c45]; done) | (unfold ibs; rw [if_pos c73]; rfl) | (unfold ibs; rw [if_neg c73, if_neg (by rw [c45]; decide)]; rfl)) rfl dX7_swap_92
    · skip
      refine lv_iconst (v := nI 0) hx hb dX7_swap_76 (by decide) ?_
      refine lv_goto (tgt := 81) hx hb dX7_swap_77 (by decide) ?_
      refine lv_istore_n (lv' := [(2, .int (nI 0)), (0, .ref mo), (1, .int (nI k))]) hx hb dX7_swap_81 rfl hl (by decide) rfl (fun ls hl => ?_)
      refine lv_aload_n hx hb dX7_swap_82 rfl (lv_at hl 1 rfl) ?_
      refine lv_iload_n hx hb dX7_swap_83 rfl (lv_at hl 2 rfl) ?_
      refine wv_callMv (As := [.int (nI k)]) (rest := []) (wr := []) (ws1 := ModC mo sa pa ha ta cJ cI (sM n b fl me st lk cm (swa v k) (swa nu k)) (svP ru pt ps (sM n b fl me st lk cm v nu)) hd tx (svN ru ps) ru ty 0 lks lo1 hi1 sp cd pl gv) ⟨hx, hb, hml, hown, hts⟩ (kX7_swaps l D mo sa pa ha ta cJ cI n b fl me st lk cm v nu (svP ru pt ps (sM n b fl me st lk cm v nu)) hd tx (svN ru ps) ru ty 0 lks lo1 hi1 sp cd pl gv k (by first | assumption | omega) (by first | assumption | omega)) (cwV 1 hts gX7_swap_X7_swaps rfl rfl rfl (by decide +kernel) ⟨Nat.le_of_ble_eq_true rfl, Nat.le_of_ble_eq_true rfl⟩) hK hN hP hD hS hA [0, 1, 2, 3, 4] [] [0, 1] [0, 1, 2, 3, 4] rfl rfl (by decide) rfl (by decide) (by decide) rfl (by decide) rfl 0 5 rfl rfl rfl rfl hl.1 rfl (Nat.le_of_ble_eq_true rfl) dX7_swap_84 ⟨Nat.zero_le _, Nat.zero_le _⟩ (fun H locs hz9 hP hD hS => ?_)
      refine lv_aload_n hx hb dX7_swap_87 rfl (lv_at hl 1 rfl) ?_
      refine lv_iload_n hx hb dX7_swap_88 rfl (lv_at hl 0 rfl) ?_
      refine wv_callMi (As := [.int (nI 0)]) (rest := []) (wr := []) (ws1 := ModC mo sa pa ha ta cJ cI (sM n b fl me (st + (lN (eL me fl n b (swa v k)).length)) lk cm (sws (swa v k) (eL me fl n b (swa v k))) (sws (swa nu k) (eL me fl n b (swa v k)))) (svP ru pt ps (sM n b fl me st lk cm v nu)) hd tx (svN ru ps) ru ty 0 lks lo1 hi1 sp cd pl gv) ⟨hx, hb, hml, hown, hts⟩ (kX7_ends l D mo sa pa ha ta cJ cI n b fl me st lk cm (swa v k) (swa nu k) (svP ru pt ps (sM n b fl me st lk cm v nu)) hd tx (svN ru ps) ru ty 0 lks lo1 hi1 sp cd pl gv (nI 0) (by first | assumption | omega) (by first | assumption | omega)) (cwV 1 hts gX7_swap_X7_ends rfl rfl rfl (by decide +kernel) ⟨Nat.le_of_ble_eq_true rfl, Nat.le_of_ble_eq_true rfl⟩) hK hN hP hD hS hA [0, 1, 2, 3, 4] [] [0, 1] [0, 1, 2, 3, 4] rfl rfl (by decide) rfl (by decide) (by decide) rfl (by decide) rfl 0 5 rfl rfl rfl rfl hl.1 rfl (Nat.le_of_ble_eq_true rfl) dX7_swap_89 ⟨Nat.zero_le _, Nat.zero_le _⟩ (fun H locs hz9 hP hD hS => ?_)
      exact wv_iretM hx hb hr hlocks hP hD hS (by first | (unfold ibs; rw [if_neg (fun z => by rw [z, ahd_irr] at c45; cases c45), if_pos c45]; done) | (unfold ibs; rw [if_pos c73]; rfl) | (unfold ibs; rw [if_neg c73, if_neg (by rw [c45]; decide)]; rfl)) rfl dX7_swap_92
  · skip
    have c45 : ahd fl (v (k + 1)) (v k) = true := by simpa [fal, hk1] using c45
    refine lv_iconst (v := (-1)) hx hb dX7_swap_48 (by decide) ?_
    refine lv_goto (tgt := 81) hx hb dX7_swap_49 (by decide) ?_
    refine lv_istore_n (lv' := [(2, .int (-1)), (0, .ref mo), (1, .int (nI k))]) hx hb dX7_swap_81 rfl hl (by decide) rfl (fun ls hl => ?_)
    refine lv_aload_n hx hb dX7_swap_82 rfl (lv_at hl 1 rfl) ?_
    refine lv_iload_n hx hb dX7_swap_83 rfl (lv_at hl 2 rfl) ?_
    refine wv_callMv (As := [.int (nI k)]) (rest := []) (wr := []) (ws1 := ModC mo sa pa ha ta cJ cI (sM n b fl me st lk cm (swa v k) (swa nu k)) (svP ru pt ps (sM n b fl me st lk cm v nu)) hd tx (svN ru ps) ru ty 0 lks lo1 hi1 sp cd pl gv) ⟨hx, hb, hml, hown, hts⟩ (kX7_swaps l D mo sa pa ha ta cJ cI n b fl me st lk cm v nu (svP ru pt ps (sM n b fl me st lk cm v nu)) hd tx (svN ru ps) ru ty 0 lks lo1 hi1 sp cd pl gv k (by first | assumption | omega) (by first | assumption | omega)) (cwV 1 hts gX7_swap_X7_swaps rfl rfl rfl (by decide +kernel) ⟨Nat.le_of_ble_eq_true rfl, Nat.le_of_ble_eq_true rfl⟩) hK hN hP hD hS hA [0, 1, 2, 3, 4] [] [0, 1] [0, 1, 2, 3, 4] rfl rfl (by decide) rfl (by decide) (by decide) rfl (by decide) rfl 0 5 rfl rfl rfl rfl hl.1 rfl (Nat.le_of_ble_eq_true rfl) dX7_swap_84 ⟨Nat.zero_le _, Nat.zero_le _⟩ (fun H locs hz9 hP hD hS => ?_)
    refine lv_aload_n hx hb dX7_swap_87 rfl (lv_at hl 1 rfl) ?_
    refine lv_iload_n hx hb dX7_swap_88 rfl (lv_at hl 0 rfl) ?_
    refine wv_callMi (As := [.int (-1)]) (rest := []) (wr := []) (ws1 := ModC mo sa pa ha ta cJ cI (sM n b fl me (st + (lN (eL me fl n b (swa v k)).length)) lk cm (sws (swa v k) (eL me fl n b (swa v k))) (sws (swa nu k) (eL me fl n b (swa v k)))) (svP ru pt ps (sM n b fl me st lk cm v nu)) hd tx (svN ru ps) ru ty 0 lks lo1 hi1 sp cd pl gv) ⟨hx, hb, hml, hown, hts⟩ (kX7_ends l D mo sa pa ha ta cJ cI n b fl me st lk cm (swa v k) (swa nu k) (svP ru pt ps (sM n b fl me st lk cm v nu)) hd tx (svN ru ps) ru ty 0 lks lo1 hi1 sp cd pl gv (-1) (by first | assumption | omega) (by first | assumption | omega)) (cwV 1 hts gX7_swap_X7_ends rfl rfl rfl (by decide +kernel) ⟨Nat.le_of_ble_eq_true rfl, Nat.le_of_ble_eq_true rfl⟩) hK hN hP hD hS hA [0, 1, 2, 3, 4] [] [0, 1] [0, 1, 2, 3, 4] rfl rfl (by decide) rfl (by decide) (by decide) rfl (by decide) rfl 0 5 rfl rfl rfl rfl hl.1 rfl (Nat.le_of_ble_eq_true rfl) dX7_swap_89 ⟨Nat.zero_le _, Nat.zero_le _⟩ (fun H locs hz9 hP hD hS => ?_)
    exact wv_iretM hx hb hr hlocks hP hD hS (by first | (unfold ibs; rw [if_neg (fun z => by rw [z, ahd_irr] at c45; cases c45), if_pos c45]; done) | (unfold ibs; rw [if_pos c73]; rfl) | (unfold ibs; rw [if_neg c73, if_neg (by rw [c45]; decide)]; rfl)) rfl dX7_swap_92

set_option maxHeartbeats 4000000 in
set_option maxRecDepth 100000 in
theorem kX7_setBound_bad (l : Launch) (D : va_G) (mo : Nat) (sa : Nat) (pa : Nat) (ha : Nat) (ta : Nat) (cJ : ClassId) (cI : ClassId) (n : Nat) (b : Nat) (fl : Bool) (me : Bool) (st : Int64) (lk : Int64) (cm : Int64) (v : Nat → Int64) (nu : Nat → Int64) (pt : Nat → Int64) (hd : Nat → Int64) (tx : Nat → Int32) (ps : Nat) (ru : Bool) (ty : Nat) (rf : Nat) (lks : Nat) (lo1 : Int32) (hi1 : Int32) (sp : Nat) (cd : Int32) (pl : Int32) (gv : Int64) (z : Int32) (hn : n ≤ 32) (hz : inB z = false) : MMi l yX7_setBound wsX7_setBound ({ frames := 1, cells := 0, slots := 0, locals := 25 } : Room) [.ref mo, .int z] D (ModC mo sa pa ha ta cJ cI (sM n b fl me st lk cm v nu) pt hd tx ps ru ty rf lks lo1 hi1 sp cd pl gv) [(cJ, .long), (cI, .int)] (nI 0) (ModC mo sa pa ha ta cJ cI (sM n b fl me st lk cm v nu) pt hd tx ps ru ty 1 lks lo1 hi1 sp cd pl gv) := by
  refine MMi_of (cc := cX7_setBound) (maxL := 2) (ret := some .int) (by decide +kernel) rfl (Nat.le_of_ble_eq_true rfl) ?_
  intro p e s m args below meth c hx hb hr hts hown hlocks hml hP hK hN hD ls hl
  have hown : s.vm.findClass RX7 = some m.cls := hown
  have hl : lv_has ls 2 [(0, .ref mo), (1, .int z)] := hl
  have hS : va_S (va_A (ModC mo sa pa ha ta cJ cI (sM n b fl me st lk cm v nu) pt hd tx ps ru ty rf lks lo1 hi1 sp cd pl gv) s.heap.size) s.heap s.heap [] := va_S.rf
  have hA := wk_hA (ModC mo sa pa ha ta cJ cI (sM n b fl me st lk cm v nu) pt hd tx ps ru ty rf lks lo1 hi1 sp cd pl gv) s.heap.size
  have hD9 : True := trivial
  refine lv_aload_n hx hb dX7_setBound_0 rfl (lv_at hl 0 rfl) ?_
  refine lv_iload_n hx hb dX7_setBound_1 rfl (lv_at hl 1 rfl) ?_
  refine lv_i2l (v := z.toInt64) hx hb dX7_setBound_2 rfl ?_
  refine lv_lconst (v := lN 0) hx hb dX7_setBound_3 rfl ?_
  refine lv_ldc2 (v := lN 31) hx hb hown (hts (.constantLong RX7 99 (31)) (by decide +kernel)) dX7_setBound_4 ?_
  refine wv_callSi (As := [.long z.toInt64, .long (lN 0), .long (lN 31)]) (rest := [.ref mo]) ⟨hx, hb, hml, hown, hts⟩ (kX7_in l D z.toInt64 (lN 0) (lN 31)) (va_cwS 3 hts gX7_setBound_X7_in rfl rfl rfl (by decide +kernel) ⟨Nat.le_of_ble_eq_true rfl, Nat.le_of_ble_eq_true rfl⟩) hK hN hP hS hA [] [] rfl rfl rfl hl.1 rfl (Nat.le_of_ble_eq_true rfl) dX7_setBound_7 ⟨Nat.zero_le _, Nat.zero_le _⟩ (fun H locs hz9 hP hS => ?_)
  refine wv_ti (y := bI false) (by rw [wk_in_o z (by omega)]; exact congrArg bI hz) ?_
  refine wv_ifeqB (tgt := 17) hx hb dX7_setBound_10 (by decide) (fun _ => ?_) (fun h => by cases h)
  refine lv_iconst (v := nI 1) hx hb dX7_setBound_17 (by decide) ?_
  refine wv_callMi (As := [.int (nI 1)]) (rest := []) (wr := []) (ws1 := ModC mo sa pa ha ta cJ cI (sM n b fl me st lk cm v nu) pt hd tx ps ru ty 1 lks lo1 hi1 sp cd pl gv) ⟨hx, hb, hml, hown, hts⟩ (kX7_throwsAt l D mo sa pa ha ta cJ cI n b fl me st lk cm v nu pt hd tx ps ru ty rf lks lo1 hi1 sp cd pl gv 1 (by first | assumption | omega)) (cwV 1 hts gX7_setBound_X7_throwsAt rfl rfl rfl (by decide +kernel) ⟨Nat.le_of_ble_eq_true rfl, Nat.le_of_ble_eq_true rfl⟩) hK hN hP hD hS hA [0, 1, 2, 3, 4] [] [0, 1] [0, 1, 2, 3, 4] rfl rfl (by decide) rfl (by decide) (by decide) rfl (by decide) rfl 0 5 rfl rfl rfl rfl hl.1 rfl (Nat.le_of_ble_eq_true rfl) dX7_setBound_18 ⟨Nat.zero_le _, Nat.zero_le _⟩ (fun H locs hz9 hP hD hS => ?_)
  refine wv_ti (y := bI true) (by decide) ?_
  refine wv_ifeqB (tgt := 26) hx hb dX7_setBound_21 (by decide) (fun h => by cases h) (fun _ => ?_)
  refine lv_iconst (v := nI 0) hx hb dX7_setBound_24 (by decide) ?_
  exact wv_iretM hx hb hr hlocks hP hD hS rfl rfl dX7_setBound_25

set_option maxHeartbeats 4000000 in
set_option maxRecDepth 100000 in
theorem kX7_setBound (l : Launch) (D : va_G) (mo : Nat) (sa : Nat) (pa : Nat) (ha : Nat) (ta : Nat) (cJ : ClassId) (cI : ClassId) (n : Nat) (b : Nat) (fl : Bool) (me : Bool) (st : Int64) (lk : Int64) (cm : Int64) (v : Nat → Int64) (nu : Nat → Int64) (pt : Nat → Int64) (hd : Nat → Int64) (tx : Nat → Int32) (ps : Nat) (ru : Bool) (ty : Nat) (rf : Nat) (lks : Nat) (lo1 : Int32) (hi1 : Int32) (sp : Nat) (cd : Int32) (pl : Int32) (gv : Int64) (k : Nat) (hn : n ≤ 32) (hk : k ≤ 31) (hps : ps ≤ 4) : MMi l yX7_setBound wsX7_setBound ({ frames := 7, cells := 0, slots := 0, locals := 156 } : Room) [.ref mo, .int (nI k)] D (ModC mo sa pa ha ta cJ cI (sM n b fl me st lk cm v nu) pt hd tx ps ru ty rf lks lo1 hi1 sp cd pl gv) [(cJ, .long), (cI, .int)] (nI (cnt (brk fl v n k) n)) (ModC mo sa pa ha ta cJ cI (sM n k fl me (st + (lN (eL me fl n k v).length)) lk cm (sws v (eL me fl n k v)) (sws nu (eL me fl n k v))) (svP ru pt ps (sM n b fl me st lk cm v nu)) hd tx (svN ru ps) ru ty 0 lks lo1 hi1 sp cd pl gv) := by
  refine MMi_of (cc := cX7_setBound) (maxL := 2) (ret := some .int) (by decide +kernel) rfl (Nat.le_of_ble_eq_true rfl) ?_
  intro p e s m args below meth c hx hb hr hts hown hlocks hml hP hK hN hD ls hl
  have hown : s.vm.findClass RX7 = some m.cls := hown
  have hl : lv_has ls 2 [(0, .ref mo), (1, .int (nI k))] := hl
  have hS : va_S (va_A (ModC mo sa pa ha ta cJ cI (sM n b fl me st lk cm v nu) pt hd tx ps ru ty rf lks lo1 hi1 sp cd pl gv) s.heap.size) s.heap s.heap [] := va_S.rf
  have hA := wk_hA (ModC mo sa pa ha ta cJ cI (sM n b fl me st lk cm v nu) pt hd tx ps ru ty rf lks lo1 hi1 sp cd pl gv) s.heap.size
  have hD9 : True := trivial
  have hinX7 : ∀ w ∈ wsX70, w ∈ wsX7_setBound := by decide +kernel
  refine lv_aload_n hx hb dX7_setBound_0 rfl (lv_at hl 0 rfl) ?_
  refine lv_iload_n hx hb dX7_setBound_1 rfl (lv_at hl 1 rfl) ?_
  refine lv_i2l (v := lN k) hx hb dX7_setBound_2 (nI_l (by omega)) ?_
  refine lv_lconst (v := lN 0) hx hb dX7_setBound_3 rfl ?_
  refine lv_ldc2 (v := lN 31) hx hb hown (hts (.constantLong RX7 99 (31)) (by decide +kernel)) dX7_setBound_4 ?_
  refine wv_callSi (As := [.long (lN k), .long (lN 0), .long (lN 31)]) (rest := [.ref mo]) ⟨hx, hb, hml, hown, hts⟩ (kX7_in l D (lN k) (lN 0) (lN 31)) (va_cwS 3 hts gX7_setBound_X7_in rfl rfl rfl (by decide +kernel) ⟨Nat.le_of_ble_eq_true rfl, Nat.le_of_ble_eq_true rfl⟩) hK hN hP hS hA [] [] rfl rfl rfl hl.1 rfl (Nat.le_of_ble_eq_true rfl) dX7_setBound_7 ⟨Nat.zero_le _, Nat.zero_le _⟩ (fun H locs hz9 hP hS => ?_)
  refine wv_ti (y := bI true) (by rw [wk_in_t (by omega) hk (by omega)]) ?_
  refine wv_ifeqB (tgt := 17) hx hb dX7_setBound_10 (by decide) (fun h => by cases h) (fun _ => ?_)
  refine lv_iconst (v := nI 0) hx hb dX7_setBound_13 (by decide) ?_
  refine lv_goto (tgt := 18) hx hb dX7_setBound_14 (by decide) ?_
  refine wv_callMi (As := [.int (nI 0)]) (rest := []) (wr := []) (ws1 := ModC mo sa pa ha ta cJ cI (sM n b fl me st lk cm v nu) pt hd tx ps ru ty 0 lks lo1 hi1 sp cd pl gv) ⟨hx, hb, hml, hown, hts⟩ (kX7_throwsAt l D mo sa pa ha ta cJ cI n b fl me st lk cm v nu pt hd tx ps ru ty rf lks lo1 hi1 sp cd pl gv 0 (by first | assumption | omega)) (cwV 1 hts gX7_setBound_X7_throwsAt rfl rfl rfl (by decide +kernel) ⟨Nat.le_of_ble_eq_true rfl, Nat.le_of_ble_eq_true rfl⟩) hK hN hP hD hS hA [0, 1, 2, 3, 4] [] [0, 1] [0, 1, 2, 3, 4] rfl rfl (by decide) rfl (by decide) (by decide) rfl (by decide) rfl 0 5 rfl rfl rfl rfl hl.1 rfl (Nat.le_of_ble_eq_true rfl) dX7_setBound_18 ⟨Nat.zero_le _, Nat.zero_le _⟩ (fun H locs hz9 hP hD hS => ?_)
  refine wv_ti (y := bI false) (by decide) ?_
  refine wv_ifeqB (tgt := 26) hx hb dX7_setBound_21 (by decide) (fun _ => ?_) (fun h => by cases h)
  refine lv_aload_n hx hb dX7_setBound_26 rfl (lv_at hl 0 rfl) ?_
  refine wv_callMv (As := []) (rest := []) (wr := []) (ws1 := ModC mo sa pa ha ta cJ cI (sM n b fl me st lk cm v nu) (svP ru pt ps (sM n b fl me st lk cm v nu)) hd tx (svN ru ps) ru ty 0 lks lo1 hi1 sp cd pl gv) ⟨hx, hb, hml, hown, hts⟩ (kX7_saves l D mo sa pa ha ta cJ cI n b fl me st lk cm v nu pt hd tx ps ru ty 0 lks lo1 hi1 sp cd pl gv (by first | assumption | omega)) (cwV 0 hts gX7_setBound_X7_saves rfl rfl rfl (by decide +kernel) ⟨Nat.le_of_ble_eq_true rfl, Nat.le_of_ble_eq_true rfl⟩) hK hN hP hD hS hA [0, 1, 2, 3, 4] [] [0, 1] [0, 1, 2, 3, 4] rfl rfl (by decide) rfl (by decide) (by decide) rfl (by decide) rfl 0 5 rfl rfl rfl rfl hl.1 rfl (Nat.le_of_ble_eq_true rfl) dX7_setBound_27 ⟨Nat.zero_le _, Nat.zero_le _⟩ (fun H locs hz9 hP hD hS => ?_)
  refine lv_aload_n hx hb dX7_setBound_30 rfl (lv_at hl 0 rfl) ?_
  refine va_get (D := D) (ci := 5) (C := RX7) (T := TX7) (N := 15) hx hb hts hinX7 hown hK hP 0 rfl rfl 0 (by decide) (hts (.fieldLink RX7 7 "NearRanksModel" "s" "[J") (by decide +kernel)) (fun _ h9 => h9) rfl dX7_setBound_31 ?_
  refine lv_iconst (v := nI 1) hx hb dX7_setBound_34 (by decide) ?_
  refine lv_iload_n hx hb dX7_setBound_35 rfl (lv_at hl 1 rfl) ?_
  refine lv_i2l (v := lN k) hx hb dX7_setBound_36 (nI_l (by omega)) ?_
  refine wv_last hx hb hK hP hD hS 1 0 rfl rfl (k := 1) (by omega) (by decide) dX7_setBound_37 (fun H locs hP hD hS => ?_)
  rw [show vp_updL (sM n b fl me st lk cm v nu) 1 (lN k) = sM n k fl me st lk cm v nu from sM_u1 _] at hP hD
  have hP : va_P D vwCl (ModC mo sa pa ha ta cJ cI (sM n k fl me st lk cm v nu) (svP ru pt ps (sM n b fl me st lk cm v nu)) hd tx (svN ru ps) ru ty 0 lks lo1 hi1 sp cd pl gv) H := hP
  have hD : va_D _ (ModC mo sa pa ha ta cJ cI (sM n k fl me st lk cm v nu) (svP ru pt ps (sM n b fl me st lk cm v nu)) hd tx (svN ru ps) ru ty 0 lks lo1 hi1 sp cd pl gv) := hD
  refine lv_aload_n hx hb dX7_setBound_38 rfl (lv_at hl 0 rfl) ?_
  refine lv_aload_n hx hb dX7_setBound_39 rfl (lv_at hl 0 rfl) ?_
  refine wv_callPi (As := []) (rest := [.ref mo]) ⟨hx, hb, hml, hown, hts⟩ (kX7_brokenOnes l D mo sa pa ha ta cJ cI n k fl me st lk cm v nu (svP ru pt ps (sM n b fl me st lk cm v nu)) hd tx (svN ru ps) ru ty 0 lks lo1 hi1 sp cd pl gv (by first | assumption | omega) (by first | assumption | omega)) (cwV 0 hts gX7_setBound_X7_brokenOnes rfl rfl rfl (by decide +kernel) ⟨Nat.le_of_ble_eq_true rfl, Nat.le_of_ble_eq_true rfl⟩) hK hN hP hS hA [0, 1, 2, 3, 4] [0, 1] rfl rfl 0 5 rfl rfl rfl rfl hl.1 rfl (Nat.le_of_ble_eq_true rfl) dX7_setBound_40 ⟨Nat.zero_le _, Nat.zero_le _⟩ (fun H locs hz9 hP hS => ?_)
  refine wv_callMi (As := [.int (nI (cnt (brk fl v n k) n))]) (rest := []) (wr := []) (ws1 := ModC mo sa pa ha ta cJ cI (sM n k fl me (st + (lN (eL me fl n k v).length)) lk cm (sws v (eL me fl n k v)) (sws nu (eL me fl n k v))) (svP ru pt ps (sM n b fl me st lk cm v nu)) hd tx (svN ru ps) ru ty 0 lks lo1 hi1 sp cd pl gv) ⟨hx, hb, hml, hown, hts⟩ (kX7_ends l D mo sa pa ha ta cJ cI n k fl me st lk cm v nu (svP ru pt ps (sM n b fl me st lk cm v nu)) hd tx (svN ru ps) ru ty 0 lks lo1 hi1 sp cd pl gv (nI (cnt (brk fl v n k) n)) (by first | assumption | omega) (by first | assumption | omega)) (cwV 1 hts gX7_setBound_X7_ends rfl rfl rfl (by decide +kernel) ⟨Nat.le_of_ble_eq_true rfl, Nat.le_of_ble_eq_true rfl⟩) hK hN hP hD hS hA [0, 1, 2, 3, 4] [] [0, 1] [0, 1, 2, 3, 4] rfl rfl (by decide) rfl (by decide) (by decide) rfl (by decide) rfl 0 5 rfl rfl rfl rfl hl.1 rfl (Nat.le_of_ble_eq_true rfl) dX7_setBound_43 ⟨Nat.zero_le _, Nat.zero_le _⟩ (fun H locs hz9 hP hD hS => ?_)
  exact wv_iretM hx hb hr hlocks hP hD hS rfl rfl dX7_setBound_46

set_option maxHeartbeats 4000000 in
set_option maxRecDepth 100000 in
theorem kX7_setOrder (l : Launch) (D : va_G) (mo : Nat) (sa : Nat) (pa : Nat) (ha : Nat) (ta : Nat) (cJ : ClassId) (cI : ClassId) (n : Nat) (b : Nat) (fl : Bool) (me : Bool) (st : Int64) (lk : Int64) (cm : Int64) (v : Nat → Int64) (nu : Nat → Int64) (pt : Nat → Int64) (hd : Nat → Int64) (tx : Nat → Int32) (ps : Nat) (ru : Bool) (ty : Nat) (rf : Nat) (lks : Nat) (lo1 : Int32) (hi1 : Int32) (sp : Nat) (cd : Int32) (pl : Int32) (gv : Int64) (f : Bool) (hn : n ≤ 32) (hb : b ≤ 31) (hps : ps ≤ 4) : MMi l yX7_setOrder wsX7_setOrder ({ frames := 7, cells := 0, slots := 0, locals := 156 } : Room) [.ref mo, .int (bI f)] D (ModC mo sa pa ha ta cJ cI (sM n b fl me st lk cm v nu) pt hd tx ps ru ty rf lks lo1 hi1 sp cd pl gv) [(cJ, .long), (cI, .int)] (nI (ivs f v n)) (ModC mo sa pa ha ta cJ cI (sM n b f me (st + (lN (eL me f n b v).length)) lk cm (sws v (eL me f n b v)) (sws nu (eL me f n b v))) (svP ru pt ps (sM n b fl me st lk cm v nu)) hd tx (svN ru ps) ru ty 0 lks lo1 hi1 sp cd pl gv) := by
  refine MMi_of (cc := cX7_setOrder) (maxL := 2) (ret := some .int) (by decide +kernel) rfl (Nat.le_of_ble_eq_true rfl) ?_
  intro p e s m args below meth c hx hb hr hts hown hlocks hml hP hK hN hD ls hl
  have hown : s.vm.findClass RX7 = some m.cls := hown
  have hl : lv_has ls 2 [(0, .ref mo), (1, .int (bI f))] := hl
  have hS : va_S (va_A (ModC mo sa pa ha ta cJ cI (sM n b fl me st lk cm v nu) pt hd tx ps ru ty rf lks lo1 hi1 sp cd pl gv) s.heap.size) s.heap s.heap [] := va_S.rf
  have hA := wk_hA (ModC mo sa pa ha ta cJ cI (sM n b fl me st lk cm v nu) pt hd tx ps ru ty rf lks lo1 hi1 sp cd pl gv) s.heap.size
  have hD9 : True := trivial
  have hinX7 : ∀ w ∈ wsX70, w ∈ wsX7_setOrder := by decide +kernel
  refine lv_aload_n hx hb dX7_setOrder_0 rfl (lv_at hl 0 rfl) ?_
  refine lv_iconst (v := nI 0) hx hb dX7_setOrder_1 (by decide) ?_
  refine va_put (D := D) (ci := 5) (v := .int (nI 0)) (ty := .int) (C := RX7) (T := TX7) (N := 15) hx hb hts hinX7 tyX7 tyX7_ok nmX7 hown hK hP hD hS 0 rfl rfl 7 (by decide) (hts (.fieldLink RX7 25 "NearRanksModel" "refused" "I") (by decide +kernel)) (fun _ h9 => h9) rfl (by decide +kernel) rfl rfl (Nat.le_of_ble_eq_true rfl) dX7_setOrder_2 (fun H locs hP hD hS => ?_)
  have hP : va_P D vwCl (ModC mo sa pa ha ta cJ cI (sM n b fl me st lk cm v nu) pt hd tx ps ru ty 0 lks lo1 hi1 sp cd pl gv) H := hP
  have hD : va_D _ (ModC mo sa pa ha ta cJ cI (sM n b fl me st lk cm v nu) pt hd tx ps ru ty 0 lks lo1 hi1 sp cd pl gv) := hD
  refine lv_aload_n hx hb dX7_setOrder_5 rfl (lv_at hl 0 rfl) ?_
  refine wv_callMv (As := []) (rest := []) (wr := []) (ws1 := ModC mo sa pa ha ta cJ cI (sM n b fl me st lk cm v nu) (svP ru pt ps (sM n b fl me st lk cm v nu)) hd tx (svN ru ps) ru ty 0 lks lo1 hi1 sp cd pl gv) ⟨hx, hb, hml, hown, hts⟩ (kX7_saves l D mo sa pa ha ta cJ cI n b fl me st lk cm v nu pt hd tx ps ru ty 0 lks lo1 hi1 sp cd pl gv (by first | assumption | omega)) (cwV 0 hts gX7_setOrder_X7_saves rfl rfl rfl (by decide +kernel) ⟨Nat.le_of_ble_eq_true rfl, Nat.le_of_ble_eq_true rfl⟩) hK hN hP hD hS hA [0, 1, 2, 3, 4] [] [0, 1] [0, 1, 2, 3, 4] rfl rfl (by decide) rfl (by decide) (by decide) rfl (by decide) rfl 0 5 rfl rfl rfl rfl hl.1 rfl (Nat.le_of_ble_eq_true rfl) dX7_setOrder_6 ⟨Nat.zero_le _, Nat.zero_le _⟩ (fun H locs hz9 hP hD hS => ?_)
  refine lv_aload_n hx hb dX7_setOrder_9 rfl (lv_at hl 0 rfl) ?_
  refine va_get (D := D) (ci := 5) (C := RX7) (T := TX7) (N := 15) hx hb hts hinX7 hown hK hP 0 rfl rfl 0 (by decide) (hts (.fieldLink RX7 7 "NearRanksModel" "s" "[J") (by decide +kernel)) (fun _ h9 => h9) rfl dX7_setOrder_10 ?_
  refine lv_iconst (v := nI 2) hx hb dX7_setOrder_13 (by decide) ?_
  refine lv_iload_n hx hb dX7_setOrder_14 rfl (lv_at hl 1 rfl) ?_
  refine wv_ifeqB (tgt := 22) hx hb dX7_setOrder_15 (by decide) (fun c15 => ?_) (fun c15 => ?_)
  · skip
    refine lv_lconst (v := lN 0) hx hb dX7_setOrder_22 rfl ?_
    refine wv_last hx hb hK hP hD hS 1 0 rfl rfl (k := 2) (by omega) (by decide) dX7_setOrder_23 (fun H locs hP hD hS => ?_)
    rw [show vp_updL (sM n b fl me st lk cm v nu) 2 (lN 0) = sM n b false me st lk cm v nu from sM_u2 false] at hP hD
    have hP : va_P D vwCl (ModC mo sa pa ha ta cJ cI (sM n b false me st lk cm v nu) (svP ru pt ps (sM n b fl me st lk cm v nu)) hd tx (svN ru ps) ru ty 0 lks lo1 hi1 sp cd pl gv) H := hP
    have hD : va_D _ (ModC mo sa pa ha ta cJ cI (sM n b false me st lk cm v nu) (svP ru pt ps (sM n b fl me st lk cm v nu)) hd tx (svN ru ps) ru ty 0 lks lo1 hi1 sp cd pl gv) := hD
    refine lv_aload_n hx hb dX7_setOrder_24 rfl (lv_at hl 0 rfl) ?_
    refine lv_aload_n hx hb dX7_setOrder_25 rfl (lv_at hl 0 rfl) ?_
    refine wv_callPi (As := []) (rest := [.ref mo]) ⟨hx, hb, hml, hown, hts⟩ (kX7_inversions l D mo sa pa ha ta cJ cI n b false me st lk cm v nu (svP ru pt ps (sM n b fl me st lk cm v nu)) hd tx (svN ru ps) ru ty 0 lks lo1 hi1 sp cd pl gv (by first | assumption | omega)) (cwV 0 hts gX7_setOrder_X7_inversions rfl rfl rfl (by decide +kernel) ⟨Nat.le_of_ble_eq_true rfl, Nat.le_of_ble_eq_true rfl⟩) hK hN hP hS hA [0, 1, 2, 3, 4] [0, 1] rfl rfl 0 5 rfl rfl rfl rfl hl.1 rfl (Nat.le_of_ble_eq_true rfl) dX7_setOrder_26 ⟨Nat.zero_le _, Nat.zero_le _⟩ (fun H locs hz9 hP hS => ?_)
    refine wv_callMi (As := [.int (nI (ivs false v n))]) (rest := []) (wr := []) (ws1 := ModC mo sa pa ha ta cJ cI (sM n b false me (st + (lN (eL me false n b v).length)) lk cm (sws v (eL me false n b v)) (sws nu (eL me false n b v))) (svP ru pt ps (sM n b fl me st lk cm v nu)) hd tx (svN ru ps) ru ty 0 lks lo1 hi1 sp cd pl gv) ⟨hx, hb, hml, hown, hts⟩ (kX7_ends l D mo sa pa ha ta cJ cI n b false me st lk cm v nu (svP ru pt ps (sM n b fl me st lk cm v nu)) hd tx (svN ru ps) ru ty 0 lks lo1 hi1 sp cd pl gv (nI (ivs false v n)) (by first | assumption | omega) (by first | assumption | omega)) (cwV 1 hts gX7_setOrder_X7_ends rfl rfl rfl (by decide +kernel) ⟨Nat.le_of_ble_eq_true rfl, Nat.le_of_ble_eq_true rfl⟩) hK hN hP hD hS hA [0, 1, 2, 3, 4] [] [0, 1] [0, 1, 2, 3, 4] rfl rfl (by decide) rfl (by decide) (by decide) rfl (by decide) rfl 0 5 rfl rfl rfl rfl hl.1 rfl (Nat.le_of_ble_eq_true rfl) dX7_setOrder_29 ⟨Nat.zero_le _, Nat.zero_le _⟩ (fun H locs hz9 hP hD hS => ?_)
    have ew0_fl : f = false := by exact c15
    have ew0_st : (st + (lN (eL me f n b v).length)) = (st + (lN (eL me false n b v).length)) := by rw [c15]
    have ew0_v : (sws v (eL me f n b v)) = (sws v (eL me false n b v)) := by rw [c15]
    have ew0_nu : (sws nu (eL me f n b v)) = (sws nu (eL me false n b v)) := by rw [c15]
    exact wv_iretM hx hb hr hlocks hP hD hS (by rw [c15]) (by rw [ew0_st, ew0_nu, ew0_v, ew0_fl]) dX7_setOrder_32
  · skip
    refine lv_lconst (v := lN 1) hx hb dX7_setOrder_18 rfl ?_
    refine lv_goto (tgt := 23) hx hb dX7_setOrder_19 (by decide) ?_
    refine wv_last hx hb hK hP hD hS 1 0 rfl rfl (k := 2) (by omega) (by decide) dX7_setOrder_23 (fun H locs hP hD hS => ?_)
    rw [show vp_updL (sM n b fl me st lk cm v nu) 2 (lN 1) = sM n b true me st lk cm v nu from sM_u2 true] at hP hD
    have hP : va_P D vwCl (ModC mo sa pa ha ta cJ cI (sM n b true me st lk cm v nu) (svP ru pt ps (sM n b fl me st lk cm v nu)) hd tx (svN ru ps) ru ty 0 lks lo1 hi1 sp cd pl gv) H := hP
    have hD : va_D _ (ModC mo sa pa ha ta cJ cI (sM n b true me st lk cm v nu) (svP ru pt ps (sM n b fl me st lk cm v nu)) hd tx (svN ru ps) ru ty 0 lks lo1 hi1 sp cd pl gv) := hD
    refine lv_aload_n hx hb dX7_setOrder_24 rfl (lv_at hl 0 rfl) ?_
    refine lv_aload_n hx hb dX7_setOrder_25 rfl (lv_at hl 0 rfl) ?_
    refine wv_callPi (As := []) (rest := [.ref mo]) ⟨hx, hb, hml, hown, hts⟩ (kX7_inversions l D mo sa pa ha ta cJ cI n b true me st lk cm v nu (svP ru pt ps (sM n b fl me st lk cm v nu)) hd tx (svN ru ps) ru ty 0 lks lo1 hi1 sp cd pl gv (by first | assumption | omega)) (cwV 0 hts gX7_setOrder_X7_inversions rfl rfl rfl (by decide +kernel) ⟨Nat.le_of_ble_eq_true rfl, Nat.le_of_ble_eq_true rfl⟩) hK hN hP hS hA [0, 1, 2, 3, 4] [0, 1] rfl rfl 0 5 rfl rfl rfl rfl hl.1 rfl (Nat.le_of_ble_eq_true rfl) dX7_setOrder_26 ⟨Nat.zero_le _, Nat.zero_le _⟩ (fun H locs hz9 hP hS => ?_)
    refine wv_callMi (As := [.int (nI (ivs true v n))]) (rest := []) (wr := []) (ws1 := ModC mo sa pa ha ta cJ cI (sM n b true me (st + (lN (eL me true n b v).length)) lk cm (sws v (eL me true n b v)) (sws nu (eL me true n b v))) (svP ru pt ps (sM n b fl me st lk cm v nu)) hd tx (svN ru ps) ru ty 0 lks lo1 hi1 sp cd pl gv) ⟨hx, hb, hml, hown, hts⟩ (kX7_ends l D mo sa pa ha ta cJ cI n b true me st lk cm v nu (svP ru pt ps (sM n b fl me st lk cm v nu)) hd tx (svN ru ps) ru ty 0 lks lo1 hi1 sp cd pl gv (nI (ivs true v n)) (by first | assumption | omega) (by first | assumption | omega)) (cwV 1 hts gX7_setOrder_X7_ends rfl rfl rfl (by decide +kernel) ⟨Nat.le_of_ble_eq_true rfl, Nat.le_of_ble_eq_true rfl⟩) hK hN hP hD hS hA [0, 1, 2, 3, 4] [] [0, 1] [0, 1, 2, 3, 4] rfl rfl (by decide) rfl (by decide) (by decide) rfl (by decide) rfl 0 5 rfl rfl rfl rfl hl.1 rfl (Nat.le_of_ble_eq_true rfl) dX7_setOrder_29 ⟨Nat.zero_le _, Nat.zero_le _⟩ (fun H locs hz9 hP hD hS => ?_)
    have ew0_fl : f = true := by exact c15
    have ew0_st : (st + (lN (eL me f n b v).length)) = (st + (lN (eL me true n b v).length)) := by rw [c15]
    have ew0_v : (sws v (eL me f n b v)) = (sws v (eL me true n b v)) := by rw [c15]
    have ew0_nu : (sws nu (eL me f n b v)) = (sws nu (eL me true n b v)) := by rw [c15]
    exact wv_iretM hx hb hr hlocks hP hD hS (by rw [c15]) (by rw [ew0_st, ew0_nu, ew0_v, ew0_fl]) dX7_setOrder_32

set_option maxHeartbeats 4000000 in
set_option maxRecDepth 100000 in
theorem kX7_setSelf (l : Launch) (D : va_G) (mo : Nat) (sa : Nat) (pa : Nat) (ha : Nat) (ta : Nat) (cJ : ClassId) (cI : ClassId) (n : Nat) (b : Nat) (fl : Bool) (me : Bool) (st : Int64) (lk : Int64) (cm : Int64) (v : Nat → Int64) (nu : Nat → Int64) (pt : Nat → Int64) (hd : Nat → Int64) (tx : Nat → Int32) (ps : Nat) (ru : Bool) (ty : Nat) (rf : Nat) (lks : Nat) (lo1 : Int32) (hi1 : Int32) (sp : Nat) (cd : Int32) (pl : Int32) (gv : Int64) (f : Bool) (hn : n ≤ 32) (hb : b ≤ 31) (hps : ps ≤ 4) : MMi l yX7_setSelf wsX7_setSelf ({ frames := 6, cells := 0, slots := 0, locals := 134 } : Room) [.ref mo, .int (bI f)] D (ModC mo sa pa ha ta cJ cI (sM n b fl me st lk cm v nu) pt hd tx ps ru ty rf lks lo1 hi1 sp cd pl gv) [(cJ, .long), (cI, .int)] (nI ((eL f fl n b v).length)) (ModC mo sa pa ha ta cJ cI (sM n b fl f (st + (lN (eL f fl n b v).length)) lk cm (sws v (eL f fl n b v)) (sws nu (eL f fl n b v))) (svP ru pt ps (sM n b fl me st lk cm v nu)) hd tx (svN ru ps) ru ty 0 lks lo1 hi1 sp cd pl gv) := by
  refine MMi_of (cc := cX7_setSelf) (maxL := 2) (ret := some .int) (by decide +kernel) rfl (Nat.le_of_ble_eq_true rfl) ?_
  intro p e s m args below meth c hx hb hr hts hown hlocks hml hP hK hN hD ls hl
  have hown : s.vm.findClass RX7 = some m.cls := hown
  have hl : lv_has ls 2 [(0, .ref mo), (1, .int (bI f))] := hl
  have hS : va_S (va_A (ModC mo sa pa ha ta cJ cI (sM n b fl me st lk cm v nu) pt hd tx ps ru ty rf lks lo1 hi1 sp cd pl gv) s.heap.size) s.heap s.heap [] := va_S.rf
  have hA := wk_hA (ModC mo sa pa ha ta cJ cI (sM n b fl me st lk cm v nu) pt hd tx ps ru ty rf lks lo1 hi1 sp cd pl gv) s.heap.size
  have hD9 : True := trivial
  have hinX7 : ∀ w ∈ wsX70, w ∈ wsX7_setSelf := by decide +kernel
  refine lv_aload_n hx hb dX7_setSelf_0 rfl (lv_at hl 0 rfl) ?_
  refine lv_iconst (v := nI 0) hx hb dX7_setSelf_1 (by decide) ?_
  refine va_put (D := D) (ci := 5) (v := .int (nI 0)) (ty := .int) (C := RX7) (T := TX7) (N := 15) hx hb hts hinX7 tyX7 tyX7_ok nmX7 hown hK hP hD hS 0 rfl rfl 7 (by decide) (hts (.fieldLink RX7 25 "NearRanksModel" "refused" "I") (by decide +kernel)) (fun _ h9 => h9) rfl (by decide +kernel) rfl rfl (Nat.le_of_ble_eq_true rfl) dX7_setSelf_2 (fun H locs hP hD hS => ?_)
  have hP : va_P D vwCl (ModC mo sa pa ha ta cJ cI (sM n b fl me st lk cm v nu) pt hd tx ps ru ty 0 lks lo1 hi1 sp cd pl gv) H := hP
  have hD : va_D _ (ModC mo sa pa ha ta cJ cI (sM n b fl me st lk cm v nu) pt hd tx ps ru ty 0 lks lo1 hi1 sp cd pl gv) := hD
  refine lv_aload_n hx hb dX7_setSelf_5 rfl (lv_at hl 0 rfl) ?_
  refine wv_callMv (As := []) (rest := []) (wr := []) (ws1 := ModC mo sa pa ha ta cJ cI (sM n b fl me st lk cm v nu) (svP ru pt ps (sM n b fl me st lk cm v nu)) hd tx (svN ru ps) ru ty 0 lks lo1 hi1 sp cd pl gv) ⟨hx, hb, hml, hown, hts⟩ (kX7_saves l D mo sa pa ha ta cJ cI n b fl me st lk cm v nu pt hd tx ps ru ty 0 lks lo1 hi1 sp cd pl gv (by first | assumption | omega)) (cwV 0 hts gX7_setSelf_X7_saves rfl rfl rfl (by decide +kernel) ⟨Nat.le_of_ble_eq_true rfl, Nat.le_of_ble_eq_true rfl⟩) hK hN hP hD hS hA [0, 1, 2, 3, 4] [] [0, 1] [0, 1, 2, 3, 4] rfl rfl (by decide) rfl (by decide) (by decide) rfl (by decide) rfl 0 5 rfl rfl rfl rfl hl.1 rfl (Nat.le_of_ble_eq_true rfl) dX7_setSelf_6 ⟨Nat.zero_le _, Nat.zero_le _⟩ (fun H locs hz9 hP hD hS => ?_)
  refine lv_aload_n hx hb dX7_setSelf_9 rfl (lv_at hl 0 rfl) ?_
  refine va_get (D := D) (ci := 5) (C := RX7) (T := TX7) (N := 15) hx hb hts hinX7 hown hK hP 0 rfl rfl 0 (by decide) (hts (.fieldLink RX7 7 "NearRanksModel" "s" "[J") (by decide +kernel)) (fun _ h9 => h9) rfl dX7_setSelf_10 ?_
  refine lv_iconst (v := nI 3) hx hb dX7_setSelf_13 (by decide) ?_
  refine lv_iload_n hx hb dX7_setSelf_14 rfl (lv_at hl 1 rfl) ?_
  refine wv_ifeqB (tgt := 22) hx hb dX7_setSelf_15 (by decide) (fun c15 => ?_) (fun c15 => ?_)
  · skip
    refine lv_lconst (v := lN 0) hx hb dX7_setSelf_22 rfl ?_
    refine wv_last hx hb hK hP hD hS 1 0 rfl rfl (k := 3) (by omega) (by decide) dX7_setSelf_23 (fun H locs hP hD hS => ?_)
    rw [show vp_updL (sM n b fl me st lk cm v nu) 3 (lN 0) = sM n b fl false st lk cm v nu from sM_u3 false] at hP hD
    have hP : va_P D vwCl (ModC mo sa pa ha ta cJ cI (sM n b fl false st lk cm v nu) (svP ru pt ps (sM n b fl me st lk cm v nu)) hd tx (svN ru ps) ru ty 0 lks lo1 hi1 sp cd pl gv) H := hP
    have hD : va_D _ (ModC mo sa pa ha ta cJ cI (sM n b fl false st lk cm v nu) (svP ru pt ps (sM n b fl me st lk cm v nu)) hd tx (svN ru ps) ru ty 0 lks lo1 hi1 sp cd pl gv) := hD
    refine lv_iload_n hx hb dX7_setSelf_24 rfl (lv_at hl 1 rfl) ?_
    refine wv_ifeqB (tgt := 35) hx hb dX7_setSelf_25 (by decide) (fun c25 => ?_) (fun c25 => by exfalso; rw [c15] at c25; cases c25)
    refine lv_iconst (v := nI 0) hx hb dX7_setSelf_35 (by decide) ?_
    have ew0_me : f = false := by exact c15
    have ew0_st : (st + (lN (eL f fl n b v).length)) = st := by first | (rw [c15]; rfl) | (rw [c15]; exact (Int64.add_zero st))
    have ew0_v : (sws v (eL f fl n b v)) = v := by rw [c15]; rfl
    have ew0_nu : (sws nu (eL f fl n b v)) = nu := by rw [c15]; rfl
    exact wv_iretM hx hb hr hlocks hP hD hS (by rw [c15]; rfl) (by rw [ew0_st, ew0_nu, ew0_v, ew0_me]) dX7_setSelf_36
  · skip
    refine lv_lconst (v := lN 1) hx hb dX7_setSelf_18 rfl ?_
    refine lv_goto (tgt := 23) hx hb dX7_setSelf_19 (by decide) ?_
    refine wv_last hx hb hK hP hD hS 1 0 rfl rfl (k := 3) (by omega) (by decide) dX7_setSelf_23 (fun H locs hP hD hS => ?_)
    rw [show vp_updL (sM n b fl me st lk cm v nu) 3 (lN 1) = sM n b fl true st lk cm v nu from sM_u3 true] at hP hD
    have hP : va_P D vwCl (ModC mo sa pa ha ta cJ cI (sM n b fl true st lk cm v nu) (svP ru pt ps (sM n b fl me st lk cm v nu)) hd tx (svN ru ps) ru ty 0 lks lo1 hi1 sp cd pl gv) H := hP
    have hD : va_D _ (ModC mo sa pa ha ta cJ cI (sM n b fl true st lk cm v nu) (svP ru pt ps (sM n b fl me st lk cm v nu)) hd tx (svN ru ps) ru ty 0 lks lo1 hi1 sp cd pl gv) := hD
    refine lv_iload_n hx hb dX7_setSelf_24 rfl (lv_at hl 1 rfl) ?_
    refine wv_ifeqB (tgt := 35) hx hb dX7_setSelf_25 (by decide) (fun c25 => by exfalso; rw [c15] at c25; cases c25) (fun c25 => ?_)
    refine lv_aload_n hx hb dX7_setSelf_28 rfl (lv_at hl 0 rfl) ?_
    refine wv_callMi (As := []) (rest := []) (wr := []) (ws1 := ModC mo sa pa ha ta cJ cI (sM n b fl true (st + (lN (mL fl n b 1000 v).length)) lk cm (sws v (mL fl n b 1000 v)) (sws nu (mL fl n b 1000 v))) (svP ru pt ps (sM n b fl me st lk cm v nu)) hd tx (svN ru ps) ru ty 0 lks lo1 hi1 sp cd pl gv) ⟨hx, hb, hml, hown, hts⟩ (kX7_mends l D mo sa pa ha ta cJ cI n b fl true st lk cm v nu (svP ru pt ps (sM n b fl me st lk cm v nu)) hd tx (svN ru ps) ru ty 0 lks lo1 hi1 sp cd pl gv (by first | assumption | omega) (by first | assumption | omega)) (cwV 0 hts gX7_setSelf_X7_mends rfl rfl rfl (by decide +kernel) ⟨Nat.le_of_ble_eq_true rfl, Nat.le_of_ble_eq_true rfl⟩) hK hN hP hD hS hA [0, 1, 2, 3, 4] [] [0, 1] [0, 1, 2, 3, 4] rfl rfl (by decide) rfl (by decide) (by decide) rfl (by decide) rfl 0 5 rfl rfl rfl rfl hl.1 rfl (Nat.le_of_ble_eq_true rfl) dX7_setSelf_29 ⟨Nat.zero_le _, Nat.zero_le _⟩ (fun H locs hz9 hP hD hS => ?_)
    refine lv_goto (tgt := 36) hx hb dX7_setSelf_32 (by decide) ?_
    have ew0_me : f = true := by exact c15
    have ew0_st : (st + (lN (eL f fl n b v).length)) = (st + (lN (mL fl n b 1000 v).length)) := by first | (rw [c15]; rfl) | (rw [c15]; exact (Int64.add_zero st))
    have ew0_v : (sws v (eL f fl n b v)) = (sws v (mL fl n b 1000 v)) := by rw [c15]; rfl
    have ew0_nu : (sws nu (eL f fl n b v)) = (sws nu (mL fl n b 1000 v)) := by rw [c15]; rfl
    exact wv_iretM hx hb hr hlocks hP hD hS (by rw [c15]; rfl) (by rw [ew0_st, ew0_nu, ew0_v, ew0_me]) dX7_setSelf_36

set_option maxHeartbeats 4000000 in
set_option maxRecDepth 100000 in
theorem kX7_step (l : Launch) (D : va_G) (mo : Nat) (sa : Nat) (pa : Nat) (ha : Nat) (ta : Nat) (cJ : ClassId) (cI : ClassId) (n : Nat) (b : Nat) (fl : Bool) (me : Bool) (st : Int64) (lk : Int64) (cm : Int64) (v : Nat → Int64) (nu : Nat → Int64) (pt : Nat → Int64) (hd : Nat → Int64) (tx : Nat → Int32) (ps : Nat) (ru : Bool) (ty : Nat) (rf : Nat) (lks : Nat) (lo1 : Int32) (hi1 : Int32) (sp : Nat) (cd : Int32) (pl : Int32) (gv : Int64) (hn : n ≤ 32) (hb : b ≤ 31) (hps : ps ≤ 4) : MMi l yX7_step wsX7_step ({ frames := 5, cells := 0, slots := 0, locals := 113 } : Room) [.ref mo] D (ModC mo sa pa ha ta cJ cI (sM n b fl me st lk cm v nu) pt hd tx ps ru ty rf lks lo1 hi1 sp cd pl gv) [(cJ, .long), (cI, .int)] (oI (mq fl n b v)) (ModC mo sa pa ha ta cJ cI (sM n b fl me (st + (lN (oln (mq fl n b v)))) lk cm (swo (mq fl n b v) v) (swo (mq fl n b v) nu)) (svP ru pt ps (sM n b fl me st lk cm v nu)) hd tx (svN ru ps) ru ty 0 lks lo1 hi1 sp cd pl gv) := by
  refine MMi_of (cc := cX7_step) (maxL := 1) (ret := some .int) (by decide +kernel) rfl (Nat.le_of_ble_eq_true rfl) ?_
  intro p e s m args below meth c hx hb hr hts hown hlocks hml hP hK hN hD ls hl
  have hown : s.vm.findClass RX7 = some m.cls := hown
  have hl : lv_has ls 1 [(0, .ref mo)] := hl
  have hS : va_S (va_A (ModC mo sa pa ha ta cJ cI (sM n b fl me st lk cm v nu) pt hd tx ps ru ty rf lks lo1 hi1 sp cd pl gv) s.heap.size) s.heap s.heap [] := va_S.rf
  have hA := wk_hA (ModC mo sa pa ha ta cJ cI (sM n b fl me st lk cm v nu) pt hd tx ps ru ty rf lks lo1 hi1 sp cd pl gv) s.heap.size
  have hD9 : True := trivial
  have hinX7 : ∀ w ∈ wsX70, w ∈ wsX7_step := by decide +kernel
  refine lv_aload_n hx hb dX7_step_0 rfl (lv_at hl 0 rfl) ?_
  refine lv_iconst (v := nI 0) hx hb dX7_step_1 (by decide) ?_
  refine va_put (D := D) (ci := 5) (v := .int (nI 0)) (ty := .int) (C := RX7) (T := TX7) (N := 15) hx hb hts hinX7 tyX7 tyX7_ok nmX7 hown hK hP hD hS 0 rfl rfl 7 (by decide) (hts (.fieldLink RX7 25 "NearRanksModel" "refused" "I") (by decide +kernel)) (fun _ h9 => h9) rfl (by decide +kernel) rfl rfl (Nat.le_of_ble_eq_true rfl) dX7_step_2 (fun H locs hP hD hS => ?_)
  have hP : va_P D vwCl (ModC mo sa pa ha ta cJ cI (sM n b fl me st lk cm v nu) pt hd tx ps ru ty 0 lks lo1 hi1 sp cd pl gv) H := hP
  have hD : va_D _ (ModC mo sa pa ha ta cJ cI (sM n b fl me st lk cm v nu) pt hd tx ps ru ty 0 lks lo1 hi1 sp cd pl gv) := hD
  refine lv_aload_n hx hb dX7_step_5 rfl (lv_at hl 0 rfl) ?_
  refine wv_callMv (As := []) (rest := []) (wr := []) (ws1 := ModC mo sa pa ha ta cJ cI (sM n b fl me st lk cm v nu) (svP ru pt ps (sM n b fl me st lk cm v nu)) hd tx (svN ru ps) ru ty 0 lks lo1 hi1 sp cd pl gv) ⟨hx, hb, hml, hown, hts⟩ (kX7_saves l D mo sa pa ha ta cJ cI n b fl me st lk cm v nu pt hd tx ps ru ty 0 lks lo1 hi1 sp cd pl gv (by first | assumption | omega)) (cwV 0 hts gX7_step_X7_saves rfl rfl rfl (by decide +kernel) ⟨Nat.le_of_ble_eq_true rfl, Nat.le_of_ble_eq_true rfl⟩) hK hN hP hD hS hA [0, 1, 2, 3, 4] [] [0, 1] [0, 1, 2, 3, 4] rfl rfl (by decide) rfl (by decide) (by decide) rfl (by decide) rfl 0 5 rfl rfl rfl rfl hl.1 rfl (Nat.le_of_ble_eq_true rfl) dX7_step_6 ⟨Nat.zero_le _, Nat.zero_le _⟩ (fun H locs hz9 hP hD hS => ?_)
  refine lv_aload_n hx hb dX7_step_9 rfl (lv_at hl 0 rfl) ?_
  rcases opt_or (mq fl n b v) with hm | ⟨q, hm⟩
  · skip
    have hw := mq_no hm
    refine wv_callPi (As := []) (rest := []) ⟨hx, hb, hml, hown, hts⟩ (kX7_steps_no l D mo sa pa ha ta cJ cI n b fl me st lk cm v nu (svP ru pt ps (sM n b fl me st lk cm v nu)) hd tx (svN ru ps) ru ty 0 lks lo1 hi1 sp cd pl gv (by first | assumption | omega) (by first | assumption | omega) (by first | assumption | omega)) (cwV 0 hts gX7_step_X7_steps rfl rfl rfl (by decide +kernel) ⟨Nat.le_of_ble_eq_true rfl, Nat.le_of_ble_eq_true rfl⟩) hK hN hP hS hA [0, 1, 2, 3, 4] [0, 1] rfl rfl 0 5 rfl rfl rfl rfl hl.1 rfl (Nat.le_of_ble_eq_true rfl) dX7_step_10 ⟨Nat.zero_le _, Nat.zero_le _⟩ (fun H locs hz9 hP hS => ?_)
    have ew0_st : (st + (lN (oln (mq fl n b v)))) = st := by first | (rw [hm]; rfl) | (rw [hm]; exact (Int64.add_zero st))
    have ew0_v : (swo (mq fl n b v) v) = v := by rw [hm]; rfl
    have ew0_nu : (swo (mq fl n b v) nu) = nu := by rw [hm]; rfl
    exact wv_iretM hx hb hr hlocks hP hD hS (by rw [hm]; rfl) (by rw [ew0_st, ew0_nu, ew0_v]) dX7_step_13
  · skip
    obtain ⟨k, hw, hq⟩ := mq_so hm
    refine wv_callMi (As := []) (rest := []) (wr := []) (ws1 := ModC mo sa pa ha ta cJ cI (sM n b fl me (st + (lN 1)) lk cm (swa v q) (swa nu q)) (svP ru pt ps (sM n b fl me st lk cm v nu)) hd tx (svN ru ps) ru ty 0 lks lo1 hi1 sp cd pl gv) ⟨hx, hb, hml, hown, hts⟩ (kX7_steps_ok l D mo sa pa ha ta cJ cI n b fl me st lk cm v nu (svP ru pt ps (sM n b fl me st lk cm v nu)) hd tx (svN ru ps) ru ty 0 lks lo1 hi1 sp cd pl gv k q (by first | assumption | omega) (by first | assumption | omega) (by first | assumption | omega) (by first | assumption | omega)) (cwV 0 hts gX7_step_X7_steps rfl rfl rfl (by decide +kernel) ⟨Nat.le_of_ble_eq_true rfl, Nat.le_of_ble_eq_true rfl⟩) hK hN hP hD hS hA [0, 1, 2, 3, 4] [] [0, 1] [0, 1, 2, 3, 4] rfl rfl (by decide) rfl (by decide) (by decide) rfl (by decide) rfl 0 5 rfl rfl rfl rfl hl.1 rfl (Nat.le_of_ble_eq_true rfl) dX7_step_10 ⟨Nat.zero_le _, Nat.zero_le _⟩ (fun H locs hz9 hP hD hS => ?_)
    have ew0_st : (st + (lN (oln (mq fl n b v)))) = (st + (lN 1)) := by first | (rw [hm]; rfl) | (rw [hm]; exact (Int64.add_zero st))
    have ew0_v : (swo (mq fl n b v) v) = (swa v q) := by rw [hm]; rfl
    have ew0_nu : (swo (mq fl n b v) nu) = (swa nu q) := by rw [hm]; rfl
    exact wv_iretM hx hb hr hlocks hP hD hS (by rw [hm]; rfl) (by rw [ew0_st, ew0_nu, ew0_v]) dX7_step_13

set_option maxHeartbeats 4000000 in
set_option maxRecDepth 100000 in
theorem kX7_mend (l : Launch) (D : va_G) (mo : Nat) (sa : Nat) (pa : Nat) (ha : Nat) (ta : Nat) (cJ : ClassId) (cI : ClassId) (n : Nat) (b : Nat) (fl : Bool) (me : Bool) (st : Int64) (lk : Int64) (cm : Int64) (v : Nat → Int64) (nu : Nat → Int64) (pt : Nat → Int64) (hd : Nat → Int64) (tx : Nat → Int32) (ps : Nat) (ru : Bool) (ty : Nat) (rf : Nat) (lks : Nat) (lo1 : Int32) (hi1 : Int32) (sp : Nat) (cd : Int32) (pl : Int32) (gv : Int64) (hn : n ≤ 32) (hb : b ≤ 31) (hps : ps ≤ 4) : MMi l yX7_mend wsX7_mend ({ frames := 6, cells := 0, slots := 0, locals := 134 } : Room) [.ref mo] D (ModC mo sa pa ha ta cJ cI (sM n b fl me st lk cm v nu) pt hd tx ps ru ty rf lks lo1 hi1 sp cd pl gv) [(cJ, .long), (cI, .int)] (nI ((mL fl n b 1000 v).length)) (ModC mo sa pa ha ta cJ cI (sM n b fl me (st + (lN (mL fl n b 1000 v).length)) lk cm (sws v (mL fl n b 1000 v)) (sws nu (mL fl n b 1000 v))) (svP ru pt ps (sM n b fl me st lk cm v nu)) hd tx (svN ru ps) ru ty 0 lks lo1 hi1 sp cd pl gv) := by
  refine MMi_of (cc := cX7_mend) (maxL := 1) (ret := some .int) (by decide +kernel) rfl (Nat.le_of_ble_eq_true rfl) ?_
  intro p e s m args below meth c hx hb hr hts hown hlocks hml hP hK hN hD ls hl
  have hown : s.vm.findClass RX7 = some m.cls := hown
  have hl : lv_has ls 1 [(0, .ref mo)] := hl
  have hS : va_S (va_A (ModC mo sa pa ha ta cJ cI (sM n b fl me st lk cm v nu) pt hd tx ps ru ty rf lks lo1 hi1 sp cd pl gv) s.heap.size) s.heap s.heap [] := va_S.rf
  have hA := wk_hA (ModC mo sa pa ha ta cJ cI (sM n b fl me st lk cm v nu) pt hd tx ps ru ty rf lks lo1 hi1 sp cd pl gv) s.heap.size
  have hD9 : True := trivial
  have hinX7 : ∀ w ∈ wsX70, w ∈ wsX7_mend := by decide +kernel
  refine lv_aload_n hx hb dX7_mend_0 rfl (lv_at hl 0 rfl) ?_
  refine lv_iconst (v := nI 0) hx hb dX7_mend_1 (by decide) ?_
  refine va_put (D := D) (ci := 5) (v := .int (nI 0)) (ty := .int) (C := RX7) (T := TX7) (N := 15) hx hb hts hinX7 tyX7 tyX7_ok nmX7 hown hK hP hD hS 0 rfl rfl 7 (by decide) (hts (.fieldLink RX7 25 "NearRanksModel" "refused" "I") (by decide +kernel)) (fun _ h9 => h9) rfl (by decide +kernel) rfl rfl (Nat.le_of_ble_eq_true rfl) dX7_mend_2 (fun H locs hP hD hS => ?_)
  have hP : va_P D vwCl (ModC mo sa pa ha ta cJ cI (sM n b fl me st lk cm v nu) pt hd tx ps ru ty 0 lks lo1 hi1 sp cd pl gv) H := hP
  have hD : va_D _ (ModC mo sa pa ha ta cJ cI (sM n b fl me st lk cm v nu) pt hd tx ps ru ty 0 lks lo1 hi1 sp cd pl gv) := hD
  refine lv_aload_n hx hb dX7_mend_5 rfl (lv_at hl 0 rfl) ?_
  refine wv_callMv (As := []) (rest := []) (wr := []) (ws1 := ModC mo sa pa ha ta cJ cI (sM n b fl me st lk cm v nu) (svP ru pt ps (sM n b fl me st lk cm v nu)) hd tx (svN ru ps) ru ty 0 lks lo1 hi1 sp cd pl gv) ⟨hx, hb, hml, hown, hts⟩ (kX7_saves l D mo sa pa ha ta cJ cI n b fl me st lk cm v nu pt hd tx ps ru ty 0 lks lo1 hi1 sp cd pl gv (by first | assumption | omega)) (cwV 0 hts gX7_mend_X7_saves rfl rfl rfl (by decide +kernel) ⟨Nat.le_of_ble_eq_true rfl, Nat.le_of_ble_eq_true rfl⟩) hK hN hP hD hS hA [0, 1, 2, 3, 4] [] [0, 1] [0, 1, 2, 3, 4] rfl rfl (by decide) rfl (by decide) (by decide) rfl (by decide) rfl 0 5 rfl rfl rfl rfl hl.1 rfl (Nat.le_of_ble_eq_true rfl) dX7_mend_6 ⟨Nat.zero_le _, Nat.zero_le _⟩ (fun H locs hz9 hP hD hS => ?_)
  refine lv_aload_n hx hb dX7_mend_9 rfl (lv_at hl 0 rfl) ?_
  refine wv_callMi (As := []) (rest := []) (wr := []) (ws1 := ModC mo sa pa ha ta cJ cI (sM n b fl me (st + (lN (mL fl n b 1000 v).length)) lk cm (sws v (mL fl n b 1000 v)) (sws nu (mL fl n b 1000 v))) (svP ru pt ps (sM n b fl me st lk cm v nu)) hd tx (svN ru ps) ru ty 0 lks lo1 hi1 sp cd pl gv) ⟨hx, hb, hml, hown, hts⟩ (kX7_mends l D mo sa pa ha ta cJ cI n b fl me st lk cm v nu (svP ru pt ps (sM n b fl me st lk cm v nu)) hd tx (svN ru ps) ru ty 0 lks lo1 hi1 sp cd pl gv (by first | assumption | omega) (by first | assumption | omega)) (cwV 0 hts gX7_mend_X7_mends rfl rfl rfl (by decide +kernel) ⟨Nat.le_of_ble_eq_true rfl, Nat.le_of_ble_eq_true rfl⟩) hK hN hP hD hS hA [0, 1, 2, 3, 4] [] [0, 1] [0, 1, 2, 3, 4] rfl rfl (by decide) rfl (by decide) (by decide) rfl (by decide) rfl 0 5 rfl rfl rfl rfl hl.1 rfl (Nat.le_of_ble_eq_true rfl) dX7_mend_10 ⟨Nat.zero_le _, Nat.zero_le _⟩ (fun H locs hz9 hP hD hS => ?_)
  exact wv_iretM hx hb hr hlocks hP hD hS rfl rfl dX7_mend_13

set_option maxHeartbeats 4000000 in
set_option maxRecDepth 100000 in
theorem kX7_search (l : Launch) (D : va_G) (mo : Nat) (sa : Nat) (pa : Nat) (ha : Nat) (ta : Nat) (cJ : ClassId) (cI : ClassId) (n : Nat) (b : Nat) (fl : Bool) (me : Bool) (st : Int64) (lk : Int64) (cm : Int64) (v : Nat → Int64) (nu : Nat → Int64) (pt : Nat → Int64) (hd : Nat → Int64) (tx : Nat → Int32) (ps : Nat) (ru : Bool) (ty : Nat) (rf : Nat) (lks : Nat) (lo1 : Int32) (hi1 : Int32) (sp : Nat) (cd : Int32) (pl : Int32) (gv : Int64) (x : Int64) (hn : n ≤ 32) (hb : b ≤ 31) (hps : ps ≤ 4) : MMi l yX7_search wsX7_search ({ frames := 2, cells := 0, slots := 0, locals := 50 } : Room) [.ref mo, .long x] D (ModC mo sa pa ha ta cJ cI (sM n b fl me st lk cm v nu) pt hd tx ps ru ty rf lks lo1 hi1 sp cd pl gv) [(cJ, .long), (cI, .int)] (oI (sr1 fl v n b x)) (ModC mo sa pa ha ta cJ cI (sM n b fl me st (lk + (lN (sr2 fl v n b x))) cm v nu) (svP ru pt ps (sM n b fl me st lk cm v nu)) hd tx (svN ru ps) ru ty 0 (sr2 fl v n b x) (sr3 fl v n b x) (sr4 fl v n b x) sp cd pl gv) := by
  refine MMi_of (cc := cX7_search) (maxL := 4) (ret := some .int) (by decide +kernel) rfl (Nat.le_of_ble_eq_true rfl) ?_
  intro p e s m args below meth c hx hb hr hts hown hlocks hml hP hK hN hD ls hl
  have hown : s.vm.findClass RX7 = some m.cls := hown
  have hl : lv_has ls 4 [(0, .ref mo), (1, .long x)] := hl
  have hS : va_S (va_A (ModC mo sa pa ha ta cJ cI (sM n b fl me st lk cm v nu) pt hd tx ps ru ty rf lks lo1 hi1 sp cd pl gv) s.heap.size) s.heap s.heap [] := va_S.rf
  have hA := wk_hA (ModC mo sa pa ha ta cJ cI (sM n b fl me st lk cm v nu) pt hd tx ps ru ty rf lks lo1 hi1 sp cd pl gv) s.heap.size
  have hD9 : True := trivial
  have hinX7 : ∀ w ∈ wsX70, w ∈ wsX7_search := by decide +kernel
  have hs2 := sr2_le fl v (n := n) b x hn
  refine lv_aload_n hx hb dX7_search_0 rfl (lv_at hl 0 rfl) ?_
  refine lv_iconst (v := nI 0) hx hb dX7_search_1 (by decide) ?_
  refine va_put (D := D) (ci := 5) (v := .int (nI 0)) (ty := .int) (C := RX7) (T := TX7) (N := 15) hx hb hts hinX7 tyX7 tyX7_ok nmX7 hown hK hP hD hS 0 rfl rfl 7 (by decide) (hts (.fieldLink RX7 25 "NearRanksModel" "refused" "I") (by decide +kernel)) (fun _ h9 => h9) rfl (by decide +kernel) rfl rfl (Nat.le_of_ble_eq_true rfl) dX7_search_2 (fun H locs hP hD hS => ?_)
  have hP : va_P D vwCl (ModC mo sa pa ha ta cJ cI (sM n b fl me st lk cm v nu) pt hd tx ps ru ty 0 lks lo1 hi1 sp cd pl gv) H := hP
  have hD : va_D _ (ModC mo sa pa ha ta cJ cI (sM n b fl me st lk cm v nu) pt hd tx ps ru ty 0 lks lo1 hi1 sp cd pl gv) := hD
  refine lv_aload_n hx hb dX7_search_5 rfl (lv_at hl 0 rfl) ?_
  refine wv_callMv (As := []) (rest := []) (wr := []) (ws1 := ModC mo sa pa ha ta cJ cI (sM n b fl me st lk cm v nu) (svP ru pt ps (sM n b fl me st lk cm v nu)) hd tx (svN ru ps) ru ty 0 lks lo1 hi1 sp cd pl gv) ⟨hx, hb, hml, hown, hts⟩ (kX7_saves l D mo sa pa ha ta cJ cI n b fl me st lk cm v nu pt hd tx ps ru ty 0 lks lo1 hi1 sp cd pl gv (by first | assumption | omega)) (cwV 0 hts gX7_search_X7_saves rfl rfl rfl (by decide +kernel) ⟨Nat.le_of_ble_eq_true rfl, Nat.le_of_ble_eq_true rfl⟩) hK hN hP hD hS hA [0, 1, 2, 3, 4] [] [0, 1] [0, 1, 2, 3, 4] rfl rfl (by decide) rfl (by decide) (by decide) rfl (by decide) rfl 0 5 rfl rfl rfl rfl hl.1 rfl (Nat.le_of_ble_eq_true rfl) dX7_search_6 ⟨Nat.zero_le _, Nat.zero_le _⟩ (fun H locs hz9 hP hD hS => ?_)
  refine lv_aload_n hx hb dX7_search_9 rfl (lv_at hl 0 rfl) ?_
  refine lv_lload_n hx hb dX7_search_10 rfl (lv_at hl 1 rfl) ?_
  refine wv_callMi (As := [.long x]) (rest := []) (wr := []) (ws1 := ModC mo sa pa ha ta cJ cI (sM n b fl me st lk cm v nu) (svP ru pt ps (sM n b fl me st lk cm v nu)) hd tx (svN ru ps) ru ty 0 (sr2 fl v n b x) (sr3 fl v n b x) (sr4 fl v n b x) sp cd pl gv) ⟨hx, hb, hml, hown, hts⟩ (kX7_searches l D mo sa pa ha ta cJ cI n b fl me st lk cm v nu (svP ru pt ps (sM n b fl me st lk cm v nu)) hd tx (svN ru ps) ru ty 0 lks lo1 hi1 sp cd pl gv x (by first | assumption | omega) (by first | assumption | omega)) (cwV 1 hts gX7_search_X7_searches rfl rfl rfl (by decide +kernel) ⟨Nat.le_of_ble_eq_true rfl, Nat.le_of_ble_eq_true rfl⟩) hK hN hP hD hS hA [0, 1, 2, 3, 4] [] [0, 1] [0, 1, 2, 3, 4] rfl rfl (by decide) rfl (by decide) (by decide) rfl (by decide) rfl 0 5 rfl rfl rfl rfl hl.1 rfl (Nat.le_of_ble_eq_true rfl) dX7_search_11 ⟨Nat.zero_le _, Nat.zero_le _⟩ (fun H locs hz9 hP hD hS => ?_)
  refine lv_istore_n (lv' := [(3, .int (oI (sr1 fl v n b x))), (0, .ref mo), (1, .long x)]) hx hb dX7_search_14 rfl hl (by decide) rfl (fun ls hl => ?_)
  refine lv_aload_n hx hb dX7_search_15 rfl (lv_at hl 1 rfl) ?_
  refine va_get (D := D) (ci := 5) (C := RX7) (T := TX7) (N := 15) hx hb hts hinX7 hown hK hP 0 rfl rfl 0 (by decide) (hts (.fieldLink RX7 7 "NearRanksModel" "s" "[J") (by decide +kernel)) (fun _ h9 => h9) rfl dX7_search_16 ?_
  refine lv_iconst (v := nI 5) hx hb dX7_search_19 (by decide) ?_
  refine lv_dup2_11 hx hb dX7_search_20 rfl rfl ?_
  refine wv_lald hx hb hK hP 1 0 rfl rfl (k := 5) (by omega) (by decide) dX7_search_21 ?_
  refine wv_tl (y := lk) sM_5 ?_
  refine lv_aload_n hx hb dX7_search_22 rfl (lv_at hl 1 rfl) ?_
  refine va_get (D := D) (ci := 5) (C := RX7) (T := TX7) (N := 15) hx hb hts hinX7 hown hK hP 0 rfl rfl 8 (by decide) (hts (.fieldLink RX7 107 "NearRanksModel" "looks" "I") (by decide +kernel)) (fun _ h9 => h9) rfl dX7_search_23 ?_
  refine lv_i2l (v := lN (sr2 fl v n b x)) hx hb dX7_search_26 (nI_l (by omega)) ?_
  refine lv_ladd hx hb dX7_search_27 ?_
  refine wv_last hx hb hK hP hD hS 1 0 rfl rfl (k := 5) (by omega) (by decide) dX7_search_28 (fun H locs hP hD hS => ?_)
  rw [show vp_updL (sM n b fl me st lk cm v nu) 5 (lk + (lN (sr2 fl v n b x))) = sM n b fl me st (lk + (lN (sr2 fl v n b x))) cm v nu from sM_u5 _] at hP hD
  have hP : va_P D vwCl (ModC mo sa pa ha ta cJ cI (sM n b fl me st (lk + (lN (sr2 fl v n b x))) cm v nu) (svP ru pt ps (sM n b fl me st lk cm v nu)) hd tx (svN ru ps) ru ty 0 (sr2 fl v n b x) (sr3 fl v n b x) (sr4 fl v n b x) sp cd pl gv) H := hP
  have hD : va_D _ (ModC mo sa pa ha ta cJ cI (sM n b fl me st (lk + (lN (sr2 fl v n b x))) cm v nu) (svP ru pt ps (sM n b fl me st lk cm v nu)) hd tx (svN ru ps) ru ty 0 (sr2 fl v n b x) (sr3 fl v n b x) (sr4 fl v n b x) sp cd pl gv) := hD
  refine lv_iload_n hx hb dX7_search_29 rfl (lv_at hl 0 rfl) ?_
  exact wv_iretM hx hb hr hlocks hP hD hS rfl rfl dX7_search_30

set_option maxHeartbeats 4000000 in
set_option maxRecDepth 100000 in
theorem kX7_at_bad (l : Launch) (D : va_G) (mo : Nat) (sa : Nat) (pa : Nat) (ha : Nat) (ta : Nat) (cJ : ClassId) (cI : ClassId) (n : Nat) (b : Nat) (fl : Bool) (me : Bool) (st : Int64) (lk : Int64) (cm : Int64) (v : Nat → Int64) (nu : Nat → Int64) (pt : Nat → Int64) (hd : Nat → Int64) (tx : Nat → Int32) (ps : Nat) (ru : Bool) (ty : Nat) (rf : Nat) (lks : Nat) (lo1 : Int32) (hi1 : Int32) (sp : Nat) (cd : Int32) (pl : Int32) (gv : Int64) (z : Int32) (hn : n ≤ 32) (hz : inR z n = false) : MMl l yX7_at wsX7_at ({ frames := 1, cells := 0, slots := 0, locals := 21 } : Room) [.ref mo, .int z] D (ModC mo sa pa ha ta cJ cI (sM n b fl me st lk cm v nu) pt hd tx ps ru ty rf lks lo1 hi1 sp cd pl gv) [(cJ, .long), (cI, .int)] (lN 0) (ModC mo sa pa ha ta cJ cI (sM n b fl me st lk cm v nu) pt hd tx ps ru ty 1 lks lo1 hi1 sp cd pl gv) := by
  refine MMl_of (cc := cX7_at) (maxL := 2) (ret := some .long) (by decide +kernel) rfl (Nat.le_of_ble_eq_true rfl) ?_
  intro p e s m args below meth c hx hb hr hts hown hlocks hml hP hK hN hD ls hl
  have hown : s.vm.findClass RX7 = some m.cls := hown
  have hl : lv_has ls 2 [(0, .ref mo), (1, .int z)] := hl
  have hS : va_S (va_A (ModC mo sa pa ha ta cJ cI (sM n b fl me st lk cm v nu) pt hd tx ps ru ty rf lks lo1 hi1 sp cd pl gv) s.heap.size) s.heap s.heap [] := va_S.rf
  have hA := wk_hA (ModC mo sa pa ha ta cJ cI (sM n b fl me st lk cm v nu) pt hd tx ps ru ty rf lks lo1 hi1 sp cd pl gv) s.heap.size
  have hD9 : True := trivial
  refine lv_aload_n hx hb dX7_at_0 rfl (lv_at hl 0 rfl) ?_
  refine lv_aload_n hx hb dX7_at_1 rfl (lv_at hl 0 rfl) ?_
  refine lv_iload_n hx hb dX7_at_2 rfl (lv_at hl 1 rfl) ?_
  refine wv_callPi (As := [.int z]) (rest := [.ref mo]) ⟨hx, hb, hml, hown, hts⟩ (kX7_isPlace l D mo sa pa ha ta cJ cI n b fl me st lk cm v nu pt hd tx ps ru ty rf lks lo1 hi1 sp cd pl gv z (by first | assumption | omega)) (cwV 1 hts gX7_at_X7_isPlace rfl rfl rfl (by decide +kernel) ⟨Nat.le_of_ble_eq_true rfl, Nat.le_of_ble_eq_true rfl⟩) hK hN hP hS hA [0, 1, 2, 3, 4] [0, 1] rfl rfl 0 5 rfl rfl rfl rfl hl.1 rfl (Nat.le_of_ble_eq_true rfl) dX7_at_3 ⟨Nat.zero_le _, Nat.zero_le _⟩ (fun H locs hz9 hP hS => ?_)
  refine wv_ti (y := bI false) (by rw [hz]) ?_
  refine wv_ifeqB (tgt := 13) hx hb dX7_at_6 (by decide) (fun _ => ?_) (fun h => by cases h)
  refine lv_iconst (v := nI 1) hx hb dX7_at_13 (by decide) ?_
  refine wv_callMi (As := [.int (nI 1)]) (rest := []) (wr := []) (ws1 := ModC mo sa pa ha ta cJ cI (sM n b fl me st lk cm v nu) pt hd tx ps ru ty 1 lks lo1 hi1 sp cd pl gv) ⟨hx, hb, hml, hown, hts⟩ (kX7_throwsAt l D mo sa pa ha ta cJ cI n b fl me st lk cm v nu pt hd tx ps ru ty rf lks lo1 hi1 sp cd pl gv 1 (by first | assumption | omega)) (cwV 1 hts gX7_at_X7_throwsAt rfl rfl rfl (by decide +kernel) ⟨Nat.le_of_ble_eq_true rfl, Nat.le_of_ble_eq_true rfl⟩) hK hN hP hD hS hA [0, 1, 2, 3, 4] [] [0, 1] [0, 1, 2, 3, 4] rfl rfl (by decide) rfl (by decide) (by decide) rfl (by decide) rfl 0 5 rfl rfl rfl rfl hl.1 rfl (Nat.le_of_ble_eq_true rfl) dX7_at_14 ⟨Nat.zero_le _, Nat.zero_le _⟩ (fun H locs hz9 hP hD hS => ?_)
  refine wv_ti (y := bI true) (by decide) ?_
  refine wv_ifeqB (tgt := 24) hx hb dX7_at_17 (by decide) (fun h => by cases h) (fun _ => ?_)
  refine lv_lconst (v := lN 0) hx hb dX7_at_20 rfl ?_
  refine lv_goto (tgt := 33) hx hb dX7_at_21 (by decide) ?_
  exact wv_lretM hx hb hr hlocks hP hD hS rfl rfl dX7_at_33

set_option maxHeartbeats 4000000 in
set_option maxRecDepth 100000 in
theorem kX7_at (l : Launch) (D : va_G) (mo : Nat) (sa : Nat) (pa : Nat) (ha : Nat) (ta : Nat) (cJ : ClassId) (cI : ClassId) (n : Nat) (b : Nat) (fl : Bool) (me : Bool) (st : Int64) (lk : Int64) (cm : Int64) (v : Nat → Int64) (nu : Nat → Int64) (pt : Nat → Int64) (hd : Nat → Int64) (tx : Nat → Int32) (ps : Nat) (ru : Bool) (ty : Nat) (rf : Nat) (lks : Nat) (lo1 : Int32) (hi1 : Int32) (sp : Nat) (cd : Int32) (pl : Int32) (gv : Int64) (k : Nat) (hn : n ≤ 32) (hk : k < n) : MMl l yX7_at wsX7_at ({ frames := 1, cells := 0, slots := 0, locals := 21 } : Room) [.ref mo, .int (nI k)] D (ModC mo sa pa ha ta cJ cI (sM n b fl me st lk cm v nu) pt hd tx ps ru ty rf lks lo1 hi1 sp cd pl gv) [(cJ, .long), (cI, .int)] (v k) (ModC mo sa pa ha ta cJ cI (sM n b fl me st lk cm v nu) pt hd tx ps ru ty 0 lks lo1 hi1 sp cd pl gv) := by
  refine MMl_of (cc := cX7_at) (maxL := 2) (ret := some .long) (by decide +kernel) rfl (Nat.le_of_ble_eq_true rfl) ?_
  intro p e s m args below meth c hx hb hr hts hown hlocks hml hP hK hN hD ls hl
  have hown : s.vm.findClass RX7 = some m.cls := hown
  have hl : lv_has ls 2 [(0, .ref mo), (1, .int (nI k))] := hl
  have hS : va_S (va_A (ModC mo sa pa ha ta cJ cI (sM n b fl me st lk cm v nu) pt hd tx ps ru ty rf lks lo1 hi1 sp cd pl gv) s.heap.size) s.heap s.heap [] := va_S.rf
  have hA := wk_hA (ModC mo sa pa ha ta cJ cI (sM n b fl me st lk cm v nu) pt hd tx ps ru ty rf lks lo1 hi1 sp cd pl gv) s.heap.size
  have hD9 : True := trivial
  have hinX7 : ∀ w ∈ wsX70, w ∈ wsX7_at := by decide +kernel
  refine lv_aload_n hx hb dX7_at_0 rfl (lv_at hl 0 rfl) ?_
  refine lv_aload_n hx hb dX7_at_1 rfl (lv_at hl 0 rfl) ?_
  refine lv_iload_n hx hb dX7_at_2 rfl (lv_at hl 1 rfl) ?_
  refine wv_callPi (As := [.int (nI k)]) (rest := [.ref mo]) ⟨hx, hb, hml, hown, hts⟩ (kX7_isPlace l D mo sa pa ha ta cJ cI n b fl me st lk cm v nu pt hd tx ps ru ty rf lks lo1 hi1 sp cd pl gv (nI k) (by first | assumption | omega)) (cwV 1 hts gX7_at_X7_isPlace rfl rfl rfl (by decide +kernel) ⟨Nat.le_of_ble_eq_true rfl, Nat.le_of_ble_eq_true rfl⟩) hK hN hP hS hA [0, 1, 2, 3, 4] [0, 1] rfl rfl 0 5 rfl rfl rfl rfl hl.1 rfl (Nat.le_of_ble_eq_true rfl) dX7_at_3 ⟨Nat.zero_le _, Nat.zero_le _⟩ (fun H locs hz9 hP hS => ?_)
  refine wv_ti (y := bI true) (by rw [inR_t hk (by omega)]) ?_
  refine wv_ifeqB (tgt := 13) hx hb dX7_at_6 (by decide) (fun h => by cases h) (fun _ => ?_)
  refine lv_iconst (v := nI 0) hx hb dX7_at_9 (by decide) ?_
  refine lv_goto (tgt := 14) hx hb dX7_at_10 (by decide) ?_
  refine wv_callMi (As := [.int (nI 0)]) (rest := []) (wr := []) (ws1 := ModC mo sa pa ha ta cJ cI (sM n b fl me st lk cm v nu) pt hd tx ps ru ty 0 lks lo1 hi1 sp cd pl gv) ⟨hx, hb, hml, hown, hts⟩ (kX7_throwsAt l D mo sa pa ha ta cJ cI n b fl me st lk cm v nu pt hd tx ps ru ty rf lks lo1 hi1 sp cd pl gv 0 (by first | assumption | omega)) (cwV 1 hts gX7_at_X7_throwsAt rfl rfl rfl (by decide +kernel) ⟨Nat.le_of_ble_eq_true rfl, Nat.le_of_ble_eq_true rfl⟩) hK hN hP hD hS hA [0, 1, 2, 3, 4] [] [0, 1] [0, 1, 2, 3, 4] rfl rfl (by decide) rfl (by decide) (by decide) rfl (by decide) rfl 0 5 rfl rfl rfl rfl hl.1 rfl (Nat.le_of_ble_eq_true rfl) dX7_at_14 ⟨Nat.zero_le _, Nat.zero_le _⟩ (fun H locs hz9 hP hD hS => ?_)
  refine wv_ti (y := bI false) (by decide) ?_
  refine wv_ifeqB (tgt := 24) hx hb dX7_at_17 (by decide) (fun _ => ?_) (fun h => by cases h)
  refine lv_aload_n hx hb dX7_at_24 rfl (lv_at hl 0 rfl) ?_
  refine va_get (D := D) (ci := 5) (C := RX7) (T := TX7) (N := 15) hx hb hts hinX7 hown hK hP 0 rfl rfl 0 (by decide) (hts (.fieldLink RX7 7 "NearRanksModel" "s" "[J") (by decide +kernel)) (fun _ h9 => h9) rfl dX7_at_25 ?_
  refine lv_bipush (v := nI 7) hx hb dX7_at_28 (by decide) ?_
  refine lv_iload_n hx hb dX7_at_30 rfl (lv_at hl 1 rfl) ?_
  refine lv_iadd hx hb dX7_at_31 ?_
  refine wv_ti (nI_add _ _) ?_
  refine wv_lald hx hb hK hP 1 0 rfl rfl (k := 7 + k) (by omega) (by decide) dX7_at_32 ?_
  refine wv_tl (y := v k) (sM_v (by omega) (by omega)) ?_
  exact wv_lretM hx hb hr hlocks hP hD hS rfl rfl dX7_at_33

set_option maxHeartbeats 4000000 in
set_option maxRecDepth 100000 in
theorem kX7_element_bad (l : Launch) (D : va_G) (mo : Nat) (sa : Nat) (pa : Nat) (ha : Nat) (ta : Nat) (cJ : ClassId) (cI : ClassId) (n : Nat) (b : Nat) (fl : Bool) (me : Bool) (st : Int64) (lk : Int64) (cm : Int64) (v : Nat → Int64) (nu : Nat → Int64) (pt : Nat → Int64) (hd : Nat → Int64) (tx : Nat → Int32) (ps : Nat) (ru : Bool) (ty : Nat) (rf : Nat) (lks : Nat) (lo1 : Int32) (hi1 : Int32) (sp : Nat) (cd : Int32) (pl : Int32) (gv : Int64) (z : Int32) (y : Int32) (hn : n ≤ 32) (hz : inR z n = false) : MMi l yX7_element wsX7_element ({ frames := 1, cells := 0, slots := 0, locals := 21 } : Room) [.ref mo, .int z, .int y] D (ModC mo sa pa ha ta cJ cI (sM n b fl me st lk cm v nu) pt hd tx ps ru ty rf lks lo1 hi1 sp cd pl gv) [(cJ, .long), (cI, .int)] (nI 0) (ModC mo sa pa ha ta cJ cI (sM n b fl me st lk cm v nu) pt hd tx ps ru ty 1 lks lo1 hi1 sp cd pl gv) := by
  refine MMi_of (cc := cX7_element) (maxL := 3) (ret := some .int) (by decide +kernel) rfl (Nat.le_of_ble_eq_true rfl) ?_
  intro p e s m args below meth c hx hb hr hts hown hlocks hml hP hK hN hD ls hl
  have hown : s.vm.findClass RX7 = some m.cls := hown
  have hl : lv_has ls 3 [(0, .ref mo), (1, .int z), (2, .int y)] := hl
  have hS : va_S (va_A (ModC mo sa pa ha ta cJ cI (sM n b fl me st lk cm v nu) pt hd tx ps ru ty rf lks lo1 hi1 sp cd pl gv) s.heap.size) s.heap s.heap [] := va_S.rf
  have hA := wk_hA (ModC mo sa pa ha ta cJ cI (sM n b fl me st lk cm v nu) pt hd tx ps ru ty rf lks lo1 hi1 sp cd pl gv) s.heap.size
  have hD9 : True := trivial
  refine lv_aload_n hx hb dX7_element_0 rfl (lv_at hl 0 rfl) ?_
  refine lv_aload_n hx hb dX7_element_1 rfl (lv_at hl 0 rfl) ?_
  refine lv_iload_n hx hb dX7_element_2 rfl (lv_at hl 1 rfl) ?_
  refine wv_callPi (As := [.int z]) (rest := [.ref mo]) ⟨hx, hb, hml, hown, hts⟩ (kX7_isPlace l D mo sa pa ha ta cJ cI n b fl me st lk cm v nu pt hd tx ps ru ty rf lks lo1 hi1 sp cd pl gv z (by first | assumption | omega)) (cwV 1 hts gX7_element_X7_isPlace rfl rfl rfl (by decide +kernel) ⟨Nat.le_of_ble_eq_true rfl, Nat.le_of_ble_eq_true rfl⟩) hK hN hP hS hA [0, 1, 2, 3, 4] [0, 1] rfl rfl 0 5 rfl rfl rfl rfl hl.1 rfl (Nat.le_of_ble_eq_true rfl) dX7_element_3 ⟨Nat.zero_le _, Nat.zero_le _⟩ (fun H locs hz9 hP hS => ?_)
  refine wv_ti (y := bI false) (by rw [hz]) ?_
  refine wv_ifneB (tgt := 13) hx hb dX7_element_6 (by decide) (fun h => by cases h) (fun _ => ?_)
  refine lv_iconst (v := nI 1) hx hb dX7_element_9 (by decide) ?_
  refine lv_goto (tgt := 30) hx hb dX7_element_10 (by decide) ?_
  refine wv_callMi (As := [.int (nI 1)]) (rest := []) (wr := []) (ws1 := ModC mo sa pa ha ta cJ cI (sM n b fl me st lk cm v nu) pt hd tx ps ru ty 1 lks lo1 hi1 sp cd pl gv) ⟨hx, hb, hml, hown, hts⟩ (kX7_throwsAt l D mo sa pa ha ta cJ cI n b fl me st lk cm v nu pt hd tx ps ru ty rf lks lo1 hi1 sp cd pl gv 1 (by first | assumption | omega)) (cwV 1 hts gX7_element_X7_throwsAt rfl rfl rfl (by decide +kernel) ⟨Nat.le_of_ble_eq_true rfl, Nat.le_of_ble_eq_true rfl⟩) hK hN hP hD hS hA [0, 1, 2, 3, 4] [] [0, 1] [0, 1, 2, 3, 4] rfl rfl (by decide) rfl (by decide) (by decide) rfl (by decide) rfl 0 5 rfl rfl rfl rfl hl.1 rfl (Nat.le_of_ble_eq_true rfl) dX7_element_30 ⟨Nat.zero_le _, Nat.zero_le _⟩ (fun H locs hz9 hP hD hS => ?_)
  refine wv_ti (y := bI true) (by decide) ?_
  refine wv_ifeqB (tgt := 40) hx hb dX7_element_33 (by decide) (fun h => by cases h) (fun _ => ?_)
  refine lv_iconst (v := nI 0) hx hb dX7_element_36 (by decide) ?_
  refine lv_goto (tgt := 46) hx hb dX7_element_37 (by decide) ?_
  exact wv_iretM hx hb hr hlocks hP hD hS rfl rfl dX7_element_46

set_option maxHeartbeats 4000000 in
set_option maxRecDepth 100000 in
theorem kX7_element_bad2 (l : Launch) (D : va_G) (mo : Nat) (sa : Nat) (pa : Nat) (ha : Nat) (ta : Nat) (cJ : ClassId) (cI : ClassId) (n : Nat) (b : Nat) (fl : Bool) (me : Bool) (st : Int64) (lk : Int64) (cm : Int64) (v : Nat → Int64) (nu : Nat → Int64) (pt : Nat → Int64) (hd : Nat → Int64) (tx : Nat → Int32) (ps : Nat) (ru : Bool) (ty : Nat) (rf : Nat) (lks : Nat) (lo1 : Int32) (hi1 : Int32) (sp : Nat) (cd : Int32) (pl : Int32) (gv : Int64) (k : Nat) (y : Int32) (hn : n ≤ 32) (hk : k < n) (hy : opn y 5 = false) : MMi l yX7_element wsX7_element ({ frames := 1, cells := 0, slots := 0, locals := 25 } : Room) [.ref mo, .int (nI k), .int y] D (ModC mo sa pa ha ta cJ cI (sM n b fl me st lk cm v nu) pt hd tx ps ru ty rf lks lo1 hi1 sp cd pl gv) [(cJ, .long), (cI, .int)] (nI 0) (ModC mo sa pa ha ta cJ cI (sM n b fl me st lk cm v nu) pt hd tx ps ru ty 2 lks lo1 hi1 sp cd pl gv) := by
  refine MMi_of (cc := cX7_element) (maxL := 3) (ret := some .int) (by decide +kernel) rfl (Nat.le_of_ble_eq_true rfl) ?_
  intro p e s m args below meth c hx hb hr hts hown hlocks hml hP hK hN hD ls hl
  have hown : s.vm.findClass RX7 = some m.cls := hown
  have hl : lv_has ls 3 [(0, .ref mo), (1, .int (nI k)), (2, .int y)] := hl
  have hS : va_S (va_A (ModC mo sa pa ha ta cJ cI (sM n b fl me st lk cm v nu) pt hd tx ps ru ty rf lks lo1 hi1 sp cd pl gv) s.heap.size) s.heap s.heap [] := va_S.rf
  have hA := wk_hA (ModC mo sa pa ha ta cJ cI (sM n b fl me st lk cm v nu) pt hd tx ps ru ty rf lks lo1 hi1 sp cd pl gv) s.heap.size
  have hD9 : True := trivial
  refine lv_aload_n hx hb dX7_element_0 rfl (lv_at hl 0 rfl) ?_
  refine lv_aload_n hx hb dX7_element_1 rfl (lv_at hl 0 rfl) ?_
  refine lv_iload_n hx hb dX7_element_2 rfl (lv_at hl 1 rfl) ?_
  refine wv_callPi (As := [.int (nI k)]) (rest := [.ref mo]) ⟨hx, hb, hml, hown, hts⟩ (kX7_isPlace l D mo sa pa ha ta cJ cI n b fl me st lk cm v nu pt hd tx ps ru ty rf lks lo1 hi1 sp cd pl gv (nI k) (by first | assumption | omega)) (cwV 1 hts gX7_element_X7_isPlace rfl rfl rfl (by decide +kernel) ⟨Nat.le_of_ble_eq_true rfl, Nat.le_of_ble_eq_true rfl⟩) hK hN hP hS hA [0, 1, 2, 3, 4] [0, 1] rfl rfl 0 5 rfl rfl rfl rfl hl.1 rfl (Nat.le_of_ble_eq_true rfl) dX7_element_3 ⟨Nat.zero_le _, Nat.zero_le _⟩ (fun H locs hz9 hP hS => ?_)
  refine wv_ti (y := bI true) (by rw [inR_t hk (by omega)]) ?_
  refine wv_ifneB (tgt := 13) hx hb dX7_element_6 (by decide) (fun _ => ?_) (fun h => by cases h)
  refine lv_iload_n hx hb dX7_element_13 rfl (lv_at hl 2 rfl) ?_
  refine lv_i2l (v := y.toInt64) hx hb dX7_element_14 rfl ?_
  refine lv_lconst (v := lN 0) hx hb dX7_element_15 rfl ?_
  refine lv_ldc2 (v := lN 5) hx hb hown (hts (.constantLong RX7 120 (5)) (by decide +kernel)) dX7_element_16 ?_
  refine wv_callSi (As := [.long y.toInt64, .long (lN 0), .long (lN 5)]) (rest := [.ref mo]) ⟨hx, hb, hml, hown, hts⟩ (kX7_in l D y.toInt64 (lN 0) (lN 5)) (va_cwS 3 hts gX7_element_X7_in rfl rfl rfl (by decide +kernel) ⟨Nat.le_of_ble_eq_true rfl, Nat.le_of_ble_eq_true rfl⟩) hK hN hP hS hA [] [] rfl rfl rfl hl.1 rfl (Nat.le_of_ble_eq_true rfl) dX7_element_19 ⟨Nat.zero_le _, Nat.zero_le _⟩ (fun H locs hz9 hP hS => ?_)
  refine wv_ti (y := bI false) (by rw [wk_in_o y (by omega), hy]) ?_
  refine wv_ifeqB (tgt := 29) hx hb dX7_element_22 (by decide) (fun _ => ?_) (fun h => by cases h)
  refine lv_iconst (v := nI 2) hx hb dX7_element_29 (by decide) ?_
  refine wv_callMi (As := [.int (nI 2)]) (rest := []) (wr := []) (ws1 := ModC mo sa pa ha ta cJ cI (sM n b fl me st lk cm v nu) pt hd tx ps ru ty 2 lks lo1 hi1 sp cd pl gv) ⟨hx, hb, hml, hown, hts⟩ (kX7_throwsAt l D mo sa pa ha ta cJ cI n b fl me st lk cm v nu pt hd tx ps ru ty rf lks lo1 hi1 sp cd pl gv 2 (by first | assumption | omega)) (cwV 1 hts gX7_element_X7_throwsAt rfl rfl rfl (by decide +kernel) ⟨Nat.le_of_ble_eq_true rfl, Nat.le_of_ble_eq_true rfl⟩) hK hN hP hD hS hA [0, 1, 2, 3, 4] [] [0, 1] [0, 1, 2, 3, 4] rfl rfl (by decide) rfl (by decide) (by decide) rfl (by decide) rfl 0 5 rfl rfl rfl rfl hl.1 rfl (Nat.le_of_ble_eq_true rfl) dX7_element_30 ⟨Nat.zero_le _, Nat.zero_le _⟩ (fun H locs hz9 hP hD hS => ?_)
  refine wv_ti (y := bI true) (by decide) ?_
  refine wv_ifeqB (tgt := 40) hx hb dX7_element_33 (by decide) (fun h => by cases h) (fun _ => ?_)
  refine lv_iconst (v := nI 0) hx hb dX7_element_36 (by decide) ?_
  refine lv_goto (tgt := 46) hx hb dX7_element_37 (by decide) ?_
  exact wv_iretM hx hb hr hlocks hP hD hS rfl rfl dX7_element_46

set_option maxHeartbeats 4000000 in
set_option maxRecDepth 100000 in
theorem kX7_element (l : Launch) (D : va_G) (mo : Nat) (sa : Nat) (pa : Nat) (ha : Nat) (ta : Nat) (cJ : ClassId) (cI : ClassId) (n : Nat) (b : Nat) (fl : Bool) (me : Bool) (st : Int64) (lk : Int64) (cm : Int64) (v : Nat → Int64) (nu : Nat → Int64) (pt : Nat → Int64) (hd : Nat → Int64) (tx : Nat → Int32) (ps : Nat) (ru : Bool) (ty : Nat) (rf : Nat) (lks : Nat) (lo1 : Int32) (hi1 : Int32) (sp : Nat) (cd : Int32) (pl : Int32) (gv : Int64) (k : Nat) (w : Nat) (hn : n ≤ 32) (hb : b ≤ 31) (hk : k < n) (hw : w ≤ 5) : MMi l yX7_element wsX7_element ({ frames := 5, cells := 0, slots := 0, locals := 112 } : Room) [.ref mo, .int (nI k), .int (nI w)] D (ModC mo sa pa ha ta cJ cI (sM n b fl me st lk cm v nu) pt hd tx ps ru ty rf lks lo1 hi1 sp cd pl gv) [(cJ, .long), (cI, .int)] (elV fl v n b ((nu k).toInt32) k w) (ModC mo sa pa ha ta cJ cI (sM n b fl me st lk cm v nu) pt hd tx ps ru ty 0 lks lo1 hi1 sp cd pl gv) := by
  refine MMi_of (cc := cX7_element) (maxL := 3) (ret := some .int) (by decide +kernel) rfl (Nat.le_of_ble_eq_true rfl) ?_
  intro p e s m args below meth c hx hb hr hts hown hlocks hml hP hK hN hD ls hl
  have hown : s.vm.findClass RX7 = some m.cls := hown
  have hl : lv_has ls 3 [(0, .ref mo), (1, .int (nI k)), (2, .int (nI w))] := hl
  have hS : va_S (va_A (ModC mo sa pa ha ta cJ cI (sM n b fl me st lk cm v nu) pt hd tx ps ru ty rf lks lo1 hi1 sp cd pl gv) s.heap.size) s.heap s.heap [] := va_S.rf
  have hA := wk_hA (ModC mo sa pa ha ta cJ cI (sM n b fl me st lk cm v nu) pt hd tx ps ru ty rf lks lo1 hi1 sp cd pl gv) s.heap.size
  have hD9 : True := trivial
  refine lv_aload_n hx hb dX7_element_0 rfl (lv_at hl 0 rfl) ?_
  refine lv_aload_n hx hb dX7_element_1 rfl (lv_at hl 0 rfl) ?_
  refine lv_iload_n hx hb dX7_element_2 rfl (lv_at hl 1 rfl) ?_
  refine wv_callPi (As := [.int (nI k)]) (rest := [.ref mo]) ⟨hx, hb, hml, hown, hts⟩ (kX7_isPlace l D mo sa pa ha ta cJ cI n b fl me st lk cm v nu pt hd tx ps ru ty rf lks lo1 hi1 sp cd pl gv (nI k) (by first | assumption | omega)) (cwV 1 hts gX7_element_X7_isPlace rfl rfl rfl (by decide +kernel) ⟨Nat.le_of_ble_eq_true rfl, Nat.le_of_ble_eq_true rfl⟩) hK hN hP hS hA [0, 1, 2, 3, 4] [0, 1] rfl rfl 0 5 rfl rfl rfl rfl hl.1 rfl (Nat.le_of_ble_eq_true rfl) dX7_element_3 ⟨Nat.zero_le _, Nat.zero_le _⟩ (fun H locs hz9 hP hS => ?_)
  refine wv_ti (y := bI true) (by rw [inR_t hk (by omega)]) ?_
  refine wv_ifneB (tgt := 13) hx hb dX7_element_6 (by decide) (fun _ => ?_) (fun h => by cases h)
  refine lv_iload_n hx hb dX7_element_13 rfl (lv_at hl 2 rfl) ?_
  refine lv_i2l (v := lN w) hx hb dX7_element_14 (nI_l (by omega)) ?_
  refine lv_lconst (v := lN 0) hx hb dX7_element_15 rfl ?_
  refine lv_ldc2 (v := lN 5) hx hb hown (hts (.constantLong RX7 120 (5)) (by decide +kernel)) dX7_element_16 ?_
  refine wv_callSi (As := [.long (lN w), .long (lN 0), .long (lN 5)]) (rest := [.ref mo]) ⟨hx, hb, hml, hown, hts⟩ (kX7_in l D (lN w) (lN 0) (lN 5)) (va_cwS 3 hts gX7_element_X7_in rfl rfl rfl (by decide +kernel) ⟨Nat.le_of_ble_eq_true rfl, Nat.le_of_ble_eq_true rfl⟩) hK hN hP hS hA [] [] rfl rfl rfl hl.1 rfl (Nat.le_of_ble_eq_true rfl) dX7_element_19 ⟨Nat.zero_le _, Nat.zero_le _⟩ (fun H locs hz9 hP hS => ?_)
  refine wv_ti (y := bI true) (by rw [wk_in_t (by omega) hw (by omega)]) ?_
  refine wv_ifeqB (tgt := 29) hx hb dX7_element_22 (by decide) (fun h => by cases h) (fun _ => ?_)
  refine lv_iconst (v := nI 0) hx hb dX7_element_25 (by decide) ?_
  refine lv_goto (tgt := 30) hx hb dX7_element_26 (by decide) ?_
  refine wv_callMi (As := [.int (nI 0)]) (rest := []) (wr := []) (ws1 := ModC mo sa pa ha ta cJ cI (sM n b fl me st lk cm v nu) pt hd tx ps ru ty 0 lks lo1 hi1 sp cd pl gv) ⟨hx, hb, hml, hown, hts⟩ (kX7_throwsAt l D mo sa pa ha ta cJ cI n b fl me st lk cm v nu pt hd tx ps ru ty rf lks lo1 hi1 sp cd pl gv 0 (by first | assumption | omega)) (cwV 1 hts gX7_element_X7_throwsAt rfl rfl rfl (by decide +kernel) ⟨Nat.le_of_ble_eq_true rfl, Nat.le_of_ble_eq_true rfl⟩) hK hN hP hD hS hA [0, 1, 2, 3, 4] [] [0, 1] [0, 1, 2, 3, 4] rfl rfl (by decide) rfl (by decide) (by decide) rfl (by decide) rfl 0 5 rfl rfl rfl rfl hl.1 rfl (Nat.le_of_ble_eq_true rfl) dX7_element_30 ⟨Nat.zero_le _, Nat.zero_le _⟩ (fun H locs hz9 hP hD hS => ?_)
  refine wv_ti (y := bI false) (by decide) ?_
  refine wv_ifeqB (tgt := 40) hx hb dX7_element_33 (by decide) (fun _ => ?_) (fun h => by cases h)
  refine lv_aload_n hx hb dX7_element_40 rfl (lv_at hl 0 rfl) ?_
  refine lv_iload_n hx hb dX7_element_41 rfl (lv_at hl 1 rfl) ?_
  refine lv_iload_n hx hb dX7_element_42 rfl (lv_at hl 2 rfl) ?_
  refine wv_callPi (As := [.int (nI k), .int (nI w)]) (rest := []) ⟨hx, hb, hml, hown, hts⟩ (kX7_elementOf l D mo sa pa ha ta cJ cI n b fl me st lk cm v nu pt hd tx ps ru ty 0 lks lo1 hi1 sp cd pl gv k w (by first | assumption | omega) (by first | assumption | omega) (by first | assumption | omega) (by first | assumption | omega)) (cwV 2 hts gX7_element_X7_elementOf rfl rfl rfl (by decide +kernel) ⟨Nat.le_of_ble_eq_true rfl, Nat.le_of_ble_eq_true rfl⟩) hK hN hP hS hA [0, 1, 2, 3, 4] [0, 1] rfl rfl 0 5 rfl rfl rfl rfl hl.1 rfl (Nat.le_of_ble_eq_true rfl) dX7_element_43 ⟨Nat.zero_le _, Nat.zero_le _⟩ (fun H locs hz9 hP hS => ?_)
  exact wv_iretM hx hb hr hlocks hP hD hS rfl rfl dX7_element_46

set_option maxHeartbeats 4000000 in
set_option maxRecDepth 100000 in
theorem kX7_ranked_bad (l : Launch) (D : va_G) (mo : Nat) (sa : Nat) (pa : Nat) (ha : Nat) (ta : Nat) (cJ : ClassId) (cI : ClassId) (n : Nat) (b : Nat) (fl : Bool) (me : Bool) (st : Int64) (lk : Int64) (cm : Int64) (v : Nat → Int64) (nu : Nat → Int64) (pt : Nat → Int64) (hd : Nat → Int64) (tx : Nat → Int32) (ps : Nat) (ru : Bool) (ty : Nat) (rf : Nat) (lks : Nat) (lo1 : Int32) (hi1 : Int32) (sp : Nat) (cd : Int32) (pl : Int32) (gv : Int64) (z : Int32) (hn : n ≤ 32) (hz : inR z n = false) : MMl l yX7_ranked wsX7_ranked ({ frames := 1, cells := 0, slots := 0, locals := 21 } : Room) [.ref mo, .int z] D (ModC mo sa pa ha ta cJ cI (sM n b fl me st lk cm v nu) pt hd tx ps ru ty rf lks lo1 hi1 sp cd pl gv) [(cJ, .long), (cI, .int)] (lN 0) (ModC mo sa pa ha ta cJ cI (sM n b fl me st lk cm v nu) pt hd tx ps ru ty 1 lks lo1 hi1 sp cd pl gv) := by
  refine MMl_of (cc := cX7_ranked) (maxL := 5) (ret := some .long) (by decide +kernel) rfl (Nat.le_of_ble_eq_true rfl) ?_
  intro p e s m args below meth c hx hb hr hts hown hlocks hml hP hK hN hD ls hl
  have hown : s.vm.findClass RX7 = some m.cls := hown
  have hl : lv_has ls 5 [(0, .ref mo), (1, .int z)] := hl
  have hS : va_S (va_A (ModC mo sa pa ha ta cJ cI (sM n b fl me st lk cm v nu) pt hd tx ps ru ty rf lks lo1 hi1 sp cd pl gv) s.heap.size) s.heap s.heap [] := va_S.rf
  have hA := wk_hA (ModC mo sa pa ha ta cJ cI (sM n b fl me st lk cm v nu) pt hd tx ps ru ty rf lks lo1 hi1 sp cd pl gv) s.heap.size
  have hD9 : True := trivial
  refine lv_aload_n hx hb dX7_ranked_0 rfl (lv_at hl 0 rfl) ?_
  refine lv_aload_n hx hb dX7_ranked_1 rfl (lv_at hl 0 rfl) ?_
  refine lv_iload_n hx hb dX7_ranked_2 rfl (lv_at hl 1 rfl) ?_
  refine wv_callPi (As := [.int z]) (rest := [.ref mo]) ⟨hx, hb, hml, hown, hts⟩ (kX7_isPlace l D mo sa pa ha ta cJ cI n b fl me st lk cm v nu pt hd tx ps ru ty rf lks lo1 hi1 sp cd pl gv z (by first | assumption | omega)) (cwV 1 hts gX7_ranked_X7_isPlace rfl rfl rfl (by decide +kernel) ⟨Nat.le_of_ble_eq_true rfl, Nat.le_of_ble_eq_true rfl⟩) hK hN hP hS hA [0, 1, 2, 3, 4] [0, 1] rfl rfl 0 5 rfl rfl rfl rfl hl.1 rfl (Nat.le_of_ble_eq_true rfl) dX7_ranked_3 ⟨Nat.zero_le _, Nat.zero_le _⟩ (fun H locs hz9 hP hS => ?_)
  refine wv_ti (y := bI false) (by rw [hz]) ?_
  refine wv_ifeqB (tgt := 13) hx hb dX7_ranked_6 (by decide) (fun _ => ?_) (fun h => by cases h)
  refine lv_iconst (v := nI 1) hx hb dX7_ranked_13 (by decide) ?_
  refine wv_callMi (As := [.int (nI 1)]) (rest := []) (wr := []) (ws1 := ModC mo sa pa ha ta cJ cI (sM n b fl me st lk cm v nu) pt hd tx ps ru ty 1 lks lo1 hi1 sp cd pl gv) ⟨hx, hb, hml, hown, hts⟩ (kX7_throwsAt l D mo sa pa ha ta cJ cI n b fl me st lk cm v nu pt hd tx ps ru ty rf lks lo1 hi1 sp cd pl gv 1 (by first | assumption | omega)) (cwV 1 hts gX7_ranked_X7_throwsAt rfl rfl rfl (by decide +kernel) ⟨Nat.le_of_ble_eq_true rfl, Nat.le_of_ble_eq_true rfl⟩) hK hN hP hD hS hA [0, 1, 2, 3, 4] [] [0, 1] [0, 1, 2, 3, 4] rfl rfl (by decide) rfl (by decide) (by decide) rfl (by decide) rfl 0 5 rfl rfl rfl rfl hl.1 rfl (Nat.le_of_ble_eq_true rfl) dX7_ranked_14 ⟨Nat.zero_le _, Nat.zero_le _⟩ (fun H locs hz9 hP hD hS => ?_)
  refine wv_ti (y := bI true) (by decide) ?_
  refine wv_ifeqB (tgt := 22) hx hb dX7_ranked_17 (by decide) (fun h => by cases h) (fun _ => ?_)
  refine lv_lconst (v := lN 0) hx hb dX7_ranked_20 rfl ?_
  exact wv_lretM hx hb hr hlocks hP hD hS rfl rfl dX7_ranked_21

set_option maxHeartbeats 4000000 in
set_option maxRecDepth 100000 in
theorem kX7_ranked (l : Launch) (D : va_G) (mo : Nat) (sa : Nat) (pa : Nat) (ha : Nat) (ta : Nat) (cJ : ClassId) (cI : ClassId) (n : Nat) (b : Nat) (fl : Bool) (me : Bool) (st : Int64) (lk : Int64) (cm : Int64) (v : Nat → Int64) (nu : Nat → Int64) (pt : Nat → Int64) (hd : Nat → Int64) (tx : Nat → Int32) (ps : Nat) (ru : Bool) (ty : Nat) (rf : Nat) (lks : Nat) (lo1 : Int32) (hi1 : Int32) (sp : Nat) (cd : Int32) (pl : Int32) (gv : Int64) (k : Nat) (hn : n ≤ 32) (hk : k < n) : MMl l yX7_ranked wsX7_ranked ({ frames := 2, cells := 0, slots := 0, locals := 48 } : Room) [.ref mo, .int (nI k)] D (ModC mo sa pa ha ta cJ cI (sM n b fl me st lk cm v nu) pt hd tx ps ru ty rf lks lo1 hi1 sp cd pl gv) [(cJ, .long), (cI, .int)] (rkd fl v n k (lN 0) n) (ModC mo sa pa ha ta cJ cI (sM n b fl me st lk cm v nu) pt hd tx ps ru ty 0 lks lo1 hi1 sp cd pl gv) := by
  refine MMl_of (cc := cX7_ranked) (maxL := 5) (ret := some .long) (by decide +kernel) rfl (Nat.le_of_ble_eq_true rfl) ?_
  intro p e s m args below meth c hx hb hr hts hown hlocks hml hP hK hN hD ls hl
  have hown : s.vm.findClass RX7 = some m.cls := hown
  have hl : lv_has ls 5 [(0, .ref mo), (1, .int (nI k))] := hl
  have hS : va_S (va_A (ModC mo sa pa ha ta cJ cI (sM n b fl me st lk cm v nu) pt hd tx ps ru ty rf lks lo1 hi1 sp cd pl gv) s.heap.size) s.heap s.heap [] := va_S.rf
  have hA := wk_hA (ModC mo sa pa ha ta cJ cI (sM n b fl me st lk cm v nu) pt hd tx ps ru ty rf lks lo1 hi1 sp cd pl gv) s.heap.size
  have hD9 : True := trivial
  have hinX7 : ∀ w ∈ wsX70, w ∈ wsX7_ranked := by decide +kernel
  refine lv_aload_n hx hb dX7_ranked_0 rfl (lv_at hl 0 rfl) ?_
  refine lv_aload_n hx hb dX7_ranked_1 rfl (lv_at hl 0 rfl) ?_
  refine lv_iload_n hx hb dX7_ranked_2 rfl (lv_at hl 1 rfl) ?_
  refine wv_callPi (As := [.int (nI k)]) (rest := [.ref mo]) ⟨hx, hb, hml, hown, hts⟩ (kX7_isPlace l D mo sa pa ha ta cJ cI n b fl me st lk cm v nu pt hd tx ps ru ty rf lks lo1 hi1 sp cd pl gv (nI k) (by first | assumption | omega)) (cwV 1 hts gX7_ranked_X7_isPlace rfl rfl rfl (by decide +kernel) ⟨Nat.le_of_ble_eq_true rfl, Nat.le_of_ble_eq_true rfl⟩) hK hN hP hS hA [0, 1, 2, 3, 4] [0, 1] rfl rfl 0 5 rfl rfl rfl rfl hl.1 rfl (Nat.le_of_ble_eq_true rfl) dX7_ranked_3 ⟨Nat.zero_le _, Nat.zero_le _⟩ (fun H locs hz9 hP hS => ?_)
  refine wv_ti (y := bI true) (by rw [inR_t hk (by omega)]) ?_
  refine wv_ifeqB (tgt := 13) hx hb dX7_ranked_6 (by decide) (fun h => by cases h) (fun _ => ?_)
  refine lv_iconst (v := nI 0) hx hb dX7_ranked_9 (by decide) ?_
  refine lv_goto (tgt := 14) hx hb dX7_ranked_10 (by decide) ?_
  refine wv_callMi (As := [.int (nI 0)]) (rest := []) (wr := []) (ws1 := ModC mo sa pa ha ta cJ cI (sM n b fl me st lk cm v nu) pt hd tx ps ru ty 0 lks lo1 hi1 sp cd pl gv) ⟨hx, hb, hml, hown, hts⟩ (kX7_throwsAt l D mo sa pa ha ta cJ cI n b fl me st lk cm v nu pt hd tx ps ru ty rf lks lo1 hi1 sp cd pl gv 0 (by first | assumption | omega)) (cwV 1 hts gX7_ranked_X7_throwsAt rfl rfl rfl (by decide +kernel) ⟨Nat.le_of_ble_eq_true rfl, Nat.le_of_ble_eq_true rfl⟩) hK hN hP hD hS hA [0, 1, 2, 3, 4] [] [0, 1] [0, 1, 2, 3, 4] rfl rfl (by decide) rfl (by decide) (by decide) rfl (by decide) rfl 0 5 rfl rfl rfl rfl hl.1 rfl (Nat.le_of_ble_eq_true rfl) dX7_ranked_14 ⟨Nat.zero_le _, Nat.zero_le _⟩ (fun H locs hz9 hP hD hS => ?_)
  refine wv_ti (y := bI false) (by decide) ?_
  refine wv_ifeqB (tgt := 22) hx hb dX7_ranked_17 (by decide) (fun _ => ?_) (fun h => by cases h)
  refine lv_lconst (v := lN 0) hx hb dX7_ranked_22 rfl ?_
  refine lv_lstore_n (lv' := [(2, .long (lN 0)), (0, .ref mo), (1, .int (nI k))]) hx hb dX7_ranked_23 rfl hl (by decide) rfl (fun ls hl => ?_)
  refine lv_iconst (v := nI 0) hx hb dX7_ranked_24 (by decide) ?_
  refine lv_istore (lv' := [(4, .int (nI 0)), (2, .long (lN 0)), (0, .ref mo), (1, .int (nI k))]) hx hb dX7_ranked_25 hl (by decide) rfl (fun ls hl => ?_)
  have el_l2 : rkd fl v n k (lN 0) 0 = lN 0 := by rfl
  have loop27 : ∀ (K : Nat) (i : Nat), n - i < K → i ≤ n → ∀ (H : Heap) (locs : List Loc), va_P D vwCl (ModC mo sa pa ha ta cJ cI (sM n b fl me st lk cm v nu) pt hd tx ps ru ty 0 lks lo1 hi1 sp cd pl gv) H → va_D (va_A (ModC mo sa pa ha ta cJ cI (sM n b fl me st lk cm v nu) pt hd tx ps ru ty rf lks lo1 hi1 sp cd pl gv) s.heap.size) (ModC mo sa pa ha ta cJ cI (sM n b fl me st lk cm v nu) pt hd tx ps ru ty 0 lks lo1 hi1 sp cd pl gv) → va_S (va_A (ModC mo sa pa ha ta cJ cI (sM n b fl me st lk cm v nu) pt hd tx ps ru ty rf lks lo1 hi1 sp cd pl gv) s.heap.size) s.heap H locs → ∀ ls : Array Slot, lv_has ls 5 [(0, .ref mo), (1, .int (nI k)), (2, .long (rkd fl v n k (lN 0) i)), (4, .int (nI i))] → W p l e ({ frames := 2, cells := 0, slots := 0, locals := 48 } : Room) s m args below meth c H locs 0 0 (ZMl below args s D (ModC mo sa pa ha ta cJ cI (sM n b fl me st lk cm v nu) pt hd tx ps ru ty rf lks lo1 hi1 sp cd pl gv) (rkd fl v n k (lN 0) n) (ModC mo sa pa ha ta cJ cI (sM n b fl me st lk cm v nu) pt hd tx ps ru ty 0 lks lo1 hi1 sp cd pl gv)) (F0 m 27 ls []) := by
    intro K
    induction K with
    | zero => intro i hK0; exact absurd hK0 (Nat.not_lt_zero _)
    | succ K ih27 =>
      intro i hKm hi H locs hP hD hS ls hl
      refine lv_iload hx hb dX7_ranked_27 (lv_at hl 3 rfl) ?_
      refine lv_aload_n hx hb dX7_ranked_29 rfl (lv_at hl 0 rfl) ?_
      refine lv_iconst (v := nI 0) hx hb dX7_ranked_30 (by decide) ?_
      refine wv_callPi (As := [.int (nI 0)]) (rest := [.int (nI i)]) ⟨hx, hb, hml, hown, hts⟩ (kX7_of l D mo sa pa ha ta cJ cI n b fl me st lk cm v nu pt hd tx ps ru ty 0 lks lo1 hi1 sp cd pl gv 0 (by first | assumption | omega)) (cwV 1 hts gX7_ranked_X7_of rfl rfl rfl (by decide +kernel) ⟨Nat.le_of_ble_eq_true rfl, Nat.le_of_ble_eq_true rfl⟩) hK hN hP hS hA [0, 1, 2, 3, 4] [0, 1] rfl rfl 0 5 rfl rfl rfl rfl hl.1 rfl (Nat.le_of_ble_eq_true rfl) dX7_ranked_31 ⟨Nat.zero_le _, Nat.zero_le _⟩ (fun H locs hz9 hP hS => ?_)
      refine wv_ti (y := nI n) of_0 ?_
      refine wv_icmp_ge (tgt := 68) hx hb (by omega) (by omega) dX7_ranked_34 (by decide) (fun c34 => ?_) (fun c34 => ?_)
      · skip
        refine lv_lload_n hx hb dX7_ranked_68 rfl (lv_at hl 2 rfl) ?_
        exact wv_lretM hx hb hr hlocks hP hD hS (by rw [show i = n by omega]) rfl dX7_ranked_69
      · skip
        have hr9 := rk0_le fl v n i
        refine lv_aload_n hx hb dX7_ranked_37 rfl (lv_at hl 0 rfl) ?_
        refine lv_iload hx hb dX7_ranked_38 (lv_at hl 3 rfl) ?_
        refine wv_callPi (As := [.int (nI i)]) (rest := []) ⟨hx, hb, hml, hown, hts⟩ (kX7_rank l D mo sa pa ha ta cJ cI n b fl me st lk cm v nu pt hd tx ps ru ty 0 lks lo1 hi1 sp cd pl gv i (by first | assumption | omega) (by first | assumption | omega)) (cwV 1 hts gX7_ranked_X7_rank rfl rfl rfl (by decide +kernel) ⟨Nat.le_of_ble_eq_true rfl, Nat.le_of_ble_eq_true rfl⟩) hK hN hP hS hA [0, 1, 2, 3, 4] [0, 1] rfl rfl 0 5 rfl rfl rfl rfl hl.1 rfl (Nat.le_of_ble_eq_true rfl) dX7_ranked_40 ⟨Nat.zero_le _, Nat.zero_le _⟩ (fun H locs hz9 hP hS => ?_)
        refine lv_iload_n hx hb dX7_ranked_43 rfl (lv_at hl 1 rfl) ?_
        refine wv_icmp_ne (tgt := 60) hx hb (by omega) (by omega) dX7_ranked_44 (by decide) (fun c44 => ?_) (fun c44 => ?_)
        · skip
          refine lv_lload_n hx hb dX7_ranked_60 rfl (lv_at hl 2 rfl) ?_
          refine lv_lstore_n (lv' := [(2, .long (rkd fl v n k (lN 0) i)), (0, .ref mo), (1, .int (nI k)), (4, .int (nI i))]) hx hb dX7_ranked_61 rfl hl (by decide) rfl (fun ls hl => ?_)
          refine lv_iinc (v := nI (i + 1)) (lv' := [(4, .int (nI (i + 1))), (2, .long (rkd fl v n k (lN 0) i)), (0, .ref mo), (1, .int (nI k))]) hx hb dX7_ranked_62 hl (k := 3) rfl (nI_1 _) (by decide) rfl (fun ls hl => ?_)
          refine lv_goto (tgt := 27) hx hb dX7_ranked_65 (by decide) ?_
          have el_l2 : rkd fl v n k (lN 0) (i + 1) = rkd fl v n k (lN 0) i := by first | exact if_pos c44 | exact if_neg c44
          exact ih27 (i + 1) (by omega) (by first | assumption | omega) _ _ (by first | (rw [el_l2]; exact hP) | (simp only [el_l2]; exact hP) | exact hP) (by first | (rw [el_l2]; exact hD) | (simp only [el_l2]; exact hD) | exact hD) hS ls (by first | (rw [el_l2]; exact lv_sub hl [2, 3, 1, 0] rfl) | (simp only [el_l2]; exact lv_sub hl [2, 3, 1, 0] rfl) | exact lv_sub hl [2, 3, 1, 0] rfl)
        · skip
          refine lv_aload_n hx hb dX7_ranked_47 rfl (lv_at hl 0 rfl) ?_
          refine va_get (D := D) (ci := 5) (C := RX7) (T := TX7) (N := 15) hx hb hts hinX7 hown hK hP 0 rfl rfl 0 (by decide) (hts (.fieldLink RX7 7 "NearRanksModel" "s" "[J") (by decide +kernel)) (fun _ h9 => h9) rfl dX7_ranked_48 ?_
          refine lv_bipush (v := nI 7) hx hb dX7_ranked_51 (by decide) ?_
          refine lv_iload hx hb dX7_ranked_53 (lv_at hl 3 rfl) ?_
          refine lv_iadd hx hb dX7_ranked_55 ?_
          refine wv_ti (nI_add _ _) ?_
          refine wv_lald hx hb hK hP 1 0 rfl rfl (k := 7 + i) (by omega) (by decide) dX7_ranked_56 ?_
          refine wv_tl (y := v i) (sM_v (by omega) (by omega)) ?_
          refine lv_goto (tgt := 61) hx hb dX7_ranked_57 (by decide) ?_
          refine lv_lstore_n (lv' := [(2, .long (v i)), (0, .ref mo), (1, .int (nI k)), (4, .int (nI i))]) hx hb dX7_ranked_61 rfl hl (by decide) rfl (fun ls hl => ?_)
          refine lv_iinc (v := nI (i + 1)) (lv' := [(4, .int (nI (i + 1))), (2, .long (v i)), (0, .ref mo), (1, .int (nI k))]) hx hb dX7_ranked_62 hl (k := 3) rfl (nI_1 _) (by decide) rfl (fun ls hl => ?_)
          refine lv_goto (tgt := 27) hx hb dX7_ranked_65 (by decide) ?_
          have el_l2 : rkd fl v n k (lN 0) (i + 1) = v i := by first | exact if_pos c44 | exact if_neg c44
          exact ih27 (i + 1) (by omega) (by first | assumption | omega) _ _ (by first | (rw [el_l2]; exact hP) | (simp only [el_l2]; exact hP) | exact hP) (by first | (rw [el_l2]; exact hD) | (simp only [el_l2]; exact hD) | exact hD) hS ls (by first | (rw [el_l2]; exact lv_sub hl [2, 3, 1, 0] rfl) | (simp only [el_l2]; exact lv_sub hl [2, 3, 1, 0] rfl) | exact lv_sub hl [2, 3, 1, 0] rfl)
  exact loop27 (n - 0 + 1) 0 (by omega) (by first | assumption | omega) _ _ (by first | (rw [el_l2]; exact hP) | (simp only [el_l2]; exact hP) | exact hP) (by first | (rw [el_l2]; exact hD) | (simp only [el_l2]; exact hD) | exact hD) hS ls (by first | (rw [el_l2]; exact lv_sub hl [2, 3, 1, 0] rfl) | (simp only [el_l2]; exact lv_sub hl [2, 3, 1, 0] rfl) | exact lv_sub hl [2, 3, 1, 0] rfl)

set_option maxHeartbeats 4000000 in
set_option maxRecDepth 100000 in
theorem kX7_broken (l : Launch) (D : va_G) (mo : Nat) (sa : Nat) (pa : Nat) (ha : Nat) (ta : Nat) (cJ : ClassId) (cI : ClassId) (n : Nat) (b : Nat) (fl : Bool) (me : Bool) (st : Int64) (lk : Int64) (cm : Int64) (v : Nat → Int64) (nu : Nat → Int64) (pt : Nat → Int64) (hd : Nat → Int64) (tx : Nat → Int32) (ps : Nat) (ru : Bool) (ty : Nat) (rf : Nat) (lks : Nat) (lo1 : Int32) (hi1 : Int32) (sp : Nat) (cd : Int32) (pl : Int32) (gv : Int64) (hn : n ≤ 32) (hb : b ≤ 31) : MMl l yX7_broken wsX7_broken ({ frames := 5, cells := 0, slots := 0, locals := 113 } : Room) [.ref mo] D (ModC mo sa pa ha ta cJ cI (sM n b fl me st lk cm v nu) pt hd tx ps ru ty rf lks lo1 hi1 sp cd pl gv) [(cJ, .long), (cI, .int)] (bst fl v n b n) (ModC mo sa pa ha ta cJ cI (sM n b fl me st lk cm v nu) pt hd tx ps ru ty 0 lks lo1 hi1 sp cd pl gv) := by
  refine MMl_of (cc := cX7_broken) (maxL := 1) (ret := some .long) (by decide +kernel) rfl (Nat.le_of_ble_eq_true rfl) ?_
  intro p e s m args below meth c hx hb hr hts hown hlocks hml hP hK hN hD ls hl
  have hown : s.vm.findClass RX7 = some m.cls := hown
  have hl : lv_has ls 1 [(0, .ref mo)] := hl
  have hS : va_S (va_A (ModC mo sa pa ha ta cJ cI (sM n b fl me st lk cm v nu) pt hd tx ps ru ty rf lks lo1 hi1 sp cd pl gv) s.heap.size) s.heap s.heap [] := va_S.rf
  have hA := wk_hA (ModC mo sa pa ha ta cJ cI (sM n b fl me st lk cm v nu) pt hd tx ps ru ty rf lks lo1 hi1 sp cd pl gv) s.heap.size
  have hD9 : True := trivial
  have hinX7 : ∀ w ∈ wsX70, w ∈ wsX7_broken := by decide +kernel
  refine lv_aload_n hx hb dX7_broken_0 rfl (lv_at hl 0 rfl) ?_
  refine lv_iconst (v := nI 0) hx hb dX7_broken_1 (by decide) ?_
  refine va_put (D := D) (ci := 5) (v := .int (nI 0)) (ty := .int) (C := RX7) (T := TX7) (N := 15) hx hb hts hinX7 tyX7 tyX7_ok nmX7 hown hK hP hD hS 0 rfl rfl 7 (by decide) (hts (.fieldLink RX7 25 "NearRanksModel" "refused" "I") (by decide +kernel)) (fun _ h9 => h9) rfl (by decide +kernel) rfl rfl (Nat.le_of_ble_eq_true rfl) dX7_broken_2 (fun H locs hP hD hS => ?_)
  have hP : va_P D vwCl (ModC mo sa pa ha ta cJ cI (sM n b fl me st lk cm v nu) pt hd tx ps ru ty 0 lks lo1 hi1 sp cd pl gv) H := hP
  have hD : va_D _ (ModC mo sa pa ha ta cJ cI (sM n b fl me st lk cm v nu) pt hd tx ps ru ty 0 lks lo1 hi1 sp cd pl gv) := hD
  refine lv_aload_n hx hb dX7_broken_5 rfl (lv_at hl 0 rfl) ?_
  refine wv_callPl (As := []) (rest := []) ⟨hx, hb, hml, hown, hts⟩ (kX7_brokenSet l D mo sa pa ha ta cJ cI n b fl me st lk cm v nu pt hd tx ps ru ty 0 lks lo1 hi1 sp cd pl gv (by first | assumption | omega) (by first | assumption | omega)) (cwV 0 hts gX7_broken_X7_brokenSet rfl rfl rfl (by decide +kernel) ⟨Nat.le_of_ble_eq_true rfl, Nat.le_of_ble_eq_true rfl⟩) hK hN hP hS hA [0, 1, 2, 3, 4] [0, 1] rfl rfl 0 5 rfl rfl rfl rfl hl.1 rfl (Nat.le_of_ble_eq_true rfl) dX7_broken_6 ⟨Nat.zero_le _, Nat.zero_le _⟩ (fun H locs hz9 hP hS => ?_)
  exact wv_lretM hx hb hr hlocks hP hD hS rfl rfl dX7_broken_9

set_option maxHeartbeats 4000000 in
set_option maxRecDepth 100000 in
theorem kX7_whole_bad (l : Launch) (D : va_G) (mo : Nat) (sa : Nat) (pa : Nat) (ha : Nat) (ta : Nat) (cJ : ClassId) (cI : ClassId) (n : Nat) (b : Nat) (fl : Bool) (me : Bool) (st : Int64) (lk : Int64) (cm : Int64) (v : Nat → Int64) (nu : Nat → Int64) (pt : Nat → Int64) (hd : Nat → Int64) (tx : Nat → Int32) (ps : Nat) (ru : Bool) (ty : Nat) (rf : Nat) (lks : Nat) (lo1 : Int32) (hi1 : Int32) (sp : Nat) (cd : Int32) (pl : Int32) (gv : Int64) (z : Int32) (hn : n ≤ 32) (hz : opn z 11 = false) : MMi l yX7_whole wsX7_whole ({ frames := 1, cells := 0, slots := 0, locals := 25 } : Room) [.ref mo, .int z] D (ModC mo sa pa ha ta cJ cI (sM n b fl me st lk cm v nu) pt hd tx ps ru ty rf lks lo1 hi1 sp cd pl gv) [(cJ, .long), (cI, .int)] (nI 0) (ModC mo sa pa ha ta cJ cI (sM n b fl me st lk cm v nu) pt hd tx ps ru ty 1 lks lo1 hi1 sp cd pl gv) := by
  refine MMi_of (cc := cX7_whole) (maxL := 2) (ret := some .int) (by decide +kernel) rfl (Nat.le_of_ble_eq_true rfl) ?_
  intro p e s m args below meth c hx hb hr hts hown hlocks hml hP hK hN hD ls hl
  have hown : s.vm.findClass RX7 = some m.cls := hown
  have hl : lv_has ls 2 [(0, .ref mo), (1, .int z)] := hl
  have hS : va_S (va_A (ModC mo sa pa ha ta cJ cI (sM n b fl me st lk cm v nu) pt hd tx ps ru ty rf lks lo1 hi1 sp cd pl gv) s.heap.size) s.heap s.heap [] := va_S.rf
  have hA := wk_hA (ModC mo sa pa ha ta cJ cI (sM n b fl me st lk cm v nu) pt hd tx ps ru ty rf lks lo1 hi1 sp cd pl gv) s.heap.size
  have hD9 : True := trivial
  refine lv_aload_n hx hb dX7_whole_0 rfl (lv_at hl 0 rfl) ?_
  refine lv_iload_n hx hb dX7_whole_1 rfl (lv_at hl 1 rfl) ?_
  refine lv_i2l (v := z.toInt64) hx hb dX7_whole_2 rfl ?_
  refine lv_lconst (v := lN 0) hx hb dX7_whole_3 rfl ?_
  refine lv_ldc2 (v := lN 11) hx hb hown (hts (.constantLong RX7 139 (11)) (by decide +kernel)) dX7_whole_4 ?_
  refine wv_callSi (As := [.long z.toInt64, .long (lN 0), .long (lN 11)]) (rest := [.ref mo]) ⟨hx, hb, hml, hown, hts⟩ (kX7_in l D z.toInt64 (lN 0) (lN 11)) (va_cwS 3 hts gX7_whole_X7_in rfl rfl rfl (by decide +kernel) ⟨Nat.le_of_ble_eq_true rfl, Nat.le_of_ble_eq_true rfl⟩) hK hN hP hS hA [] [] rfl rfl rfl hl.1 rfl (Nat.le_of_ble_eq_true rfl) dX7_whole_7 ⟨Nat.zero_le _, Nat.zero_le _⟩ (fun H locs hz9 hP hS => ?_)
  refine wv_ti (y := bI false) (by rw [wk_in_o z (by omega), hz]) ?_
  refine wv_ifeqB (tgt := 17) hx hb dX7_whole_10 (by decide) (fun _ => ?_) (fun h => by cases h)
  refine lv_iconst (v := nI 1) hx hb dX7_whole_17 (by decide) ?_
  refine wv_callMi (As := [.int (nI 1)]) (rest := []) (wr := []) (ws1 := ModC mo sa pa ha ta cJ cI (sM n b fl me st lk cm v nu) pt hd tx ps ru ty 1 lks lo1 hi1 sp cd pl gv) ⟨hx, hb, hml, hown, hts⟩ (kX7_throwsAt l D mo sa pa ha ta cJ cI n b fl me st lk cm v nu pt hd tx ps ru ty rf lks lo1 hi1 sp cd pl gv 1 (by first | assumption | omega)) (cwV 1 hts gX7_whole_X7_throwsAt rfl rfl rfl (by decide +kernel) ⟨Nat.le_of_ble_eq_true rfl, Nat.le_of_ble_eq_true rfl⟩) hK hN hP hD hS hA [0, 1, 2, 3, 4] [] [0, 1] [0, 1, 2, 3, 4] rfl rfl (by decide) rfl (by decide) (by decide) rfl (by decide) rfl 0 5 rfl rfl rfl rfl hl.1 rfl (Nat.le_of_ble_eq_true rfl) dX7_whole_18 ⟨Nat.zero_le _, Nat.zero_le _⟩ (fun H locs hz9 hP hD hS => ?_)
  refine wv_ti (y := bI true) (by decide) ?_
  refine wv_ifeqB (tgt := 28) hx hb dX7_whole_21 (by decide) (fun h => by cases h) (fun _ => ?_)
  refine lv_iconst (v := nI 0) hx hb dX7_whole_24 (by decide) ?_
  refine lv_goto (tgt := 33) hx hb dX7_whole_25 (by decide) ?_
  exact wv_iretM hx hb hr hlocks hP hD hS rfl rfl dX7_whole_33

set_option maxHeartbeats 4000000 in
set_option maxRecDepth 100000 in
theorem kX7_whole (l : Launch) (D : va_G) (mo : Nat) (sa : Nat) (pa : Nat) (ha : Nat) (ta : Nat) (cJ : ClassId) (cI : ClassId) (n : Nat) (b : Nat) (fl : Bool) (me : Bool) (st : Int64) (lk : Int64) (cm : Int64) (v : Nat → Int64) (nu : Nat → Int64) (pt : Nat → Int64) (hd : Nat → Int64) (tx : Nat → Int32) (ps : Nat) (ru : Bool) (ty : Nat) (rf : Nat) (lks : Nat) (lo1 : Int32) (hi1 : Int32) (sp : Nat) (cd : Int32) (pl : Int32) (gv : Int64) (w : Nat) (hn : n ≤ 32) (hb : b ≤ 31) (hw : w ≤ 11) : MMi l yX7_whole wsX7_whole ({ frames := 6, cells := 0, slots := 0, locals := 133 } : Room) [.ref mo, .int (nI w)] D (ModC mo sa pa ha ta cJ cI (sM n b fl me st lk cm v nu) pt hd tx ps ru ty rf lks lo1 hi1 sp cd pl gv) [(cJ, .long), (cI, .int)] (whV fl me v n b st.toInt32 lk.toInt32 cm.toInt32 ty w) (ModC mo sa pa ha ta cJ cI (sM n b fl me st lk cm v nu) pt hd tx ps ru ty 0 lks lo1 hi1 sp cd pl gv) := by
  refine MMi_of (cc := cX7_whole) (maxL := 2) (ret := some .int) (by decide +kernel) rfl (Nat.le_of_ble_eq_true rfl) ?_
  intro p e s m args below meth c hx hb hr hts hown hlocks hml hP hK hN hD ls hl
  have hown : s.vm.findClass RX7 = some m.cls := hown
  have hl : lv_has ls 2 [(0, .ref mo), (1, .int (nI w))] := hl
  have hS : va_S (va_A (ModC mo sa pa ha ta cJ cI (sM n b fl me st lk cm v nu) pt hd tx ps ru ty rf lks lo1 hi1 sp cd pl gv) s.heap.size) s.heap s.heap [] := va_S.rf
  have hA := wk_hA (ModC mo sa pa ha ta cJ cI (sM n b fl me st lk cm v nu) pt hd tx ps ru ty rf lks lo1 hi1 sp cd pl gv) s.heap.size
  have hD9 : True := trivial
  refine lv_aload_n hx hb dX7_whole_0 rfl (lv_at hl 0 rfl) ?_
  refine lv_iload_n hx hb dX7_whole_1 rfl (lv_at hl 1 rfl) ?_
  refine lv_i2l (v := lN w) hx hb dX7_whole_2 (nI_l (by omega)) ?_
  refine lv_lconst (v := lN 0) hx hb dX7_whole_3 rfl ?_
  refine lv_ldc2 (v := lN 11) hx hb hown (hts (.constantLong RX7 139 (11)) (by decide +kernel)) dX7_whole_4 ?_
  refine wv_callSi (As := [.long (lN w), .long (lN 0), .long (lN 11)]) (rest := [.ref mo]) ⟨hx, hb, hml, hown, hts⟩ (kX7_in l D (lN w) (lN 0) (lN 11)) (va_cwS 3 hts gX7_whole_X7_in rfl rfl rfl (by decide +kernel) ⟨Nat.le_of_ble_eq_true rfl, Nat.le_of_ble_eq_true rfl⟩) hK hN hP hS hA [] [] rfl rfl rfl hl.1 rfl (Nat.le_of_ble_eq_true rfl) dX7_whole_7 ⟨Nat.zero_le _, Nat.zero_le _⟩ (fun H locs hz9 hP hS => ?_)
  refine wv_ti (y := bI true) (by rw [wk_in_t (by omega) hw (by omega)]) ?_
  refine wv_ifeqB (tgt := 17) hx hb dX7_whole_10 (by decide) (fun h => by cases h) (fun _ => ?_)
  refine lv_iconst (v := nI 0) hx hb dX7_whole_13 (by decide) ?_
  refine lv_goto (tgt := 18) hx hb dX7_whole_14 (by decide) ?_
  refine wv_callMi (As := [.int (nI 0)]) (rest := []) (wr := []) (ws1 := ModC mo sa pa ha ta cJ cI (sM n b fl me st lk cm v nu) pt hd tx ps ru ty 0 lks lo1 hi1 sp cd pl gv) ⟨hx, hb, hml, hown, hts⟩ (kX7_throwsAt l D mo sa pa ha ta cJ cI n b fl me st lk cm v nu pt hd tx ps ru ty rf lks lo1 hi1 sp cd pl gv 0 (by first | assumption | omega)) (cwV 1 hts gX7_whole_X7_throwsAt rfl rfl rfl (by decide +kernel) ⟨Nat.le_of_ble_eq_true rfl, Nat.le_of_ble_eq_true rfl⟩) hK hN hP hD hS hA [0, 1, 2, 3, 4] [] [0, 1] [0, 1, 2, 3, 4] rfl rfl (by decide) rfl (by decide) (by decide) rfl (by decide) rfl 0 5 rfl rfl rfl rfl hl.1 rfl (Nat.le_of_ble_eq_true rfl) dX7_whole_18 ⟨Nat.zero_le _, Nat.zero_le _⟩ (fun H locs hz9 hP hD hS => ?_)
  refine wv_ti (y := bI false) (by decide) ?_
  refine wv_ifeqB (tgt := 28) hx hb dX7_whole_21 (by decide) (fun _ => ?_) (fun h => by cases h)
  refine lv_aload_n hx hb dX7_whole_28 rfl (lv_at hl 0 rfl) ?_
  refine lv_iload_n hx hb dX7_whole_29 rfl (lv_at hl 1 rfl) ?_
  refine wv_callPi (As := [.int (nI w)]) (rest := []) ⟨hx, hb, hml, hown, hts⟩ (kX7_wholeOf l D mo sa pa ha ta cJ cI n b fl me st lk cm v nu pt hd tx ps ru ty 0 lks lo1 hi1 sp cd pl gv w (by first | assumption | omega) (by first | assumption | omega) (by first | assumption | omega)) (cwV 1 hts gX7_whole_X7_wholeOf rfl rfl rfl (by decide +kernel) ⟨Nat.le_of_ble_eq_true rfl, Nat.le_of_ble_eq_true rfl⟩) hK hN hP hS hA [0, 1, 2, 3, 4] [0, 1] rfl rfl 0 5 rfl rfl rfl rfl hl.1 rfl (Nat.le_of_ble_eq_true rfl) dX7_whole_30 ⟨Nat.zero_le _, Nat.zero_le _⟩ (fun H locs hz9 hP hS => ?_)
  exact wv_iretM hx hb hr hlocks hP hD hS rfl rfl dX7_whole_33

set_option maxHeartbeats 4000000 in
set_option maxRecDepth 100000 in
theorem kX7_found_bad (l : Launch) (D : va_G) (mo : Nat) (sa : Nat) (pa : Nat) (ha : Nat) (ta : Nat) (cJ : ClassId) (cI : ClassId) (n : Nat) (b : Nat) (fl : Bool) (me : Bool) (st : Int64) (lk : Int64) (cm : Int64) (v : Nat → Int64) (nu : Nat → Int64) (pt : Nat → Int64) (hd : Nat → Int64) (tx : Nat → Int32) (ps : Nat) (ru : Bool) (ty : Nat) (rf : Nat) (lks : Nat) (lo1 : Int32) (hi1 : Int32) (sp : Nat) (cd : Int32) (pl : Int32) (gv : Int64) (x : Int64) (z : Int32) (hn : n ≤ 32) (hz : opn z 3 = false) : MMi l yX7_found wsX7_found ({ frames := 1, cells := 0, slots := 0, locals := 25 } : Room) [.ref mo, .long x, .int z] D (ModC mo sa pa ha ta cJ cI (sM n b fl me st lk cm v nu) pt hd tx ps ru ty rf lks lo1 hi1 sp cd pl gv) [(cJ, .long), (cI, .int)] (nI 0) (ModC mo sa pa ha ta cJ cI (sM n b fl me st lk cm v nu) pt hd tx ps ru ty 1 lks lo1 hi1 sp cd pl gv) := by
  refine MMi_of (cc := cX7_found) (maxL := 5) (ret := some .int) (by decide +kernel) rfl (Nat.le_of_ble_eq_true rfl) ?_
  intro p e s m args below meth c hx hb hr hts hown hlocks hml hP hK hN hD ls hl
  have hown : s.vm.findClass RX7 = some m.cls := hown
  have hl : lv_has ls 5 [(0, .ref mo), (1, .long x), (3, .int z)] := hl
  have hS : va_S (va_A (ModC mo sa pa ha ta cJ cI (sM n b fl me st lk cm v nu) pt hd tx ps ru ty rf lks lo1 hi1 sp cd pl gv) s.heap.size) s.heap s.heap [] := va_S.rf
  have hA := wk_hA (ModC mo sa pa ha ta cJ cI (sM n b fl me st lk cm v nu) pt hd tx ps ru ty rf lks lo1 hi1 sp cd pl gv) s.heap.size
  have hD9 : True := trivial
  refine lv_aload_n hx hb dX7_found_0 rfl (lv_at hl 0 rfl) ?_
  refine lv_iload_n hx hb dX7_found_1 rfl (lv_at hl 2 rfl) ?_
  refine lv_i2l (v := z.toInt64) hx hb dX7_found_2 rfl ?_
  refine lv_lconst (v := lN 0) hx hb dX7_found_3 rfl ?_
  refine lv_ldc2 (v := lN 3) hx hb hown (hts (.constantLong RX7 144 (3)) (by decide +kernel)) dX7_found_4 ?_
  refine wv_callSi (As := [.long z.toInt64, .long (lN 0), .long (lN 3)]) (rest := [.ref mo]) ⟨hx, hb, hml, hown, hts⟩ (kX7_in l D z.toInt64 (lN 0) (lN 3)) (va_cwS 3 hts gX7_found_X7_in rfl rfl rfl (by decide +kernel) ⟨Nat.le_of_ble_eq_true rfl, Nat.le_of_ble_eq_true rfl⟩) hK hN hP hS hA [] [] rfl rfl rfl hl.1 rfl (Nat.le_of_ble_eq_true rfl) dX7_found_7 ⟨Nat.zero_le _, Nat.zero_le _⟩ (fun H locs hz9 hP hS => ?_)
  refine wv_ti (y := bI false) (by rw [wk_in_o z (by omega), hz]) ?_
  refine wv_ifeqB (tgt := 17) hx hb dX7_found_10 (by decide) (fun _ => ?_) (fun h => by cases h)
  refine lv_iconst (v := nI 1) hx hb dX7_found_17 (by decide) ?_
  refine wv_callMi (As := [.int (nI 1)]) (rest := []) (wr := []) (ws1 := ModC mo sa pa ha ta cJ cI (sM n b fl me st lk cm v nu) pt hd tx ps ru ty 1 lks lo1 hi1 sp cd pl gv) ⟨hx, hb, hml, hown, hts⟩ (kX7_throwsAt l D mo sa pa ha ta cJ cI n b fl me st lk cm v nu pt hd tx ps ru ty rf lks lo1 hi1 sp cd pl gv 1 (by first | assumption | omega)) (cwV 1 hts gX7_found_X7_throwsAt rfl rfl rfl (by decide +kernel) ⟨Nat.le_of_ble_eq_true rfl, Nat.le_of_ble_eq_true rfl⟩) hK hN hP hD hS hA [0, 1, 2, 3, 4] [] [0, 1] [0, 1, 2, 3, 4] rfl rfl (by decide) rfl (by decide) (by decide) rfl (by decide) rfl 0 5 rfl rfl rfl rfl hl.1 rfl (Nat.le_of_ble_eq_true rfl) dX7_found_18 ⟨Nat.zero_le _, Nat.zero_le _⟩ (fun H locs hz9 hP hD hS => ?_)
  refine wv_ti (y := bI true) (by decide) ?_
  refine wv_ifeqB (tgt := 26) hx hb dX7_found_21 (by decide) (fun h => by cases h) (fun _ => ?_)
  refine lv_iconst (v := nI 0) hx hb dX7_found_24 (by decide) ?_
  exact wv_iretM hx hb hr hlocks hP hD hS rfl rfl dX7_found_25

set_option maxHeartbeats 4000000 in
set_option maxRecDepth 100000 in
theorem kX7_found (l : Launch) (D : va_G) (mo : Nat) (sa : Nat) (pa : Nat) (ha : Nat) (ta : Nat) (cJ : ClassId) (cI : ClassId) (n : Nat) (b : Nat) (fl : Bool) (me : Bool) (st : Int64) (lk : Int64) (cm : Int64) (v : Nat → Int64) (nu : Nat → Int64) (pt : Nat → Int64) (hd : Nat → Int64) (tx : Nat → Int32) (ps : Nat) (ru : Bool) (ty : Nat) (rf : Nat) (lks : Nat) (lo1 : Int32) (hi1 : Int32) (sp : Nat) (cd : Int32) (pl : Int32) (gv : Int64) (x : Int64) (w : Nat) (hn : n ≤ 32) (hb : b ≤ 31) (hw : w ≤ 3) : MMi l yX7_found wsX7_found ({ frames := 2, cells := 0, slots := 0, locals := 50 } : Room) [.ref mo, .long x, .int (nI w)] D (ModC mo sa pa ha ta cJ cI (sM n b fl me st lk cm v nu) pt hd tx ps ru ty rf lks lo1 hi1 sp cd pl gv) [(cJ, .long), (cI, .int)] (fdV fl v n b x w) (ModC mo sa pa ha ta cJ cI (sM n b fl me st lk cm v nu) pt hd tx ps ru ty 0 (sr2 fl v n b x) (sr3 fl v n b x) (sr4 fl v n b x) sp cd pl gv) := by
  refine MMi_of (cc := cX7_found) (maxL := 5) (ret := some .int) (by decide +kernel) rfl (Nat.le_of_ble_eq_true rfl) ?_
  intro p e s m args below meth c hx hb hr hts hown hlocks hml hP hK hN hD ls hl
  have hown : s.vm.findClass RX7 = some m.cls := hown
  have hl : lv_has ls 5 [(0, .ref mo), (1, .long x), (3, .int (nI w))] := hl
  have hS : va_S (va_A (ModC mo sa pa ha ta cJ cI (sM n b fl me st lk cm v nu) pt hd tx ps ru ty rf lks lo1 hi1 sp cd pl gv) s.heap.size) s.heap s.heap [] := va_S.rf
  have hA := wk_hA (ModC mo sa pa ha ta cJ cI (sM n b fl me st lk cm v nu) pt hd tx ps ru ty rf lks lo1 hi1 sp cd pl gv) s.heap.size
  have hD9 : True := trivial
  have hinX7 : ∀ w ∈ wsX70, w ∈ wsX7_found := by decide +kernel
  refine lv_aload_n hx hb dX7_found_0 rfl (lv_at hl 0 rfl) ?_
  refine lv_iload_n hx hb dX7_found_1 rfl (lv_at hl 2 rfl) ?_
  refine lv_i2l (v := lN w) hx hb dX7_found_2 (nI_l (by omega)) ?_
  refine lv_lconst (v := lN 0) hx hb dX7_found_3 rfl ?_
  refine lv_ldc2 (v := lN 3) hx hb hown (hts (.constantLong RX7 144 (3)) (by decide +kernel)) dX7_found_4 ?_
  refine wv_callSi (As := [.long (lN w), .long (lN 0), .long (lN 3)]) (rest := [.ref mo]) ⟨hx, hb, hml, hown, hts⟩ (kX7_in l D (lN w) (lN 0) (lN 3)) (va_cwS 3 hts gX7_found_X7_in rfl rfl rfl (by decide +kernel) ⟨Nat.le_of_ble_eq_true rfl, Nat.le_of_ble_eq_true rfl⟩) hK hN hP hS hA [] [] rfl rfl rfl hl.1 rfl (Nat.le_of_ble_eq_true rfl) dX7_found_7 ⟨Nat.zero_le _, Nat.zero_le _⟩ (fun H locs hz9 hP hS => ?_)
  refine wv_ti (y := bI true) (by rw [wk_in_t (by omega) hw (by omega)]) ?_
  refine wv_ifeqB (tgt := 17) hx hb dX7_found_10 (by decide) (fun h => by cases h) (fun _ => ?_)
  refine lv_iconst (v := nI 0) hx hb dX7_found_13 (by decide) ?_
  refine lv_goto (tgt := 18) hx hb dX7_found_14 (by decide) ?_
  refine wv_callMi (As := [.int (nI 0)]) (rest := []) (wr := []) (ws1 := ModC mo sa pa ha ta cJ cI (sM n b fl me st lk cm v nu) pt hd tx ps ru ty 0 lks lo1 hi1 sp cd pl gv) ⟨hx, hb, hml, hown, hts⟩ (kX7_throwsAt l D mo sa pa ha ta cJ cI n b fl me st lk cm v nu pt hd tx ps ru ty rf lks lo1 hi1 sp cd pl gv 0 (by first | assumption | omega)) (cwV 1 hts gX7_found_X7_throwsAt rfl rfl rfl (by decide +kernel) ⟨Nat.le_of_ble_eq_true rfl, Nat.le_of_ble_eq_true rfl⟩) hK hN hP hD hS hA [0, 1, 2, 3, 4] [] [0, 1] [0, 1, 2, 3, 4] rfl rfl (by decide) rfl (by decide) (by decide) rfl (by decide) rfl 0 5 rfl rfl rfl rfl hl.1 rfl (Nat.le_of_ble_eq_true rfl) dX7_found_18 ⟨Nat.zero_le _, Nat.zero_le _⟩ (fun H locs hz9 hP hD hS => ?_)
  refine wv_ti (y := bI false) (by decide) ?_
  refine wv_ifeqB (tgt := 26) hx hb dX7_found_21 (by decide) (fun _ => ?_) (fun h => by cases h)
  refine lv_aload_n hx hb dX7_found_26 rfl (lv_at hl 0 rfl) ?_
  refine lv_lload_n hx hb dX7_found_27 rfl (lv_at hl 1 rfl) ?_
  refine wv_callMi (As := [.long x]) (rest := []) (wr := []) (ws1 := ModC mo sa pa ha ta cJ cI (sM n b fl me st lk cm v nu) pt hd tx ps ru ty 0 (sr2 fl v n b x) (sr3 fl v n b x) (sr4 fl v n b x) sp cd pl gv) ⟨hx, hb, hml, hown, hts⟩ (kX7_searches l D mo sa pa ha ta cJ cI n b fl me st lk cm v nu pt hd tx ps ru ty 0 lks lo1 hi1 sp cd pl gv x (by first | assumption | omega) (by first | assumption | omega)) (cwV 1 hts gX7_found_X7_searches rfl rfl rfl (by decide +kernel) ⟨Nat.le_of_ble_eq_true rfl, Nat.le_of_ble_eq_true rfl⟩) hK hN hP hD hS hA [0, 1, 2, 3, 4] [] [0, 1] [0, 1, 2, 3, 4] rfl rfl (by decide) rfl (by decide) (by decide) rfl (by decide) rfl 0 5 rfl rfl rfl rfl hl.1 rfl (Nat.le_of_ble_eq_true rfl) dX7_found_28 ⟨Nat.zero_le _, Nat.zero_le _⟩ (fun H locs hz9 hP hD hS => ?_)
  refine lv_istore (lv' := [(4, .int (oI (sr1 fl v n b x))), (0, .ref mo), (1, .long x), (3, .int (nI w))]) hx hb dX7_found_31 hl (by decide) rfl (fun ls hl => ?_)
  rcases (show w = 0 ∨ w = 1 ∨ w = 2 ∨ w = 3 by omega) with rfl | rfl | rfl | rfl
  · skip
    refine lv_iload_n hx hb dX7_found_33 rfl (lv_at hl 3 rfl) ?_
    refine lv_if_ne (tgt := 42) hx hb dX7_found_34 (by decide) (fun h => absurd h (by decide)) (fun _ => ?_)
    refine lv_iload hx hb dX7_found_37 (lv_at hl 0 rfl) ?_
    refine lv_goto (tgt := 70) hx hb dX7_found_39 (by decide) ?_
    exact wv_iretM hx hb hr hlocks hP hD hS (by rfl) rfl dX7_found_70
  · skip
    refine lv_iload_n hx hb dX7_found_33 rfl (lv_at hl 3 rfl) ?_
    refine lv_if_ne (tgt := 42) hx hb dX7_found_34 (by decide) (fun _ => ?_) (fun h => absurd h (by decide))
    refine lv_iload_n hx hb dX7_found_42 rfl (lv_at hl 3 rfl) ?_
    refine lv_iconst (v := nI 1) hx hb dX7_found_43 (by decide) ?_
    refine wv_icmp_ne (tgt := 54) hx hb (by omega) (by omega) dX7_found_44 (by decide) (fun h => absurd h (by decide)) (fun _ => ?_)
    refine lv_aload_n hx hb dX7_found_47 rfl (lv_at hl 1 rfl) ?_
    refine va_get (D := D) (ci := 5) (C := RX7) (T := TX7) (N := 15) hx hb hts hinX7 hown hK hP 0 rfl rfl 8 (by decide) (hts (.fieldLink RX7 107 "NearRanksModel" "looks" "I") (by decide +kernel)) (fun _ h9 => h9) rfl dX7_found_48 ?_
    refine lv_goto (tgt := 70) hx hb dX7_found_51 (by decide) ?_
    exact wv_iretM hx hb hr hlocks hP hD hS (by rfl) rfl dX7_found_70
  · skip
    refine lv_iload_n hx hb dX7_found_33 rfl (lv_at hl 3 rfl) ?_
    refine lv_if_ne (tgt := 42) hx hb dX7_found_34 (by decide) (fun _ => ?_) (fun h => absurd h (by decide))
    refine lv_iload_n hx hb dX7_found_42 rfl (lv_at hl 3 rfl) ?_
    refine lv_iconst (v := nI 1) hx hb dX7_found_43 (by decide) ?_
    refine wv_icmp_ne (tgt := 54) hx hb (by omega) (by omega) dX7_found_44 (by decide) (fun _ => ?_) (fun h => absurd h (by decide))
    refine lv_iload_n hx hb dX7_found_54 rfl (lv_at hl 3 rfl) ?_
    refine lv_iconst (v := nI 2) hx hb dX7_found_55 (by decide) ?_
    refine wv_icmp_ne (tgt := 66) hx hb (by omega) (by omega) dX7_found_56 (by decide) (fun h => absurd h (by decide)) (fun _ => ?_)
    refine lv_aload_n hx hb dX7_found_59 rfl (lv_at hl 1 rfl) ?_
    refine va_get (D := D) (ci := 5) (C := RX7) (T := TX7) (N := 15) hx hb hts hinX7 hown hK hP 0 rfl rfl 9 (by decide) (hts (.fieldLink RX7 110 "NearRanksModel" "lowThen" "I") (by decide +kernel)) (fun _ h9 => h9) rfl dX7_found_60 ?_
    refine lv_goto (tgt := 70) hx hb dX7_found_63 (by decide) ?_
    exact wv_iretM hx hb hr hlocks hP hD hS (by rfl) rfl dX7_found_70
  · skip
    refine lv_iload_n hx hb dX7_found_33 rfl (lv_at hl 3 rfl) ?_
    refine lv_if_ne (tgt := 42) hx hb dX7_found_34 (by decide) (fun _ => ?_) (fun h => absurd h (by decide))
    refine lv_iload_n hx hb dX7_found_42 rfl (lv_at hl 3 rfl) ?_
    refine lv_iconst (v := nI 1) hx hb dX7_found_43 (by decide) ?_
    refine wv_icmp_ne (tgt := 54) hx hb (by omega) (by omega) dX7_found_44 (by decide) (fun _ => ?_) (fun h => absurd h (by decide))
    refine lv_iload_n hx hb dX7_found_54 rfl (lv_at hl 3 rfl) ?_
    refine lv_iconst (v := nI 2) hx hb dX7_found_55 (by decide) ?_
    refine wv_icmp_ne (tgt := 66) hx hb (by omega) (by omega) dX7_found_56 (by decide) (fun _ => ?_) (fun h => absurd h (by decide))
    refine lv_aload_n hx hb dX7_found_66 rfl (lv_at hl 1 rfl) ?_
    refine va_get (D := D) (ci := 5) (C := RX7) (T := TX7) (N := 15) hx hb hts hinX7 hown hK hP 0 rfl rfl 10 (by decide) (hts (.fieldLink RX7 113 "NearRanksModel" "highThen" "I") (by decide +kernel)) (fun _ h9 => h9) rfl dX7_found_67 ?_
    exact wv_iretM hx hb hr hlocks hP hD hS (by rfl) rfl dX7_found_70

set_option maxHeartbeats 4000000 in
set_option maxRecDepth 100000 in
theorem kX7_worstSearch (l : Launch) (D : va_G) (mo : Nat) (sa : Nat) (pa : Nat) (ha : Nat) (ta : Nat) (cJ : ClassId) (cI : ClassId) (n : Nat) (b : Nat) (fl : Bool) (me : Bool) (st : Int64) (lk : Int64) (cm : Int64) (v : Nat → Int64) (nu : Nat → Int64) (pt : Nat → Int64) (hd : Nat → Int64) (tx : Nat → Int32) (ps : Nat) (ru : Bool) (ty : Nat) (rf : Nat) (lks : Nat) (lo1 : Int32) (hi1 : Int32) (sp : Nat) (cd : Int32) (pl : Int32) (gv : Int64) (hn : n ≤ 32) (hb : b ≤ 31) : MMi l yX7_worstSearch wsX7_worstSearch ({ frames := 3, cells := 0, slots := 0, locals := 73 } : Room) [.ref mo] D (ModC mo sa pa ha ta cJ cI (sM n b fl me st lk cm v nu) pt hd tx ps ru ty rf lks lo1 hi1 sp cd pl gv) [(cJ, .long), (cI, .int)] (nI (mx (fun j => sr2 fl v n b (v j)) n)) (ModC mo sa pa ha ta cJ cI (sM n b fl me st lk cm v nu) pt hd tx ps ru ty 0 (lst lks (fun j => sr2 fl v n b (v j)) n) (lst lo1 (fun j => sr3 fl v n b (v j)) n) (lst hi1 (fun j => sr4 fl v n b (v j)) n) sp cd pl gv) := by
  refine MMi_of (cc := cX7_worstSearch) (maxL := 1) (ret := some .int) (by decide +kernel) rfl (Nat.le_of_ble_eq_true rfl) ?_
  intro p e s m args below meth c hx hb hr hts hown hlocks hml hP hK hN hD ls hl
  have hown : s.vm.findClass RX7 = some m.cls := hown
  have hl : lv_has ls 1 [(0, .ref mo)] := hl
  have hS : va_S (va_A (ModC mo sa pa ha ta cJ cI (sM n b fl me st lk cm v nu) pt hd tx ps ru ty rf lks lo1 hi1 sp cd pl gv) s.heap.size) s.heap s.heap [] := va_S.rf
  have hA := wk_hA (ModC mo sa pa ha ta cJ cI (sM n b fl me st lk cm v nu) pt hd tx ps ru ty rf lks lo1 hi1 sp cd pl gv) s.heap.size
  have hD9 : True := trivial
  have hinX7 : ∀ w ∈ wsX70, w ∈ wsX7_worstSearch := by decide +kernel
  refine lv_aload_n hx hb dX7_worstSearch_0 rfl (lv_at hl 0 rfl) ?_
  refine lv_iconst (v := nI 0) hx hb dX7_worstSearch_1 (by decide) ?_
  refine va_put (D := D) (ci := 5) (v := .int (nI 0)) (ty := .int) (C := RX7) (T := TX7) (N := 15) hx hb hts hinX7 tyX7 tyX7_ok nmX7 hown hK hP hD hS 0 rfl rfl 7 (by decide) (hts (.fieldLink RX7 25 "NearRanksModel" "refused" "I") (by decide +kernel)) (fun _ h9 => h9) rfl (by decide +kernel) rfl rfl (Nat.le_of_ble_eq_true rfl) dX7_worstSearch_2 (fun H locs hP hD hS => ?_)
  have hP : va_P D vwCl (ModC mo sa pa ha ta cJ cI (sM n b fl me st lk cm v nu) pt hd tx ps ru ty 0 lks lo1 hi1 sp cd pl gv) H := hP
  have hD : va_D _ (ModC mo sa pa ha ta cJ cI (sM n b fl me st lk cm v nu) pt hd tx ps ru ty 0 lks lo1 hi1 sp cd pl gv) := hD
  refine lv_aload_n hx hb dX7_worstSearch_5 rfl (lv_at hl 0 rfl) ?_
  refine wv_callMi (As := []) (rest := []) (wr := []) (ws1 := ModC mo sa pa ha ta cJ cI (sM n b fl me st lk cm v nu) pt hd tx ps ru ty 0 (lst lks (fun j => sr2 fl v n b (v j)) n) (lst lo1 (fun j => sr3 fl v n b (v j)) n) (lst hi1 (fun j => sr4 fl v n b (v j)) n) sp cd pl gv) ⟨hx, hb, hml, hown, hts⟩ (kX7_worst l D mo sa pa ha ta cJ cI n b fl me st lk cm v nu pt hd tx ps ru ty 0 lks lo1 hi1 sp cd pl gv (by first | assumption | omega) (by first | assumption | omega)) (cwV 0 hts gX7_worstSearch_X7_worst rfl rfl rfl (by decide +kernel) ⟨Nat.le_of_ble_eq_true rfl, Nat.le_of_ble_eq_true rfl⟩) hK hN hP hD hS hA [0, 1, 2, 3, 4] [] [0, 1] [0, 1, 2, 3, 4] rfl rfl (by decide) rfl (by decide) (by decide) rfl (by decide) rfl 0 5 rfl rfl rfl rfl hl.1 rfl (Nat.le_of_ble_eq_true rfl) dX7_worstSearch_6 ⟨Nat.zero_le _, Nat.zero_le _⟩ (fun H locs hz9 hP hD hS => ?_)
  exact wv_iretM hx hb hr hlocks hP hD hS rfl rfl dX7_worstSearch_9

set_option maxHeartbeats 4000000 in
set_option maxRecDepth 100000 in
theorem kX7_lostValues (l : Launch) (D : va_G) (mo : Nat) (sa : Nat) (pa : Nat) (ha : Nat) (ta : Nat) (cJ : ClassId) (cI : ClassId) (n : Nat) (b : Nat) (fl : Bool) (me : Bool) (st : Int64) (lk : Int64) (cm : Int64) (v : Nat → Int64) (nu : Nat → Int64) (pt : Nat → Int64) (hd : Nat → Int64) (tx : Nat → Int32) (ps : Nat) (ru : Bool) (ty : Nat) (rf : Nat) (lks : Nat) (lo1 : Int32) (hi1 : Int32) (sp : Nat) (cd : Int32) (pl : Int32) (gv : Int64) (hn : n ≤ 32) (hb : b ≤ 31) : MMi l yX7_lostValues wsX7_lostValues ({ frames := 3, cells := 0, slots := 0, locals := 72 } : Room) [.ref mo] D (ModC mo sa pa ha ta cJ cI (sM n b fl me st lk cm v nu) pt hd tx ps ru ty rf lks lo1 hi1 sp cd pl gv) [(cJ, .long), (cI, .int)] (nI (cnt (fun j => decide (sr1 fl v n b (v j) = none)) n)) (ModC mo sa pa ha ta cJ cI (sM n b fl me st lk cm v nu) pt hd tx ps ru ty 0 (lst lks (fun j => sr2 fl v n b (v j)) n) (lst lo1 (fun j => sr3 fl v n b (v j)) n) (lst hi1 (fun j => sr4 fl v n b (v j)) n) sp cd pl gv) := by
  refine MMi_of (cc := cX7_lostValues) (maxL := 1) (ret := some .int) (by decide +kernel) rfl (Nat.le_of_ble_eq_true rfl) ?_
  intro p e s m args below meth c hx hb hr hts hown hlocks hml hP hK hN hD ls hl
  have hown : s.vm.findClass RX7 = some m.cls := hown
  have hl : lv_has ls 1 [(0, .ref mo)] := hl
  have hS : va_S (va_A (ModC mo sa pa ha ta cJ cI (sM n b fl me st lk cm v nu) pt hd tx ps ru ty rf lks lo1 hi1 sp cd pl gv) s.heap.size) s.heap s.heap [] := va_S.rf
  have hA := wk_hA (ModC mo sa pa ha ta cJ cI (sM n b fl me st lk cm v nu) pt hd tx ps ru ty rf lks lo1 hi1 sp cd pl gv) s.heap.size
  have hD9 : True := trivial
  have hinX7 : ∀ w ∈ wsX70, w ∈ wsX7_lostValues := by decide +kernel
  refine lv_aload_n hx hb dX7_lostValues_0 rfl (lv_at hl 0 rfl) ?_
  refine lv_iconst (v := nI 0) hx hb dX7_lostValues_1 (by decide) ?_
  refine va_put (D := D) (ci := 5) (v := .int (nI 0)) (ty := .int) (C := RX7) (T := TX7) (N := 15) hx hb hts hinX7 tyX7 tyX7_ok nmX7 hown hK hP hD hS 0 rfl rfl 7 (by decide) (hts (.fieldLink RX7 25 "NearRanksModel" "refused" "I") (by decide +kernel)) (fun _ h9 => h9) rfl (by decide +kernel) rfl rfl (Nat.le_of_ble_eq_true rfl) dX7_lostValues_2 (fun H locs hP hD hS => ?_)
  have hP : va_P D vwCl (ModC mo sa pa ha ta cJ cI (sM n b fl me st lk cm v nu) pt hd tx ps ru ty 0 lks lo1 hi1 sp cd pl gv) H := hP
  have hD : va_D _ (ModC mo sa pa ha ta cJ cI (sM n b fl me st lk cm v nu) pt hd tx ps ru ty 0 lks lo1 hi1 sp cd pl gv) := hD
  refine lv_aload_n hx hb dX7_lostValues_5 rfl (lv_at hl 0 rfl) ?_
  refine wv_callMi (As := []) (rest := []) (wr := []) (ws1 := ModC mo sa pa ha ta cJ cI (sM n b fl me st lk cm v nu) pt hd tx ps ru ty 0 (lst lks (fun j => sr2 fl v n b (v j)) n) (lst lo1 (fun j => sr3 fl v n b (v j)) n) (lst hi1 (fun j => sr4 fl v n b (v j)) n) sp cd pl gv) ⟨hx, hb, hml, hown, hts⟩ (kX7_lost l D mo sa pa ha ta cJ cI n b fl me st lk cm v nu pt hd tx ps ru ty 0 lks lo1 hi1 sp cd pl gv (by first | assumption | omega) (by first | assumption | omega)) (cwV 0 hts gX7_lostValues_X7_lost rfl rfl rfl (by decide +kernel) ⟨Nat.le_of_ble_eq_true rfl, Nat.le_of_ble_eq_true rfl⟩) hK hN hP hD hS hA [0, 1, 2, 3, 4] [] [0, 1] [0, 1, 2, 3, 4] rfl rfl (by decide) rfl (by decide) (by decide) rfl (by decide) rfl 0 5 rfl rfl rfl rfl hl.1 rfl (Nat.le_of_ble_eq_true rfl) dX7_lostValues_6 ⟨Nat.zero_le _, Nat.zero_le _⟩ (fun H locs hz9 hP hD hS => ?_)
  exact wv_iretM hx hb hr hlocks hP hD hS rfl rfl dX7_lostValues_9

set_option maxHeartbeats 4000000 in
set_option maxRecDepth 100000 in
theorem kX7_stepsFor_bad (l : Launch) (D : va_G) (mo : Nat) (sa : Nat) (pa : Nat) (ha : Nat) (ta : Nat) (cJ : ClassId) (cI : ClassId) (n : Nat) (b : Nat) (fl : Bool) (me : Bool) (st : Int64) (lk : Int64) (cm : Int64) (v : Nat → Int64) (nu : Nat → Int64) (pt : Nat → Int64) (hd : Nat → Int64) (tx : Nat → Int32) (ps : Nat) (ru : Bool) (ty : Nat) (rf : Nat) (lks : Nat) (lo1 : Int32) (hi1 : Int32) (sp : Nat) (cd : Int32) (pl : Int32) (gv : Int64) (z : Int32) (hn : n ≤ 32) (hz : inB z = false) : MMi l yX7_stepsFor wsX7_stepsFor ({ frames := 1, cells := 0, slots := 0, locals := 25 } : Room) [.ref mo, .int z] D (ModC mo sa pa ha ta cJ cI (sM n b fl me st lk cm v nu) pt hd tx ps ru ty rf lks lo1 hi1 sp cd pl gv) [(cJ, .long), (cI, .int)] (nI 0) (ModC mo sa pa ha ta cJ cI (sM n b fl me st lk cm v nu) pt hd tx ps ru ty 1 lks lo1 hi1 sp cd pl gv) := by
  refine MMi_of (cc := cX7_stepsFor) (maxL := 3) (ret := some .int) (by decide +kernel) rfl (Nat.le_of_ble_eq_true rfl) ?_
  intro p e s m args below meth c hx hb hr hts hown hlocks hml hP hK hN hD ls hl
  have hown : s.vm.findClass RX7 = some m.cls := hown
  have hl : lv_has ls 3 [(0, .ref mo), (1, .int z)] := hl
  have hS : va_S (va_A (ModC mo sa pa ha ta cJ cI (sM n b fl me st lk cm v nu) pt hd tx ps ru ty rf lks lo1 hi1 sp cd pl gv) s.heap.size) s.heap s.heap [] := va_S.rf
  have hA := wk_hA (ModC mo sa pa ha ta cJ cI (sM n b fl me st lk cm v nu) pt hd tx ps ru ty rf lks lo1 hi1 sp cd pl gv) s.heap.size
  have hD9 : True := trivial
  refine lv_aload_n hx hb dX7_stepsFor_0 rfl (lv_at hl 0 rfl) ?_
  refine lv_iload_n hx hb dX7_stepsFor_1 rfl (lv_at hl 1 rfl) ?_
  refine lv_i2l (v := z.toInt64) hx hb dX7_stepsFor_2 rfl ?_
  refine lv_lconst (v := lN 0) hx hb dX7_stepsFor_3 rfl ?_
  refine lv_ldc2 (v := lN 31) hx hb hown (hts (.constantLong RX7 99 (31)) (by decide +kernel)) dX7_stepsFor_4 ?_
  refine wv_callSi (As := [.long z.toInt64, .long (lN 0), .long (lN 31)]) (rest := [.ref mo]) ⟨hx, hb, hml, hown, hts⟩ (kX7_in l D z.toInt64 (lN 0) (lN 31)) (va_cwS 3 hts gX7_stepsFor_X7_in rfl rfl rfl (by decide +kernel) ⟨Nat.le_of_ble_eq_true rfl, Nat.le_of_ble_eq_true rfl⟩) hK hN hP hS hA [] [] rfl rfl rfl hl.1 rfl (Nat.le_of_ble_eq_true rfl) dX7_stepsFor_7 ⟨Nat.zero_le _, Nat.zero_le _⟩ (fun H locs hz9 hP hS => ?_)
  refine wv_ti (y := bI false) (by rw [wk_in_o z (by omega)]; exact congrArg bI hz) ?_
  refine wv_ifeqB (tgt := 17) hx hb dX7_stepsFor_10 (by decide) (fun _ => ?_) (fun h => by cases h)
  refine lv_iconst (v := nI 1) hx hb dX7_stepsFor_17 (by decide) ?_
  refine wv_callMi (As := [.int (nI 1)]) (rest := []) (wr := []) (ws1 := ModC mo sa pa ha ta cJ cI (sM n b fl me st lk cm v nu) pt hd tx ps ru ty 1 lks lo1 hi1 sp cd pl gv) ⟨hx, hb, hml, hown, hts⟩ (kX7_throwsAt l D mo sa pa ha ta cJ cI n b fl me st lk cm v nu pt hd tx ps ru ty rf lks lo1 hi1 sp cd pl gv 1 (by first | assumption | omega)) (cwV 1 hts gX7_stepsFor_X7_throwsAt rfl rfl rfl (by decide +kernel) ⟨Nat.le_of_ble_eq_true rfl, Nat.le_of_ble_eq_true rfl⟩) hK hN hP hD hS hA [0, 1, 2, 3, 4] [] [0, 1] [0, 1, 2, 3, 4] rfl rfl (by decide) rfl (by decide) (by decide) rfl (by decide) rfl 0 5 rfl rfl rfl rfl hl.1 rfl (Nat.le_of_ble_eq_true rfl) dX7_stepsFor_18 ⟨Nat.zero_le _, Nat.zero_le _⟩ (fun H locs hz9 hP hD hS => ?_)
  refine wv_ti (y := bI true) (by decide) ?_
  refine wv_ifeqB (tgt := 26) hx hb dX7_stepsFor_21 (by decide) (fun h => by cases h) (fun _ => ?_)
  refine lv_iconst (v := nI 0) hx hb dX7_stepsFor_24 (by decide) ?_
  exact wv_iretM hx hb hr hlocks hP hD hS rfl rfl dX7_stepsFor_25

set_option maxHeartbeats 4000000 in
set_option maxRecDepth 100000 in
theorem kX7_stepsFor (l : Launch) (D : va_G) (mo : Nat) (sa : Nat) (pa : Nat) (ha : Nat) (ta : Nat) (cJ : ClassId) (cI : ClassId) (n : Nat) (b : Nat) (fl : Bool) (me : Bool) (st : Int64) (lk : Int64) (cm : Int64) (v : Nat → Int64) (nu : Nat → Int64) (pt : Nat → Int64) (hd : Nat → Int64) (tx : Nat → Int32) (ps : Nat) (ru : Bool) (ty : Nat) (rf : Nat) (lks : Nat) (lo1 : Int32) (hi1 : Int32) (sp : Nat) (cd : Int32) (pl : Int32) (gv : Int64) (k : Nat) (hn : n ≤ 32) (hk : k ≤ 31) : MMi l yX7_stepsFor wsX7_stepsFor ({ frames := 6, cells := 0, slots := 0, locals := 134 } : Room) [.ref mo, .int (nI k)] D (ModC mo sa pa ha ta cJ cI (sM n b fl me st lk cm v nu) pt hd tx ps ru ty rf lks lo1 hi1 sp cd pl gv) [(cJ, .long), (cI, .int)] (nI ((mL fl n k 1000 v).length)) (ModC mo sa pa ha ta cJ cI (sM n b fl me st lk cm v nu) pt (cpk (sM n b fl me st lk cm v nu) hd 71) tx ps ru ty 0 lks lo1 hi1 sp cd pl gv) := by
  refine MMi_of (cc := cX7_stepsFor) (maxL := 3) (ret := some .int) (by decide +kernel) rfl (Nat.le_of_ble_eq_true rfl) ?_
  intro p e s m args below meth c hx hb hr hts hown hlocks hml hP hK hN hD ls hl
  have hown : s.vm.findClass RX7 = some m.cls := hown
  have hl : lv_has ls 3 [(0, .ref mo), (1, .int (nI k))] := hl
  have hS : va_S (va_A (ModC mo sa pa ha ta cJ cI (sM n b fl me st lk cm v nu) pt hd tx ps ru ty rf lks lo1 hi1 sp cd pl gv) s.heap.size) s.heap s.heap [] := va_S.rf
  have hA := wk_hA (ModC mo sa pa ha ta cJ cI (sM n b fl me st lk cm v nu) pt hd tx ps ru ty rf lks lo1 hi1 sp cd pl gv) s.heap.size
  have hD9 : True := trivial
  have hinX7 : ∀ w ∈ wsX70, w ∈ wsX7_stepsFor := by decide +kernel
  refine lv_aload_n hx hb dX7_stepsFor_0 rfl (lv_at hl 0 rfl) ?_
  refine lv_iload_n hx hb dX7_stepsFor_1 rfl (lv_at hl 1 rfl) ?_
  refine lv_i2l (v := lN k) hx hb dX7_stepsFor_2 (nI_l (by omega)) ?_
  refine lv_lconst (v := lN 0) hx hb dX7_stepsFor_3 rfl ?_
  refine lv_ldc2 (v := lN 31) hx hb hown (hts (.constantLong RX7 99 (31)) (by decide +kernel)) dX7_stepsFor_4 ?_
  refine wv_callSi (As := [.long (lN k), .long (lN 0), .long (lN 31)]) (rest := [.ref mo]) ⟨hx, hb, hml, hown, hts⟩ (kX7_in l D (lN k) (lN 0) (lN 31)) (va_cwS 3 hts gX7_stepsFor_X7_in rfl rfl rfl (by decide +kernel) ⟨Nat.le_of_ble_eq_true rfl, Nat.le_of_ble_eq_true rfl⟩) hK hN hP hS hA [] [] rfl rfl rfl hl.1 rfl (Nat.le_of_ble_eq_true rfl) dX7_stepsFor_7 ⟨Nat.zero_le _, Nat.zero_le _⟩ (fun H locs hz9 hP hS => ?_)
  refine wv_ti (y := bI true) (by rw [wk_in_t (by omega) hk (by omega)]) ?_
  refine wv_ifeqB (tgt := 17) hx hb dX7_stepsFor_10 (by decide) (fun h => by cases h) (fun _ => ?_)
  refine lv_iconst (v := nI 0) hx hb dX7_stepsFor_13 (by decide) ?_
  refine lv_goto (tgt := 18) hx hb dX7_stepsFor_14 (by decide) ?_
  refine wv_callMi (As := [.int (nI 0)]) (rest := []) (wr := []) (ws1 := ModC mo sa pa ha ta cJ cI (sM n b fl me st lk cm v nu) pt hd tx ps ru ty 0 lks lo1 hi1 sp cd pl gv) ⟨hx, hb, hml, hown, hts⟩ (kX7_throwsAt l D mo sa pa ha ta cJ cI n b fl me st lk cm v nu pt hd tx ps ru ty rf lks lo1 hi1 sp cd pl gv 0 (by first | assumption | omega)) (cwV 1 hts gX7_stepsFor_X7_throwsAt rfl rfl rfl (by decide +kernel) ⟨Nat.le_of_ble_eq_true rfl, Nat.le_of_ble_eq_true rfl⟩) hK hN hP hD hS hA [0, 1, 2, 3, 4] [] [0, 1] [0, 1, 2, 3, 4] rfl rfl (by decide) rfl (by decide) (by decide) rfl (by decide) rfl 0 5 rfl rfl rfl rfl hl.1 rfl (Nat.le_of_ble_eq_true rfl) dX7_stepsFor_18 ⟨Nat.zero_le _, Nat.zero_le _⟩ (fun H locs hz9 hP hD hS => ?_)
  refine wv_ti (y := bI false) (by decide) ?_
  refine wv_ifeqB (tgt := 26) hx hb dX7_stepsFor_21 (by decide) (fun _ => ?_) (fun h => by cases h)
  refine lv_aload_n hx hb dX7_stepsFor_26 rfl (lv_at hl 0 rfl) ?_
  refine wv_callMv (As := []) (rest := []) (wr := []) (ws1 := ModC mo sa pa ha ta cJ cI (sM n b fl me st lk cm v nu) pt (cpk (sM n b fl me st lk cm v nu) hd 71) tx ps ru ty 0 lks lo1 hi1 sp cd pl gv) ⟨hx, hb, hml, hown, hts⟩ (kX7_holds l D mo sa pa ha ta cJ cI n b fl me st lk cm v nu pt hd tx ps ru ty 0 lks lo1 hi1 sp cd pl gv) (cwV 0 hts gX7_stepsFor_X7_holds rfl rfl rfl (by decide +kernel) ⟨Nat.le_of_ble_eq_true rfl, Nat.le_of_ble_eq_true rfl⟩) hK hN hP hD hS hA [0, 1, 2, 3, 4] [] [0, 1] [0, 1, 2, 3, 4] rfl rfl (by decide) rfl (by decide) (by decide) rfl (by decide) rfl 0 5 rfl rfl rfl rfl hl.1 rfl (Nat.le_of_ble_eq_true rfl) dX7_stepsFor_27 ⟨Nat.zero_le _, Nat.zero_le _⟩ (fun H locs hz9 hP hD hS => ?_)
  refine lv_aload_n hx hb dX7_stepsFor_30 rfl (lv_at hl 0 rfl) ?_
  refine va_get (D := D) (ci := 5) (C := RX7) (T := TX7) (N := 15) hx hb hts hinX7 hown hK hP 0 rfl rfl 0 (by decide) (hts (.fieldLink RX7 7 "NearRanksModel" "s" "[J") (by decide +kernel)) (fun _ h9 => h9) rfl dX7_stepsFor_31 ?_
  refine lv_iconst (v := nI 1) hx hb dX7_stepsFor_34 (by decide) ?_
  refine lv_iload_n hx hb dX7_stepsFor_35 rfl (lv_at hl 1 rfl) ?_
  refine lv_i2l (v := lN k) hx hb dX7_stepsFor_36 (nI_l (by omega)) ?_
  refine wv_last hx hb hK hP hD hS 1 0 rfl rfl (k := 1) (by omega) (by decide) dX7_stepsFor_37 (fun H locs hP hD hS => ?_)
  rw [show vp_updL (sM n b fl me st lk cm v nu) 1 (lN k) = sM n k fl me st lk cm v nu from sM_u1 _] at hP hD
  have hP : va_P D vwCl (ModC mo sa pa ha ta cJ cI (sM n k fl me st lk cm v nu) pt (cpk (sM n b fl me st lk cm v nu) hd 71) tx ps ru ty 0 lks lo1 hi1 sp cd pl gv) H := hP
  have hD : va_D _ (ModC mo sa pa ha ta cJ cI (sM n k fl me st lk cm v nu) pt (cpk (sM n b fl me st lk cm v nu) hd 71) tx ps ru ty 0 lks lo1 hi1 sp cd pl gv) := hD
  refine lv_aload_n hx hb dX7_stepsFor_38 rfl (lv_at hl 0 rfl) ?_
  refine wv_callMi (As := []) (rest := []) (wr := []) (ws1 := ModC mo sa pa ha ta cJ cI (sM n k fl me (st + (lN (mL fl n k 1000 v).length)) lk cm (sws v (mL fl n k 1000 v)) (sws nu (mL fl n k 1000 v))) pt (cpk (sM n b fl me st lk cm v nu) hd 71) tx ps ru ty 0 lks lo1 hi1 sp cd pl gv) ⟨hx, hb, hml, hown, hts⟩ (kX7_mends l D mo sa pa ha ta cJ cI n k fl me st lk cm v nu pt (cpk (sM n b fl me st lk cm v nu) hd 71) tx ps ru ty 0 lks lo1 hi1 sp cd pl gv (by first | assumption | omega) (by first | assumption | omega)) (cwV 0 hts gX7_stepsFor_X7_mends rfl rfl rfl (by decide +kernel) ⟨Nat.le_of_ble_eq_true rfl, Nat.le_of_ble_eq_true rfl⟩) hK hN hP hD hS hA [0, 1, 2, 3, 4] [] [0, 1] [0, 1, 2, 3, 4] rfl rfl (by decide) rfl (by decide) (by decide) rfl (by decide) rfl 0 5 rfl rfl rfl rfl hl.1 rfl (Nat.le_of_ble_eq_true rfl) dX7_stepsFor_39 ⟨Nat.zero_le _, Nat.zero_le _⟩ (fun H locs hz9 hP hD hS => ?_)
  refine lv_istore_n (lv' := [(2, .int (nI ((mL fl n k 1000 v).length))), (0, .ref mo), (1, .int (nI k))]) hx hb dX7_stepsFor_42 rfl hl (by decide) rfl (fun ls hl => ?_)
  refine lv_aload_n hx hb dX7_stepsFor_43 rfl (lv_at hl 1 rfl) ?_
  refine wv_callMv (As := []) (rest := []) (wr := []) (ws1 := ModC mo sa pa ha ta cJ cI (cpk (cpk (sM n b fl me st lk cm v nu) hd 71) (sM n k fl me (st + (lN (mL fl n k 1000 v).length)) lk cm (sws v (mL fl n k 1000 v)) (sws nu (mL fl n k 1000 v))) 71) pt (cpk (sM n b fl me st lk cm v nu) hd 71) tx ps ru ty 0 lks lo1 hi1 sp cd pl gv) ⟨hx, hb, hml, hown, hts⟩ (kX7_lets l D mo sa pa ha ta cJ cI n k fl me (st + (lN (mL fl n k 1000 v).length)) lk cm (sws v (mL fl n k 1000 v)) (sws nu (mL fl n k 1000 v)) pt (cpk (sM n b fl me st lk cm v nu) hd 71) tx ps ru ty 0 lks lo1 hi1 sp cd pl gv) (cwV 0 hts gX7_stepsFor_X7_lets rfl rfl rfl (by decide +kernel) ⟨Nat.le_of_ble_eq_true rfl, Nat.le_of_ble_eq_true rfl⟩) hK hN hP hD hS hA [0, 1, 2, 3, 4] [] [0, 1] [0, 1, 2, 3, 4] rfl rfl (by decide) rfl (by decide) (by decide) rfl (by decide) rfl 0 5 rfl rfl rfl rfl hl.1 rfl (Nat.le_of_ble_eq_true rfl) dX7_stepsFor_44 ⟨Nat.zero_le _, Nat.zero_le _⟩ (fun H locs hz9 hP hD hS => ?_)
  have hP : va_P D vwCl (ModC mo sa pa ha ta cJ cI (cpk (cpk (sM n b fl me st lk cm v nu) hd 71) (sM n k fl me (st + (lN (mL fl n k 1000 v).length)) lk cm (sws v (mL fl n k 1000 v)) (sws nu (mL fl n k 1000 v))) 71) pt (cpk (sM n b fl me st lk cm v nu) hd 71) tx ps ru ty 0 lks lo1 hi1 sp cd pl gv) H := hP
  have hD : va_D _ (ModC mo sa pa ha ta cJ cI (cpk (cpk (sM n b fl me st lk cm v nu) hd 71) (sM n k fl me (st + (lN (mL fl n k 1000 v).length)) lk cm (sws v (mL fl n k 1000 v)) (sws nu (mL fl n k 1000 v))) 71) pt (cpk (sM n b fl me st lk cm v nu) hd 71) tx ps ru ty 0 lks lo1 hi1 sp cd pl gv) := hD
  have er : cpk (cpk (sM n b fl me st lk cm v nu) hd 71) (sM n k fl me (st + (lN (mL fl n k 1000 v).length)) lk cm (sws v (mL fl n k 1000 v)) (sws nu (mL fl n k 1000 v))) 71 = sM n b fl me st lk cm v nu := cpk_back _ _ _ (fun k hk => by rw [sM_out hk, sM_out hk])
  rw [er] at hP hD
  clear er
  refine lv_iload_n hx hb dX7_stepsFor_47 rfl (lv_at hl 0 rfl) ?_
  exact wv_iretM hx hb hr hlocks hP hD hS rfl rfl dX7_stepsFor_48

set_option maxHeartbeats 4000000 in
set_option maxRecDepth 100000 in
theorem kX7_bestPlace_full (l : Launch) (D : va_G) (mo : Nat) (sa : Nat) (pa : Nat) (ha : Nat) (ta : Nat) (cJ : ClassId) (cI : ClassId) (n : Nat) (b : Nat) (fl : Bool) (me : Bool) (st : Int64) (lk : Int64) (cm : Int64) (v : Nat → Int64) (nu : Nat → Int64) (pt : Nat → Int64) (hd : Nat → Int64) (tx : Nat → Int32) (ps : Nat) (ru : Bool) (ty : Nat) (rf : Nat) (lks : Nat) (lo1 : Int32) (hi1 : Int32) (sp : Nat) (cd : Int32) (pl : Int32) (gv : Int64) (x : Int64) (hn : n = 32) : MMi l yX7_bestPlace wsX7_bestPlace ({ frames := 1, cells := 0, slots := 0, locals := 21 } : Room) [.ref mo, .long x] D (ModC mo sa pa ha ta cJ cI (sM n b fl me st lk cm v nu) pt hd tx ps ru ty rf lks lo1 hi1 sp cd pl gv) [(cJ, .long), (cI, .int)] ((-1000)) (ModC mo sa pa ha ta cJ cI (sM n b fl me st lk cm v nu) pt (cpk (sM n b fl me st lk cm v nu) hd 71) tx ps ru ty 0 lks lo1 hi1 sp cd pl gv) := by
  refine MMi_of (cc := cX7_bestPlace) (maxL := 7) (ret := some .int) (by decide +kernel) rfl (Nat.le_of_ble_eq_true rfl) ?_
  intro p e s m args below meth c hx hb hr hts hown hlocks hml hP hK hN hD ls hl
  have hown : s.vm.findClass RX7 = some m.cls := hown
  have hl : lv_has ls 7 [(0, .ref mo), (1, .long x)] := hl
  have hS : va_S (va_A (ModC mo sa pa ha ta cJ cI (sM n b fl me st lk cm v nu) pt hd tx ps ru ty rf lks lo1 hi1 sp cd pl gv) s.heap.size) s.heap s.heap [] := va_S.rf
  have hA := wk_hA (ModC mo sa pa ha ta cJ cI (sM n b fl me st lk cm v nu) pt hd tx ps ru ty rf lks lo1 hi1 sp cd pl gv) s.heap.size
  have hD9 : True := trivial
  have hinX7 : ∀ w ∈ wsX70, w ∈ wsX7_bestPlace := by decide +kernel
  refine lv_aload_n hx hb dX7_bestPlace_0 rfl (lv_at hl 0 rfl) ?_
  refine lv_iconst (v := nI 0) hx hb dX7_bestPlace_1 (by decide) ?_
  refine va_put (D := D) (ci := 5) (v := .int (nI 0)) (ty := .int) (C := RX7) (T := TX7) (N := 15) hx hb hts hinX7 tyX7 tyX7_ok nmX7 hown hK hP hD hS 0 rfl rfl 7 (by decide) (hts (.fieldLink RX7 25 "NearRanksModel" "refused" "I") (by decide +kernel)) (fun _ h9 => h9) rfl (by decide +kernel) rfl rfl (Nat.le_of_ble_eq_true rfl) dX7_bestPlace_2 (fun H locs hP hD hS => ?_)
  have hP : va_P D vwCl (ModC mo sa pa ha ta cJ cI (sM n b fl me st lk cm v nu) pt hd tx ps ru ty 0 lks lo1 hi1 sp cd pl gv) H := hP
  have hD : va_D _ (ModC mo sa pa ha ta cJ cI (sM n b fl me st lk cm v nu) pt hd tx ps ru ty 0 lks lo1 hi1 sp cd pl gv) := hD
  refine lv_sipush (v := (-1000)) hx hb dX7_bestPlace_5 (by decide) ?_
  refine lv_istore_n (lv' := [(3, .int (-1000)), (0, .ref mo), (1, .long x)]) hx hb dX7_bestPlace_8 rfl hl (by decide) rfl (fun ls hl => ?_)
  refine lv_bipush (v := nI 99) hx hb dX7_bestPlace_9 (by decide) ?_
  refine lv_istore (lv' := [(4, .int (nI 99)), (3, .int (-1000)), (0, .ref mo), (1, .long x)]) hx hb dX7_bestPlace_11 hl (by decide) rfl (fun ls hl => ?_)
  refine lv_aload_n hx hb dX7_bestPlace_13 rfl (lv_at hl 2 rfl) ?_
  refine wv_callMv (As := []) (rest := []) (wr := []) (ws1 := ModC mo sa pa ha ta cJ cI (sM n b fl me st lk cm v nu) pt (cpk (sM n b fl me st lk cm v nu) hd 71) tx ps ru ty 0 lks lo1 hi1 sp cd pl gv) ⟨hx, hb, hml, hown, hts⟩ (kX7_holds l D mo sa pa ha ta cJ cI n b fl me st lk cm v nu pt hd tx ps ru ty 0 lks lo1 hi1 sp cd pl gv) (cwV 0 hts gX7_bestPlace_X7_holds rfl rfl rfl (by decide +kernel) ⟨Nat.le_of_ble_eq_true rfl, Nat.le_of_ble_eq_true rfl⟩) hK hN hP hD hS hA [0, 1, 2, 3, 4] [] [0, 1] [0, 1, 2, 3, 4] rfl rfl (by decide) rfl (by decide) (by decide) rfl (by decide) rfl 0 5 rfl rfl rfl rfl hl.1 rfl (Nat.le_of_ble_eq_true rfl) dX7_bestPlace_14 ⟨Nat.zero_le _, Nat.zero_le _⟩ (fun H locs hz9 hP hD hS => ?_)
  refine lv_iconst (v := nI 0) hx hb dX7_bestPlace_17 (by decide) ?_
  refine lv_istore (lv' := [(5, .int (nI 0)), (4, .int (nI 99)), (3, .int (-1000)), (0, .ref mo), (1, .long x)]) hx hb dX7_bestPlace_18 hl (by decide) rfl (fun ls hl => ?_)
  have loop20 : ∀ (K : Nat) (i : Nat), n - i < K → i = 0 → ∀ (H : Heap) (locs : List Loc), va_P D vwCl (ModC mo sa pa ha ta cJ cI (sM n b fl me st lk cm v nu) pt (cpk (sM n b fl me st lk cm v nu) hd 71) tx ps ru ty 0 lks lo1 hi1 sp cd pl gv) H → va_D (va_A (ModC mo sa pa ha ta cJ cI (sM n b fl me st lk cm v nu) pt hd tx ps ru ty rf lks lo1 hi1 sp cd pl gv) s.heap.size) (ModC mo sa pa ha ta cJ cI (sM n b fl me st lk cm v nu) pt (cpk (sM n b fl me st lk cm v nu) hd 71) tx ps ru ty 0 lks lo1 hi1 sp cd pl gv) → va_S (va_A (ModC mo sa pa ha ta cJ cI (sM n b fl me st lk cm v nu) pt hd tx ps ru ty rf lks lo1 hi1 sp cd pl gv) s.heap.size) s.heap H locs → ∀ ls : Array Slot, lv_has ls 7 [(0, .ref mo), (1, .long x), (3, .int (-1000)), (4, .int (nI 99)), (5, .int (nI i))] → W p l e ({ frames := 1, cells := 0, slots := 0, locals := 21 } : Room) s m args below meth c H locs 0 0 (ZMi below args s D (ModC mo sa pa ha ta cJ cI (sM n b fl me st lk cm v nu) pt hd tx ps ru ty rf lks lo1 hi1 sp cd pl gv) ((-1000)) (ModC mo sa pa ha ta cJ cI (sM n b fl me st lk cm v nu) pt (cpk (sM n b fl me st lk cm v nu) hd 71) tx ps ru ty 0 lks lo1 hi1 sp cd pl gv)) (F0 m 20 ls []) := by
    intro K
    induction K with
    | zero => intro i hK0; exact absurd hK0 (Nat.not_lt_zero _)
    | succ K ih20 =>
      intro i hKm hi H locs hP hD hS ls hl
      refine lv_iload hx hb dX7_bestPlace_20 (lv_at hl 4 rfl) ?_
      refine lv_i2l (v := lN i) hx hb dX7_bestPlace_22 (nI_l (by omega)) ?_
      refine lv_aload_n hx hb dX7_bestPlace_23 rfl (lv_at hl 0 rfl) ?_
      refine va_get (D := D) (ci := 5) (C := RX7) (T := TX7) (N := 15) hx hb hts hinX7 hown hK hP 0 rfl rfl 2 (by decide) (hts (.fieldLink RX7 16 "NearRanksModel" "held" "[J") (by decide +kernel)) (fun _ h9 => h9) rfl dX7_bestPlace_24 ?_
      refine lv_iconst (v := nI 0) hx hb dX7_bestPlace_27 (by decide) ?_
      refine wv_lald hx hb hK hP 3 0 rfl rfl (k := 0) (by omega) (by decide) dX7_bestPlace_28 ?_
      refine wv_tl (y := lN n) rfl ?_
      refine wv_lcN_gt (tgt := 99) hx hb (by omega) (by omega) dX7_bestPlace_29 dX7_bestPlace_30 (by decide) (fun c30 => ?_) (fun c30 => ?_)
      · skip
        refine lv_iload_n hx hb dX7_bestPlace_99 rfl (lv_at hl 2 rfl) ?_
        exact wv_iretM hx hb hr hlocks hP hD hS rfl rfl dX7_bestPlace_100
      · skip
        refine lv_aload_n hx hb dX7_bestPlace_33 rfl (lv_at hl 0 rfl) ?_
        refine va_get (D := D) (ci := 5) (C := RX7) (T := TX7) (N := 15) hx hb hts hinX7 hown hK hP 0 rfl rfl 2 (by decide) (hts (.fieldLink RX7 16 "NearRanksModel" "held" "[J") (by decide +kernel)) (fun _ h9 => h9) rfl dX7_bestPlace_34 ?_
        refine lv_iconst (v := nI 0) hx hb dX7_bestPlace_37 (by decide) ?_
        refine wv_lald hx hb hK hP 3 0 rfl rfl (k := 0) (by omega) (by decide) dX7_bestPlace_38 ?_
        refine wv_tl (y := lN n) rfl ?_
        refine lv_ldc2 (v := lN 32) hx hb hown (hts (.constantLong RX7 74 (32)) (by decide +kernel)) dX7_bestPlace_39 ?_
        refine wv_lcN_ge (tgt := 99) hx hb (by omega) (by omega) dX7_bestPlace_42 dX7_bestPlace_43 (by decide) (fun c43 => ?_) (fun c43 => by exfalso; omega)
        refine lv_iload_n hx hb dX7_bestPlace_99 rfl (lv_at hl 2 rfl) ?_
        exact wv_iretM hx hb hr hlocks hP hD hS rfl rfl dX7_bestPlace_100
  exact loop20 (n - 0 + 1) 0 (by omega) (by first | assumption | omega) _ _ hP hD hS ls (lv_sub hl [3, 4, 2, 1, 0] rfl)

set_option maxHeartbeats 4000000 in
set_option maxRecDepth 100000 in
theorem kX7_bestPlace (l : Launch) (D : va_G) (mo : Nat) (sa : Nat) (pa : Nat) (ha : Nat) (ta : Nat) (cJ : ClassId) (cI : ClassId) (n : Nat) (b : Nat) (fl : Bool) (me : Bool) (st : Int64) (lk : Int64) (cm : Int64) (v : Nat → Int64) (nu : Nat → Int64) (pt : Nat → Int64) (hd : Nat → Int64) (tx : Nat → Int32) (ps : Nat) (ru : Bool) (ty : Nat) (rf : Nat) (lks : Nat) (lo1 : Int32) (hi1 : Int32) (sp : Nat) (cd : Int32) (pl : Int32) (gv : Int64) (x : Int64) (hn : n < 32) (hb : b ≤ 31) : MMi l yX7_bestPlace wsX7_bestPlace ({ frames := 5, cells := 0, slots := 0, locals := 112 } : Room) [.ref mo, .long x] D (ModC mo sa pa ha ta cJ cI (sM n b fl me st lk cm v nu) pt hd tx ps ru ty rf lks lo1 hi1 sp cd pl gv) [(cJ, .long), (cI, .int)] (oI (bpl (fun j => cnt (brk fl (insA v n j x) (n + 1) b) (n + 1)) (n + 1)).2) (ModC mo sa pa ha ta cJ cI (sM n b fl me st lk cm v nu) pt (cpk (sM n b fl me st lk cm v nu) hd 71) tx ps ru ty 0 lks lo1 hi1 sp cd pl gv) := by
  refine MMi_of (cc := cX7_bestPlace) (maxL := 7) (ret := some .int) (by decide +kernel) rfl (Nat.le_of_ble_eq_true rfl) ?_
  intro p e s m args below meth c hx hb hr hts hown hlocks hml hP hK hN hD ls hl
  have hown : s.vm.findClass RX7 = some m.cls := hown
  have hl : lv_has ls 7 [(0, .ref mo), (1, .long x)] := hl
  have hS : va_S (va_A (ModC mo sa pa ha ta cJ cI (sM n b fl me st lk cm v nu) pt hd tx ps ru ty rf lks lo1 hi1 sp cd pl gv) s.heap.size) s.heap s.heap [] := va_S.rf
  have hA := wk_hA (ModC mo sa pa ha ta cJ cI (sM n b fl me st lk cm v nu) pt hd tx ps ru ty rf lks lo1 hi1 sp cd pl gv) s.heap.size
  have hD9 : True := trivial
  have hinX7 : ∀ w ∈ wsX70, w ∈ wsX7_bestPlace := by decide +kernel
  refine lv_aload_n hx hb dX7_bestPlace_0 rfl (lv_at hl 0 rfl) ?_
  refine lv_iconst (v := nI 0) hx hb dX7_bestPlace_1 (by decide) ?_
  refine va_put (D := D) (ci := 5) (v := .int (nI 0)) (ty := .int) (C := RX7) (T := TX7) (N := 15) hx hb hts hinX7 tyX7 tyX7_ok nmX7 hown hK hP hD hS 0 rfl rfl 7 (by decide) (hts (.fieldLink RX7 25 "NearRanksModel" "refused" "I") (by decide +kernel)) (fun _ h9 => h9) rfl (by decide +kernel) rfl rfl (Nat.le_of_ble_eq_true rfl) dX7_bestPlace_2 (fun H locs hP hD hS => ?_)
  have hP : va_P D vwCl (ModC mo sa pa ha ta cJ cI (sM n b fl me st lk cm v nu) pt hd tx ps ru ty 0 lks lo1 hi1 sp cd pl gv) H := hP
  have hD : va_D _ (ModC mo sa pa ha ta cJ cI (sM n b fl me st lk cm v nu) pt hd tx ps ru ty 0 lks lo1 hi1 sp cd pl gv) := hD
  refine lv_sipush (v := (-1000)) hx hb dX7_bestPlace_5 (by decide) ?_
  refine lv_istore_n (lv' := [(3, .int (-1000)), (0, .ref mo), (1, .long x)]) hx hb dX7_bestPlace_8 rfl hl (by decide) rfl (fun ls hl => ?_)
  refine lv_bipush (v := nI 99) hx hb dX7_bestPlace_9 (by decide) ?_
  refine lv_istore (lv' := [(4, .int (nI 99)), (3, .int (-1000)), (0, .ref mo), (1, .long x)]) hx hb dX7_bestPlace_11 hl (by decide) rfl (fun ls hl => ?_)
  refine lv_aload_n hx hb dX7_bestPlace_13 rfl (lv_at hl 2 rfl) ?_
  refine wv_callMv (As := []) (rest := []) (wr := []) (ws1 := ModC mo sa pa ha ta cJ cI (sM n b fl me st lk cm v nu) pt (cpk (sM n b fl me st lk cm v nu) hd 71) tx ps ru ty 0 lks lo1 hi1 sp cd pl gv) ⟨hx, hb, hml, hown, hts⟩ (kX7_holds l D mo sa pa ha ta cJ cI n b fl me st lk cm v nu pt hd tx ps ru ty 0 lks lo1 hi1 sp cd pl gv) (cwV 0 hts gX7_bestPlace_X7_holds rfl rfl rfl (by decide +kernel) ⟨Nat.le_of_ble_eq_true rfl, Nat.le_of_ble_eq_true rfl⟩) hK hN hP hD hS hA [0, 1, 2, 3, 4] [] [0, 1] [0, 1, 2, 3, 4] rfl rfl (by decide) rfl (by decide) (by decide) rfl (by decide) rfl 0 5 rfl rfl rfl rfl hl.1 rfl (Nat.le_of_ble_eq_true rfl) dX7_bestPlace_14 ⟨Nat.zero_le _, Nat.zero_le _⟩ (fun H locs hz9 hP hD hS => ?_)
  refine lv_iconst (v := nI 0) hx hb dX7_bestPlace_17 (by decide) ?_
  refine lv_istore (lv' := [(5, .int (nI 0)), (4, .int (nI 99)), (3, .int (-1000)), (0, .ref mo), (1, .long x)]) hx hb dX7_bestPlace_18 hl (by decide) rfl (fun ls hl => ?_)
  have el_l3 : oI (bpl (fun j => cnt (brk fl (insA v n j x) (n + 1) b) (n + 1)) 0).2 = (-1000) := by rfl
  have el_l4 : (bpl (fun j => cnt (brk fl (insA v n j x) (n + 1) b) (n + 1)) 0).1 = 99 := by rfl
  have loop20 : ∀ (K : Nat) (i : Nat), n + 1 - i < K → i ≤ n + 1 → ∀ (H : Heap) (locs : List Loc), va_P D vwCl (ModC mo sa pa ha ta cJ cI (sM n b fl me st lk cm v nu) pt (cpk (sM n b fl me st lk cm v nu) hd 71) tx ps ru ty 0 lks lo1 hi1 sp cd pl gv) H → va_D (va_A (ModC mo sa pa ha ta cJ cI (sM n b fl me st lk cm v nu) pt hd tx ps ru ty rf lks lo1 hi1 sp cd pl gv) s.heap.size) (ModC mo sa pa ha ta cJ cI (sM n b fl me st lk cm v nu) pt (cpk (sM n b fl me st lk cm v nu) hd 71) tx ps ru ty 0 lks lo1 hi1 sp cd pl gv) → va_S (va_A (ModC mo sa pa ha ta cJ cI (sM n b fl me st lk cm v nu) pt hd tx ps ru ty rf lks lo1 hi1 sp cd pl gv) s.heap.size) s.heap H locs → ∀ ls : Array Slot, lv_has ls 7 [(0, .ref mo), (1, .long x), (3, .int (oI (bpl (fun j => cnt (brk fl (insA v n j x) (n + 1) b) (n + 1)) i).2)), (4, .int (nI ((bpl (fun j => cnt (brk fl (insA v n j x) (n + 1) b) (n + 1)) i).1))), (5, .int (nI i))] → W p l e ({ frames := 5, cells := 0, slots := 0, locals := 112 } : Room) s m args below meth c H locs 0 0 (ZMi below args s D (ModC mo sa pa ha ta cJ cI (sM n b fl me st lk cm v nu) pt hd tx ps ru ty rf lks lo1 hi1 sp cd pl gv) (oI (bpl (fun j => cnt (brk fl (insA v n j x) (n + 1) b) (n + 1)) (n + 1)).2) (ModC mo sa pa ha ta cJ cI (sM n b fl me st lk cm v nu) pt (cpk (sM n b fl me st lk cm v nu) hd 71) tx ps ru ty 0 lks lo1 hi1 sp cd pl gv)) (F0 m 20 ls []) := by
    intro K
    induction K with
    | zero => intro i hK0; exact absurd hK0 (Nat.not_lt_zero _)
    | succ K ih20 =>
      intro i hKm hi H locs hP hD hS ls hl
      refine lv_iload hx hb dX7_bestPlace_20 (lv_at hl 4 rfl) ?_
      refine lv_i2l (v := lN i) hx hb dX7_bestPlace_22 (nI_l (by omega)) ?_
      refine lv_aload_n hx hb dX7_bestPlace_23 rfl (lv_at hl 0 rfl) ?_
      refine va_get (D := D) (ci := 5) (C := RX7) (T := TX7) (N := 15) hx hb hts hinX7 hown hK hP 0 rfl rfl 2 (by decide) (hts (.fieldLink RX7 16 "NearRanksModel" "held" "[J") (by decide +kernel)) (fun _ h9 => h9) rfl dX7_bestPlace_24 ?_
      refine lv_iconst (v := nI 0) hx hb dX7_bestPlace_27 (by decide) ?_
      refine wv_lald hx hb hK hP 3 0 rfl rfl (k := 0) (by omega) (by decide) dX7_bestPlace_28 ?_
      refine wv_tl (y := lN n) rfl ?_
      refine wv_lcN_gt (tgt := 99) hx hb (by omega) (by omega) dX7_bestPlace_29 dX7_bestPlace_30 (by decide) (fun c30 => ?_) (fun c30 => ?_)
      · skip
        refine lv_iload_n hx hb dX7_bestPlace_99 rfl (lv_at hl 2 rfl) ?_
        exact wv_iretM hx hb hr hlocks hP hD hS (by rw [show i = n + 1 by omega]) rfl dX7_bestPlace_100
      · skip
        have hb9 := bpl_le (fun j => cnt (brk fl (insA v n j x) (n + 1) b) (n + 1)) i
        have hc9 := cnt_le (brk fl (insA v n i x) (n + 1) b) (n + 1)
        refine lv_aload_n hx hb dX7_bestPlace_33 rfl (lv_at hl 0 rfl) ?_
        refine va_get (D := D) (ci := 5) (C := RX7) (T := TX7) (N := 15) hx hb hts hinX7 hown hK hP 0 rfl rfl 2 (by decide) (hts (.fieldLink RX7 16 "NearRanksModel" "held" "[J") (by decide +kernel)) (fun _ h9 => h9) rfl dX7_bestPlace_34 ?_
        refine lv_iconst (v := nI 0) hx hb dX7_bestPlace_37 (by decide) ?_
        refine wv_lald hx hb hK hP 3 0 rfl rfl (k := 0) (by omega) (by decide) dX7_bestPlace_38 ?_
        refine wv_tl (y := lN n) rfl ?_
        refine lv_ldc2 (v := lN 32) hx hb hown (hts (.constantLong RX7 74 (32)) (by decide +kernel)) dX7_bestPlace_39 ?_
        refine wv_lcN_ge (tgt := 99) hx hb (by omega) (by omega) dX7_bestPlace_42 dX7_bestPlace_43 (by decide) (fun c43 => by exfalso; omega) (fun c43 => ?_)
        refine lv_aload_n hx hb dX7_bestPlace_46 rfl (lv_at hl 0 rfl) ?_
        refine lv_iload hx hb dX7_bestPlace_47 (lv_at hl 4 rfl) ?_
        refine lv_lload_n hx hb dX7_bestPlace_49 rfl (lv_at hl 1 rfl) ?_
        refine wv_callMv (As := [.int (nI i), .long x]) (rest := []) (wr := []) (ws1 := ModC mo sa pa ha ta cJ cI (sM (n + 1) b fl me st lk (cm + (lN 1)) (insA v n i x) (insA nu n i cm)) pt (cpk (sM n b fl me st lk cm v nu) hd 71) tx ps ru ty 0 lks lo1 hi1 sp cd pl gv) ⟨hx, hb, hml, hown, hts⟩ (kX7_puts l D mo sa pa ha ta cJ cI n b fl me st lk cm v nu pt (cpk (sM n b fl me st lk cm v nu) hd 71) tx ps ru ty 0 lks lo1 hi1 sp cd pl gv i x (by first | assumption | omega) (by first | assumption | omega)) (cwV 2 hts gX7_bestPlace_X7_puts rfl rfl rfl (by decide +kernel) ⟨Nat.le_of_ble_eq_true rfl, Nat.le_of_ble_eq_true rfl⟩) hK hN hP hD hS hA [0, 1, 2, 3, 4] [] [0, 1] [0, 1, 2, 3, 4] rfl rfl (by decide) rfl (by decide) (by decide) rfl (by decide) rfl 0 5 rfl rfl rfl rfl hl.1 rfl (Nat.le_of_ble_eq_true rfl) dX7_bestPlace_50 ⟨Nat.zero_le _, Nat.zero_le _⟩ (fun H locs hz9 hP hD hS => ?_)
        refine lv_aload_n hx hb dX7_bestPlace_53 rfl (lv_at hl 0 rfl) ?_
        refine wv_callPi (As := []) (rest := []) ⟨hx, hb, hml, hown, hts⟩ (kX7_brokenOnes l D mo sa pa ha ta cJ cI (n + 1) b fl me st lk (cm + (lN 1)) (insA v n i x) (insA nu n i cm) pt (cpk (sM n b fl me st lk cm v nu) hd 71) tx ps ru ty 0 lks lo1 hi1 sp cd pl gv (by first | assumption | omega) (by first | assumption | omega)) (cwV 0 hts gX7_bestPlace_X7_brokenOnes rfl rfl rfl (by decide +kernel) ⟨Nat.le_of_ble_eq_true rfl, Nat.le_of_ble_eq_true rfl⟩) hK hN hP hS hA [0, 1, 2, 3, 4] [0, 1] rfl rfl 0 5 rfl rfl rfl rfl hl.1 rfl (Nat.le_of_ble_eq_true rfl) dX7_bestPlace_54 ⟨Nat.zero_le _, Nat.zero_le _⟩ (fun H locs hz9 hP hS => ?_)
        refine lv_istore (lv' := [(6, .int (nI (cnt (brk fl (insA v n i x) (n + 1) b) (n + 1)))), (0, .ref mo), (1, .long x), (3, .int (oI (bpl (fun j => cnt (brk fl (insA v n j x) (n + 1) b) (n + 1)) i).2)), (4, .int (nI ((bpl (fun j => cnt (brk fl (insA v n j x) (n + 1) b) (n + 1)) i).1))), (5, .int (nI i))]) hx hb dX7_bestPlace_57 hl (by decide) rfl (fun ls hl => ?_)
        refine lv_iload hx hb dX7_bestPlace_59 (lv_at hl 0 rfl) ?_
        refine lv_iload hx hb dX7_bestPlace_61 (lv_at hl 4 rfl) ?_
        refine wv_icmp_ge (tgt := 71) hx hb (by omega) (by omega) dX7_bestPlace_63 (by decide) (fun c63 => ?_) (fun c63 => ?_)
        · skip
          refine lv_iload_n hx hb dX7_bestPlace_71 rfl (lv_at hl 3 rfl) ?_
          refine lv_istore_n (lv' := [(3, .int (oI (bpl (fun j => cnt (brk fl (insA v n j x) (n + 1) b) (n + 1)) i).2)), (6, .int (nI (cnt (brk fl (insA v n i x) (n + 1) b) (n + 1)))), (0, .ref mo), (1, .long x), (4, .int (nI ((bpl (fun j => cnt (brk fl (insA v n j x) (n + 1) b) (n + 1)) i).1))), (5, .int (nI i))]) hx hb dX7_bestPlace_72 rfl hl (by decide) rfl (fun ls hl => ?_)
          refine lv_iload hx hb dX7_bestPlace_73 (lv_at hl 1 rfl) ?_
          refine lv_iload hx hb dX7_bestPlace_75 (lv_at hl 4 rfl) ?_
          refine wv_icmp_ge (tgt := 85) hx hb (by omega) (by omega) dX7_bestPlace_77 (by decide) (fun c77 => ?_) (fun c77 => by exfalso; omega)
          refine lv_iload hx hb dX7_bestPlace_85 (lv_at hl 4 rfl) ?_
          refine lv_istore (lv' := [(4, .int (nI ((bpl (fun j => cnt (brk fl (insA v n j x) (n + 1) b) (n + 1)) i).1))), (3, .int (oI (bpl (fun j => cnt (brk fl (insA v n j x) (n + 1) b) (n + 1)) i).2)), (6, .int (nI (cnt (brk fl (insA v n i x) (n + 1) b) (n + 1)))), (0, .ref mo), (1, .long x), (5, .int (nI i))]) hx hb dX7_bestPlace_87 hl (by decide) rfl (fun ls hl => ?_)
          refine lv_aload_n hx hb dX7_bestPlace_89 rfl (lv_at hl 3 rfl) ?_
          refine wv_callMv (As := []) (rest := []) (wr := []) (ws1 := ModC mo sa pa ha ta cJ cI (cpk (cpk (sM n b fl me st lk cm v nu) hd 71) (sM (n + 1) b fl me st lk (cm + (lN 1)) (insA v n i x) (insA nu n i cm)) 71) pt (cpk (sM n b fl me st lk cm v nu) hd 71) tx ps ru ty 0 lks lo1 hi1 sp cd pl gv) ⟨hx, hb, hml, hown, hts⟩ (kX7_lets l D mo sa pa ha ta cJ cI (n + 1) b fl me st lk (cm + (lN 1)) (insA v n i x) (insA nu n i cm) pt (cpk (sM n b fl me st lk cm v nu) hd 71) tx ps ru ty 0 lks lo1 hi1 sp cd pl gv) (cwV 0 hts gX7_bestPlace_X7_lets rfl rfl rfl (by decide +kernel) ⟨Nat.le_of_ble_eq_true rfl, Nat.le_of_ble_eq_true rfl⟩) hK hN hP hD hS hA [0, 1, 2, 3, 4] [] [0, 1] [0, 1, 2, 3, 4] rfl rfl (by decide) rfl (by decide) (by decide) rfl (by decide) rfl 0 5 rfl rfl rfl rfl hl.1 rfl (Nat.le_of_ble_eq_true rfl) dX7_bestPlace_90 ⟨Nat.zero_le _, Nat.zero_le _⟩ (fun H locs hz9 hP hD hS => ?_)
          have hP : va_P D vwCl (ModC mo sa pa ha ta cJ cI (cpk (cpk (sM n b fl me st lk cm v nu) hd 71) (sM (n + 1) b fl me st lk (cm + (lN 1)) (insA v n i x) (insA nu n i cm)) 71) pt (cpk (sM n b fl me st lk cm v nu) hd 71) tx ps ru ty 0 lks lo1 hi1 sp cd pl gv) H := hP
          have hD : va_D _ (ModC mo sa pa ha ta cJ cI (cpk (cpk (sM n b fl me st lk cm v nu) hd 71) (sM (n + 1) b fl me st lk (cm + (lN 1)) (insA v n i x) (insA nu n i cm)) 71) pt (cpk (sM n b fl me st lk cm v nu) hd 71) tx ps ru ty 0 lks lo1 hi1 sp cd pl gv) := hD
          have er : cpk (cpk (sM n b fl me st lk cm v nu) hd 71) (sM (n + 1) b fl me st lk (cm + (lN 1)) (insA v n i x) (insA nu n i cm)) 71 = sM n b fl me st lk cm v nu := cpk_back _ _ _ (fun k hk => by rw [sM_out hk, sM_out hk])
          rw [er] at hP hD
          clear er
          refine lv_iinc (v := nI (i + 1)) (lv' := [(5, .int (nI (i + 1))), (4, .int (nI ((bpl (fun j => cnt (brk fl (insA v n j x) (n + 1) b) (n + 1)) i).1))), (3, .int (oI (bpl (fun j => cnt (brk fl (insA v n j x) (n + 1) b) (n + 1)) i).2)), (6, .int (nI (cnt (brk fl (insA v n i x) (n + 1) b) (n + 1)))), (0, .ref mo), (1, .long x)]) hx hb dX7_bestPlace_93 hl (k := 5) rfl (nI_1 _) (by decide) rfl (fun ls hl => ?_)
          refine lv_goto (tgt := 20) hx hb dX7_bestPlace_96 (by decide) ?_
          have el_l3 : oI (bpl (fun j => cnt (brk fl (insA v n j x) (n + 1) b) (n + 1)) (i + 1)).2 = oI (bpl (fun j => cnt (brk fl (insA v n j x) (n + 1) b) (n + 1)) i).2 := by first | (rw [bpl_s, if_pos c63]; rfl) | rw [bpl_s, if_neg (Nat.not_lt.mpr c63)]
          have el_l4 : (bpl (fun j => cnt (brk fl (insA v n j x) (n + 1) b) (n + 1)) (i + 1)).1 = (bpl (fun j => cnt (brk fl (insA v n j x) (n + 1) b) (n + 1)) i).1 := by first | (rw [bpl_s, if_pos c63]; done) | rw [bpl_s, if_neg (Nat.not_lt.mpr c63)]
          exact ih20 (i + 1) (by omega) (by first | assumption | omega) _ _ (by first | (rw [el_l3, el_l4]; exact hP) | (simp only [el_l3, el_l4]; exact hP) | exact hP) (by first | (rw [el_l3, el_l4]; exact hD) | (simp only [el_l3, el_l4]; exact hD) | exact hD) hS ls (by first | (rw [el_l3, el_l4]; exact lv_sub hl [4, 5, 2, 1, 0] rfl) | (simp only [el_l3, el_l4]; exact lv_sub hl [4, 5, 2, 1, 0] rfl) | exact lv_sub hl [4, 5, 2, 1, 0] rfl)
        · skip
          refine lv_iload hx hb dX7_bestPlace_66 (lv_at hl 5 rfl) ?_
          refine lv_goto (tgt := 72) hx hb dX7_bestPlace_68 (by decide) ?_
          refine lv_istore_n (lv' := [(3, .int (nI i)), (6, .int (nI (cnt (brk fl (insA v n i x) (n + 1) b) (n + 1)))), (0, .ref mo), (1, .long x), (4, .int (nI ((bpl (fun j => cnt (brk fl (insA v n j x) (n + 1) b) (n + 1)) i).1))), (5, .int (nI i))]) hx hb dX7_bestPlace_72 rfl hl (by decide) rfl (fun ls hl => ?_)
          refine lv_iload hx hb dX7_bestPlace_73 (lv_at hl 1 rfl) ?_
          refine lv_iload hx hb dX7_bestPlace_75 (lv_at hl 4 rfl) ?_
          refine wv_icmp_ge (tgt := 85) hx hb (by omega) (by omega) dX7_bestPlace_77 (by decide) (fun c77 => by exfalso; omega) (fun c77 => ?_)
          refine lv_iload hx hb dX7_bestPlace_80 (lv_at hl 1 rfl) ?_
          refine lv_goto (tgt := 87) hx hb dX7_bestPlace_82 (by decide) ?_
          refine lv_istore (lv' := [(4, .int (nI (cnt (brk fl (insA v n i x) (n + 1) b) (n + 1)))), (3, .int (nI i)), (6, .int (nI (cnt (brk fl (insA v n i x) (n + 1) b) (n + 1)))), (0, .ref mo), (1, .long x), (5, .int (nI i))]) hx hb dX7_bestPlace_87 hl (by decide) rfl (fun ls hl => ?_)
          refine lv_aload_n hx hb dX7_bestPlace_89 rfl (lv_at hl 3 rfl) ?_
          refine wv_callMv (As := []) (rest := []) (wr := []) (ws1 := ModC mo sa pa ha ta cJ cI (cpk (cpk (sM n b fl me st lk cm v nu) hd 71) (sM (n + 1) b fl me st lk (cm + (lN 1)) (insA v n i x) (insA nu n i cm)) 71) pt (cpk (sM n b fl me st lk cm v nu) hd 71) tx ps ru ty 0 lks lo1 hi1 sp cd pl gv) ⟨hx, hb, hml, hown, hts⟩ (kX7_lets l D mo sa pa ha ta cJ cI (n + 1) b fl me st lk (cm + (lN 1)) (insA v n i x) (insA nu n i cm) pt (cpk (sM n b fl me st lk cm v nu) hd 71) tx ps ru ty 0 lks lo1 hi1 sp cd pl gv) (cwV 0 hts gX7_bestPlace_X7_lets rfl rfl rfl (by decide +kernel) ⟨Nat.le_of_ble_eq_true rfl, Nat.le_of_ble_eq_true rfl⟩) hK hN hP hD hS hA [0, 1, 2, 3, 4] [] [0, 1] [0, 1, 2, 3, 4] rfl rfl (by decide) rfl (by decide) (by decide) rfl (by decide) rfl 0 5 rfl rfl rfl rfl hl.1 rfl (Nat.le_of_ble_eq_true rfl) dX7_bestPlace_90 ⟨Nat.zero_le _, Nat.zero_le _⟩ (fun H locs hz9 hP hD hS => ?_)
          have hP : va_P D vwCl (ModC mo sa pa ha ta cJ cI (cpk (cpk (sM n b fl me st lk cm v nu) hd 71) (sM (n + 1) b fl me st lk (cm + (lN 1)) (insA v n i x) (insA nu n i cm)) 71) pt (cpk (sM n b fl me st lk cm v nu) hd 71) tx ps ru ty 0 lks lo1 hi1 sp cd pl gv) H := hP
          have hD : va_D _ (ModC mo sa pa ha ta cJ cI (cpk (cpk (sM n b fl me st lk cm v nu) hd 71) (sM (n + 1) b fl me st lk (cm + (lN 1)) (insA v n i x) (insA nu n i cm)) 71) pt (cpk (sM n b fl me st lk cm v nu) hd 71) tx ps ru ty 0 lks lo1 hi1 sp cd pl gv) := hD
          have er : cpk (cpk (sM n b fl me st lk cm v nu) hd 71) (sM (n + 1) b fl me st lk (cm + (lN 1)) (insA v n i x) (insA nu n i cm)) 71 = sM n b fl me st lk cm v nu := cpk_back _ _ _ (fun k hk => by rw [sM_out hk, sM_out hk])
          rw [er] at hP hD
          clear er
          refine lv_iinc (v := nI (i + 1)) (lv' := [(5, .int (nI (i + 1))), (4, .int (nI (cnt (brk fl (insA v n i x) (n + 1) b) (n + 1)))), (3, .int (nI i)), (6, .int (nI (cnt (brk fl (insA v n i x) (n + 1) b) (n + 1)))), (0, .ref mo), (1, .long x)]) hx hb dX7_bestPlace_93 hl (k := 5) rfl (nI_1 _) (by decide) rfl (fun ls hl => ?_)
          refine lv_goto (tgt := 20) hx hb dX7_bestPlace_96 (by decide) ?_
          have el_l3 : oI (bpl (fun j => cnt (brk fl (insA v n j x) (n + 1) b) (n + 1)) (i + 1)).2 = nI i := by first | (rw [bpl_s, if_pos c63]; rfl) | rw [bpl_s, if_neg (Nat.not_lt.mpr c63)]
          have el_l4 : (bpl (fun j => cnt (brk fl (insA v n j x) (n + 1) b) (n + 1)) (i + 1)).1 = cnt (brk fl (insA v n i x) (n + 1) b) (n + 1) := by first | (rw [bpl_s, if_pos c63]; done) | rw [bpl_s, if_neg (Nat.not_lt.mpr c63)]
          exact ih20 (i + 1) (by omega) (by first | assumption | omega) _ _ (by first | (rw [el_l3, el_l4]; exact hP) | (simp only [el_l3, el_l4]; exact hP) | exact hP) (by first | (rw [el_l3, el_l4]; exact hD) | (simp only [el_l3, el_l4]; exact hD) | exact hD) hS ls (by first | (rw [el_l3, el_l4]; exact lv_sub hl [4, 5, 2, 1, 0] rfl) | (simp only [el_l3, el_l4]; exact lv_sub hl [4, 5, 2, 1, 0] rfl) | exact lv_sub hl [4, 5, 2, 1, 0] rfl)
  exact loop20 (n + 1 - 0 + 1) 0 (by omega) (by first | assumption | omega) _ _ (by first | (rw [el_l3, el_l4]; exact hP) | (simp only [el_l3, el_l4]; exact hP) | exact hP) (by first | (rw [el_l3, el_l4]; exact hD) | (simp only [el_l3, el_l4]; exact hD) | exact hD) hS ls (by first | (rw [el_l3, el_l4]; exact lv_sub hl [3, 4, 2, 1, 0] rfl) | (simp only [el_l3, el_l4]; exact lv_sub hl [3, 4, 2, 1, 0] rfl) | exact lv_sub hl [3, 4, 2, 1, 0] rfl)

set_option maxHeartbeats 4000000 in
set_option maxRecDepth 100000 in
theorem kX7_rankOf (l : Launch) (D : va_G) (mo : Nat) (sa : Nat) (pa : Nat) (ha : Nat) (ta : Nat) (cJ : ClassId) (cI : ClassId) (n : Nat) (b : Nat) (fl : Bool) (me : Bool) (st : Int64) (lk : Int64) (cm : Int64) (v : Nat → Int64) (nu : Nat → Int64) (pt : Nat → Int64) (hd : Nat → Int64) (tx : Nat → Int32) (ps : Nat) (ru : Bool) (ty : Nat) (rf : Nat) (lks : Nat) (lo1 : Int32) (hi1 : Int32) (sp : Nat) (cd : Int32) (pl : Int32) (gv : Int64) (x : Int64) (hn : n ≤ 32) : MMi l yX7_rankOf wsX7_rankOf ({ frames := 1, cells := 0, slots := 0, locals := 24 } : Room) [.ref mo, .long x] D (ModC mo sa pa ha ta cJ cI (sM n b fl me st lk cm v nu) pt hd tx ps ru ty rf lks lo1 hi1 sp cd pl gv) [(cJ, .long), (cI, .int)] (nI (rkOf fl v n x)) (ModC mo sa pa ha ta cJ cI (sM n b fl me st lk cm v nu) pt hd tx ps ru ty 0 lks lo1 hi1 sp cd pl gv) := by
  refine MMi_of (cc := cX7_rankOf) (maxL := 5) (ret := some .int) (by decide +kernel) rfl (Nat.le_of_ble_eq_true rfl) ?_
  intro p e s m args below meth c hx hb hr hts hown hlocks hml hP hK hN hD ls hl
  have hown : s.vm.findClass RX7 = some m.cls := hown
  have hl : lv_has ls 5 [(0, .ref mo), (1, .long x)] := hl
  have hS : va_S (va_A (ModC mo sa pa ha ta cJ cI (sM n b fl me st lk cm v nu) pt hd tx ps ru ty rf lks lo1 hi1 sp cd pl gv) s.heap.size) s.heap s.heap [] := va_S.rf
  have hA := wk_hA (ModC mo sa pa ha ta cJ cI (sM n b fl me st lk cm v nu) pt hd tx ps ru ty rf lks lo1 hi1 sp cd pl gv) s.heap.size
  have hD9 : True := trivial
  have hinX7 : ∀ w ∈ wsX70, w ∈ wsX7_rankOf := by decide +kernel
  refine lv_aload_n hx hb dX7_rankOf_0 rfl (lv_at hl 0 rfl) ?_
  refine lv_iconst (v := nI 0) hx hb dX7_rankOf_1 (by decide) ?_
  refine va_put (D := D) (ci := 5) (v := .int (nI 0)) (ty := .int) (C := RX7) (T := TX7) (N := 15) hx hb hts hinX7 tyX7 tyX7_ok nmX7 hown hK hP hD hS 0 rfl rfl 7 (by decide) (hts (.fieldLink RX7 25 "NearRanksModel" "refused" "I") (by decide +kernel)) (fun _ h9 => h9) rfl (by decide +kernel) rfl rfl (Nat.le_of_ble_eq_true rfl) dX7_rankOf_2 (fun H locs hP hD hS => ?_)
  have hP : va_P D vwCl (ModC mo sa pa ha ta cJ cI (sM n b fl me st lk cm v nu) pt hd tx ps ru ty 0 lks lo1 hi1 sp cd pl gv) H := hP
  have hD : va_D _ (ModC mo sa pa ha ta cJ cI (sM n b fl me st lk cm v nu) pt hd tx ps ru ty 0 lks lo1 hi1 sp cd pl gv) := hD
  refine lv_iconst (v := nI 0) hx hb dX7_rankOf_5 (by decide) ?_
  refine lv_istore_n (lv' := [(3, .int (nI 0)), (0, .ref mo), (1, .long x)]) hx hb dX7_rankOf_6 rfl hl (by decide) rfl (fun ls hl => ?_)
  refine lv_iconst (v := nI 0) hx hb dX7_rankOf_7 (by decide) ?_
  refine lv_istore (lv' := [(4, .int (nI 0)), (3, .int (nI 0)), (0, .ref mo), (1, .long x)]) hx hb dX7_rankOf_8 hl (by decide) rfl (fun ls hl => ?_)
  have el_l3 : cnt (fun o => ahd fl (v o) x || decide (v o = x)) 0 = 0 := by rfl
  have loop10 : ∀ (K : Nat) (i : Nat), n - i < K → i ≤ n → ∀ (H : Heap) (locs : List Loc), va_P D vwCl (ModC mo sa pa ha ta cJ cI (sM n b fl me st lk cm v nu) pt hd tx ps ru ty 0 lks lo1 hi1 sp cd pl gv) H → va_D (va_A (ModC mo sa pa ha ta cJ cI (sM n b fl me st lk cm v nu) pt hd tx ps ru ty rf lks lo1 hi1 sp cd pl gv) s.heap.size) (ModC mo sa pa ha ta cJ cI (sM n b fl me st lk cm v nu) pt hd tx ps ru ty 0 lks lo1 hi1 sp cd pl gv) → va_S (va_A (ModC mo sa pa ha ta cJ cI (sM n b fl me st lk cm v nu) pt hd tx ps ru ty rf lks lo1 hi1 sp cd pl gv) s.heap.size) s.heap H locs → ∀ ls : Array Slot, lv_has ls 5 [(0, .ref mo), (1, .long x), (3, .int (nI (cnt (fun o => ahd fl (v o) x || decide (v o = x)) i))), (4, .int (nI i))] → W p l e ({ frames := 1, cells := 0, slots := 0, locals := 24 } : Room) s m args below meth c H locs 0 0 (ZMi below args s D (ModC mo sa pa ha ta cJ cI (sM n b fl me st lk cm v nu) pt hd tx ps ru ty rf lks lo1 hi1 sp cd pl gv) (nI (rkOf fl v n x)) (ModC mo sa pa ha ta cJ cI (sM n b fl me st lk cm v nu) pt hd tx ps ru ty 0 lks lo1 hi1 sp cd pl gv)) (F0 m 10 ls []) := by
    intro K
    induction K with
    | zero => intro i hK0; exact absurd hK0 (Nat.not_lt_zero _)
    | succ K ih10 =>
      intro i hKm hi H locs hP hD hS ls hl
      refine lv_iload hx hb dX7_rankOf_10 (lv_at hl 3 rfl) ?_
      refine lv_aload_n hx hb dX7_rankOf_12 rfl (lv_at hl 0 rfl) ?_
      refine lv_iconst (v := nI 0) hx hb dX7_rankOf_13 (by decide) ?_
      refine wv_callPi (As := [.int (nI 0)]) (rest := [.int (nI i)]) ⟨hx, hb, hml, hown, hts⟩ (kX7_of l D mo sa pa ha ta cJ cI n b fl me st lk cm v nu pt hd tx ps ru ty 0 lks lo1 hi1 sp cd pl gv 0 (by first | assumption | omega)) (cwV 1 hts gX7_rankOf_X7_of rfl rfl rfl (by decide +kernel) ⟨Nat.le_of_ble_eq_true rfl, Nat.le_of_ble_eq_true rfl⟩) hK hN hP hS hA [0, 1, 2, 3, 4] [0, 1] rfl rfl 0 5 rfl rfl rfl rfl hl.1 rfl (Nat.le_of_ble_eq_true rfl) dX7_rankOf_14 ⟨Nat.zero_le _, Nat.zero_le _⟩ (fun H locs hz9 hP hS => ?_)
      refine wv_ti (y := nI n) of_0 ?_
      refine wv_icmp_ge (tgt := 67) hx hb (by omega) (by omega) dX7_rankOf_17 (by decide) (fun c17 => ?_) (fun c17 => ?_)
      · skip
        refine lv_iload_n hx hb dX7_rankOf_67 rfl (lv_at hl 2 rfl) ?_
        exact wv_iretM hx hb hr hlocks hP hD hS (by rw [show i = n by omega]; rfl) rfl dX7_rankOf_68
      · skip
        refine lv_iload_n hx hb dX7_rankOf_20 rfl (lv_at hl 2 rfl) ?_
        refine lv_aload_n hx hb dX7_rankOf_21 rfl (lv_at hl 0 rfl) ?_
        refine lv_aload_n hx hb dX7_rankOf_22 rfl (lv_at hl 0 rfl) ?_
        refine va_get (D := D) (ci := 5) (C := RX7) (T := TX7) (N := 15) hx hb hts hinX7 hown hK hP 0 rfl rfl 0 (by decide) (hts (.fieldLink RX7 7 "NearRanksModel" "s" "[J") (by decide +kernel)) (fun _ h9 => h9) rfl dX7_rankOf_23 ?_
        refine lv_bipush (v := nI 7) hx hb dX7_rankOf_26 (by decide) ?_
        refine lv_iload hx hb dX7_rankOf_28 (lv_at hl 3 rfl) ?_
        refine lv_iadd hx hb dX7_rankOf_30 ?_
        refine wv_ti (nI_add _ _) ?_
        refine wv_lald hx hb hK hP 1 0 rfl rfl (k := 7 + i) (by omega) (by decide) dX7_rankOf_31 ?_
        refine wv_tl (y := v i) (sM_v (by omega) (by omega)) ?_
        refine lv_lload_n hx hb dX7_rankOf_32 rfl (lv_at hl 1 rfl) ?_
        refine wv_callPi (As := [.long (v i), .long x]) (rest := [.int (nI (cnt (fun o => ahd fl (v o) x || decide (v o = x)) i))]) ⟨hx, hb, hml, hown, hts⟩ (kX7_isAhead l D mo sa pa ha ta cJ cI n b fl me st lk cm v nu pt hd tx ps ru ty 0 lks lo1 hi1 sp cd pl gv (v i) x) (cwV 2 hts gX7_rankOf_X7_isAhead rfl rfl rfl (by decide +kernel) ⟨Nat.le_of_ble_eq_true rfl, Nat.le_of_ble_eq_true rfl⟩) hK hN hP hS hA [0, 1, 2, 3, 4] [0, 1] rfl rfl 0 5 rfl rfl rfl rfl hl.1 rfl (Nat.le_of_ble_eq_true rfl) dX7_rankOf_33 ⟨Nat.zero_le _, Nat.zero_le _⟩ (fun H locs hz9 hP hS => ?_)
        refine wv_ifneB (tgt := 54) hx hb dX7_rankOf_36 (by decide) (fun c36 => ?_) (fun c36 => ?_)
        · skip
          refine lv_iconst (v := nI 1) hx hb dX7_rankOf_54 (by decide) ?_
          refine lv_goto (tgt := 59) hx hb dX7_rankOf_55 (by decide) ?_
          refine lv_iadd hx hb dX7_rankOf_59 ?_
          refine wv_ti (nI_add _ _) ?_
          refine lv_istore_n (lv' := [(3, .int (nI ((cnt (fun o => ahd fl (v o) x || decide (v o = x)) i) + 1))), (0, .ref mo), (1, .long x), (4, .int (nI i))]) hx hb dX7_rankOf_60 rfl hl (by decide) rfl (fun ls hl => ?_)
          refine lv_iinc (v := nI (i + 1)) (lv' := [(4, .int (nI (i + 1))), (3, .int (nI ((cnt (fun o => ahd fl (v o) x || decide (v o = x)) i) + 1))), (0, .ref mo), (1, .long x)]) hx hb dX7_rankOf_61 hl (k := 3) rfl (nI_1 _) (by decide) rfl (fun ls hl => ?_)
          refine lv_goto (tgt := 10) hx hb dX7_rankOf_64 (by decide) ?_
          have el_l3 : cnt (fun o => ahd fl (v o) x || decide (v o = x)) (i + 1) = (cnt (fun o => ahd fl (v o) x || decide (v o = x)) i) + 1 := by first | exact cnt_t (by show (ahd fl (v i) x || decide (v i = x)) = true; rw [c36]; rfl) | exact cnt_t (by show (ahd fl (v i) x || decide (v i = x)) = true; rw [decide_eq_true c51, Bool.or_true]) | exact cnt_f (by show (ahd fl (v i) x || decide (v i = x)) = false; rw [c36, decide_eq_false c51]; rfl)
          exact ih10 (i + 1) (by omega) (by first | assumption | omega) _ _ (by first | (rw [el_l3]; exact hP) | (simp only [el_l3]; exact hP) | exact hP) (by first | (rw [el_l3]; exact hD) | (simp only [el_l3]; exact hD) | exact hD) hS ls (by first | (rw [el_l3]; exact lv_sub hl [2, 3, 1, 0] rfl) | (simp only [el_l3]; exact lv_sub hl [2, 3, 1, 0] rfl) | exact lv_sub hl [2, 3, 1, 0] rfl)
        · skip
          refine lv_aload_n hx hb dX7_rankOf_39 rfl (lv_at hl 0 rfl) ?_
          refine va_get (D := D) (ci := 5) (C := RX7) (T := TX7) (N := 15) hx hb hts hinX7 hown hK hP 0 rfl rfl 0 (by decide) (hts (.fieldLink RX7 7 "NearRanksModel" "s" "[J") (by decide +kernel)) (fun _ h9 => h9) rfl dX7_rankOf_40 ?_
          refine lv_bipush (v := nI 7) hx hb dX7_rankOf_43 (by decide) ?_
          refine lv_iload hx hb dX7_rankOf_45 (lv_at hl 3 rfl) ?_
          refine lv_iadd hx hb dX7_rankOf_47 ?_
          refine wv_ti (nI_add _ _) ?_
          refine wv_lald hx hb hK hP 1 0 rfl rfl (k := 7 + i) (by omega) (by decide) dX7_rankOf_48 ?_
          refine wv_tl (y := v i) (sM_v (by omega) (by omega)) ?_
          refine lv_lload_n hx hb dX7_rankOf_49 rfl (lv_at hl 1 rfl) ?_
          refine wv_lc_ne (tgt := 58) hx hb dX7_rankOf_50 dX7_rankOf_51 (by decide) (fun c51 => ?_) (fun c51 => ?_)
          · skip
            refine lv_iconst (v := nI 0) hx hb dX7_rankOf_58 (by decide) ?_
            refine lv_iadd hx hb dX7_rankOf_59 ?_
            refine wv_ti (nI_add _ _) ?_
            refine lv_istore_n (lv' := [(3, .int (nI ((cnt (fun o => ahd fl (v o) x || decide (v o = x)) i) + 0))), (0, .ref mo), (1, .long x), (4, .int (nI i))]) hx hb dX7_rankOf_60 rfl hl (by decide) rfl (fun ls hl => ?_)
            refine lv_iinc (v := nI (i + 1)) (lv' := [(4, .int (nI (i + 1))), (3, .int (nI ((cnt (fun o => ahd fl (v o) x || decide (v o = x)) i) + 0))), (0, .ref mo), (1, .long x)]) hx hb dX7_rankOf_61 hl (k := 3) rfl (nI_1 _) (by decide) rfl (fun ls hl => ?_)
            refine lv_goto (tgt := 10) hx hb dX7_rankOf_64 (by decide) ?_
            have el_l3 : cnt (fun o => ahd fl (v o) x || decide (v o = x)) (i + 1) = (cnt (fun o => ahd fl (v o) x || decide (v o = x)) i) + 0 := by first | exact cnt_t (by show (ahd fl (v i) x || decide (v i = x)) = true; rw [c36]; rfl) | exact cnt_t (by show (ahd fl (v i) x || decide (v i = x)) = true; rw [decide_eq_true c51, Bool.or_true]) | exact cnt_f (by show (ahd fl (v i) x || decide (v i = x)) = false; rw [c36, decide_eq_false c51]; rfl)
            exact ih10 (i + 1) (by omega) (by first | assumption | omega) _ _ (by first | (rw [el_l3]; exact hP) | (simp only [el_l3]; exact hP) | exact hP) (by first | (rw [el_l3]; exact hD) | (simp only [el_l3]; exact hD) | exact hD) hS ls (by first | (rw [el_l3]; exact lv_sub hl [2, 3, 1, 0] rfl) | (simp only [el_l3]; exact lv_sub hl [2, 3, 1, 0] rfl) | exact lv_sub hl [2, 3, 1, 0] rfl)
          · skip
            refine lv_iconst (v := nI 1) hx hb dX7_rankOf_54 (by decide) ?_
            refine lv_goto (tgt := 59) hx hb dX7_rankOf_55 (by decide) ?_
            refine lv_iadd hx hb dX7_rankOf_59 ?_
            refine wv_ti (nI_add _ _) ?_
            refine lv_istore_n (lv' := [(3, .int (nI ((cnt (fun o => ahd fl (v o) x || decide (v o = x)) i) + 1))), (0, .ref mo), (1, .long x), (4, .int (nI i))]) hx hb dX7_rankOf_60 rfl hl (by decide) rfl (fun ls hl => ?_)
            refine lv_iinc (v := nI (i + 1)) (lv' := [(4, .int (nI (i + 1))), (3, .int (nI ((cnt (fun o => ahd fl (v o) x || decide (v o = x)) i) + 1))), (0, .ref mo), (1, .long x)]) hx hb dX7_rankOf_61 hl (k := 3) rfl (nI_1 _) (by decide) rfl (fun ls hl => ?_)
            refine lv_goto (tgt := 10) hx hb dX7_rankOf_64 (by decide) ?_
            have el_l3 : cnt (fun o => ahd fl (v o) x || decide (v o = x)) (i + 1) = (cnt (fun o => ahd fl (v o) x || decide (v o = x)) i) + 1 := by first | exact cnt_t (by show (ahd fl (v i) x || decide (v i = x)) = true; rw [c36]; rfl) | exact cnt_t (by show (ahd fl (v i) x || decide (v i = x)) = true; rw [decide_eq_true c51, Bool.or_true]) | exact cnt_f (by show (ahd fl (v i) x || decide (v i = x)) = false; rw [c36, decide_eq_false c51]; rfl)
            exact ih10 (i + 1) (by omega) (by first | assumption | omega) _ _ (by first | (rw [el_l3]; exact hP) | (simp only [el_l3]; exact hP) | exact hP) (by first | (rw [el_l3]; exact hD) | (simp only [el_l3]; exact hD) | exact hD) hS ls (by first | (rw [el_l3]; exact lv_sub hl [2, 3, 1, 0] rfl) | (simp only [el_l3]; exact lv_sub hl [2, 3, 1, 0] rfl) | exact lv_sub hl [2, 3, 1, 0] rfl)
  exact loop10 (n - 0 + 1) 0 (by omega) (by first | assumption | omega) _ _ (by first | (rw [el_l3]; exact hP) | (simp only [el_l3]; exact hP) | exact hP) (by first | (rw [el_l3]; exact hD) | (simp only [el_l3]; exact hD) | exact hD) hS ls (by first | (rw [el_l3]; exact lv_sub hl [2, 3, 1, 0] rfl) | (simp only [el_l3]; exact lv_sub hl [2, 3, 1, 0] rfl) | exact lv_sub hl [2, 3, 1, 0] rfl)

set_option maxHeartbeats 4000000 in
set_option maxRecDepth 100000 in
theorem kX7_type_bad (l : Launch) (D : va_G) (mo : Nat) (sa : Nat) (pa : Nat) (ha : Nat) (ta : Nat) (cJ : ClassId) (cI : ClassId) (n : Nat) (b : Nat) (fl : Bool) (me : Bool) (st : Int64) (lk : Int64) (cm : Int64) (v : Nat → Int64) (nu : Nat → Int64) (pt : Nat → Int64) (hd : Nat → Int64) (tx : Nat → Int32) (ps : Nat) (ru : Bool) (ty : Nat) (rf : Nat) (lks : Nat) (lo1 : Int32) (hi1 : Int32) (sp : Nat) (cd : Int32) (pl : Int32) (gv : Int64) (z : Int32) (hz : opn z 127 = false) : MMi l yX7_type wsX7_type ({ frames := 1, cells := 0, slots := 0, locals := 25 } : Room) [.ref mo, .int z] D (ModC mo sa pa ha ta cJ cI (sM n b fl me st lk cm v nu) pt hd tx ps ru ty rf lks lo1 hi1 sp cd pl gv) [(cJ, .long), (cI, .int)] (nI 0) (ModC mo sa pa ha ta cJ cI (sM n b fl me st lk cm v nu) pt hd tx ps ru ty 1 lks lo1 hi1 sp cd pl gv) := by
  refine MMi_of (cc := cX7_type) (maxL := 2) (ret := some .int) (by decide +kernel) rfl (Nat.le_of_ble_eq_true rfl) ?_
  intro p e s m args below meth c hx hb hr hts hown hlocks hml hP hK hN hD ls hl
  have hown : s.vm.findClass RX7 = some m.cls := hown
  have hl : lv_has ls 2 [(0, .ref mo), (1, .int z)] := hl
  have hS : va_S (va_A (ModC mo sa pa ha ta cJ cI (sM n b fl me st lk cm v nu) pt hd tx ps ru ty rf lks lo1 hi1 sp cd pl gv) s.heap.size) s.heap s.heap [] := va_S.rf
  have hA := wk_hA (ModC mo sa pa ha ta cJ cI (sM n b fl me st lk cm v nu) pt hd tx ps ru ty rf lks lo1 hi1 sp cd pl gv) s.heap.size
  have hD9 : True := trivial
  refine lv_aload_n hx hb dX7_type_0 rfl (lv_at hl 0 rfl) ?_
  refine lv_iload_n hx hb dX7_type_1 rfl (lv_at hl 1 rfl) ?_
  refine lv_i2l (v := z.toInt64) hx hb dX7_type_2 rfl ?_
  refine lv_lconst (v := lN 0) hx hb dX7_type_3 rfl ?_
  refine lv_ldc2 (v := lN 127) hx hb hown (hts (.constantLong RX7 158 (127)) (by decide +kernel)) dX7_type_4 ?_
  refine wv_callSi (As := [.long z.toInt64, .long (lN 0), .long (lN 127)]) (rest := [.ref mo]) ⟨hx, hb, hml, hown, hts⟩ (kX7_in l D z.toInt64 (lN 0) (lN 127)) (va_cwS 3 hts gX7_type_X7_in rfl rfl rfl (by decide +kernel) ⟨Nat.le_of_ble_eq_true rfl, Nat.le_of_ble_eq_true rfl⟩) hK hN hP hS hA [] [] rfl rfl rfl hl.1 rfl (Nat.le_of_ble_eq_true rfl) dX7_type_7 ⟨Nat.zero_le _, Nat.zero_le _⟩ (fun H locs hz9 hP hS => ?_)
  refine wv_ti (y := bI false) (by rw [wk_in_o z (by omega), hz]) ?_
  refine wv_ifneB (tgt := 17) hx hb dX7_type_10 (by decide) (fun h => by cases h) (fun _ => ?_)
  refine lv_iconst (v := nI 1) hx hb dX7_type_13 (by decide) ?_
  refine lv_goto (tgt := 32) hx hb dX7_type_14 (by decide) ?_
  refine wv_callMi (As := [.int (nI 1)]) (rest := []) (wr := []) (ws1 := ModC mo sa pa ha ta cJ cI (sM n b fl me st lk cm v nu) pt hd tx ps ru ty 1 lks lo1 hi1 sp cd pl gv) ⟨hx, hb, hml, hown, hts⟩ (kX7_throwsAt l D mo sa pa ha ta cJ cI n b fl me st lk cm v nu pt hd tx ps ru ty rf lks lo1 hi1 sp cd pl gv 1 (by first | assumption | omega)) (cwV 1 hts gX7_type_X7_throwsAt rfl rfl rfl (by decide +kernel) ⟨Nat.le_of_ble_eq_true rfl, Nat.le_of_ble_eq_true rfl⟩) hK hN hP hD hS hA [0, 1, 2, 3, 4] [] [0, 1] [0, 1, 2, 3, 4] rfl rfl (by decide) rfl (by decide) (by decide) rfl (by decide) rfl 0 5 rfl rfl rfl rfl hl.1 rfl (Nat.le_of_ble_eq_true rfl) dX7_type_32 ⟨Nat.zero_le _, Nat.zero_le _⟩ (fun H locs hz9 hP hD hS => ?_)
  refine wv_ti (y := bI true) (by decide) ?_
  refine wv_ifeqB (tgt := 40) hx hb dX7_type_35 (by decide) (fun h => by cases h) (fun _ => ?_)
  refine lv_iconst (v := nI 0) hx hb dX7_type_38 (by decide) ?_
  exact wv_iretM hx hb hr hlocks hP hD hS rfl rfl dX7_type_39

set_option maxHeartbeats 4000000 in
set_option maxRecDepth 100000 in
theorem kX7_type_full (l : Launch) (D : va_G) (mo : Nat) (sa : Nat) (pa : Nat) (ha : Nat) (ta : Nat) (cJ : ClassId) (cI : ClassId) (n : Nat) (b : Nat) (fl : Bool) (me : Bool) (st : Int64) (lk : Int64) (cm : Int64) (v : Nat → Int64) (nu : Nat → Int64) (pt : Nat → Int64) (hd : Nat → Int64) (tx : Nat → Int32) (ps : Nat) (ru : Bool) (ty : Nat) (rf : Nat) (lks : Nat) (lo1 : Int32) (hi1 : Int32) (sp : Nat) (cd : Int32) (pl : Int32) (gv : Int64) (k : Nat) (hk : k ≤ 127) (hty : ty = 150) : MMi l yX7_type wsX7_type ({ frames := 1, cells := 0, slots := 0, locals := 25 } : Room) [.ref mo, .int (nI k)] D (ModC mo sa pa ha ta cJ cI (sM n b fl me st lk cm v nu) pt hd tx ps ru ty rf lks lo1 hi1 sp cd pl gv) [(cJ, .long), (cI, .int)] (nI 0) (ModC mo sa pa ha ta cJ cI (sM n b fl me st lk cm v nu) pt hd tx ps ru ty 2 lks lo1 hi1 sp cd pl gv) := by
  refine MMi_of (cc := cX7_type) (maxL := 2) (ret := some .int) (by decide +kernel) rfl (Nat.le_of_ble_eq_true rfl) ?_
  intro p e s m args below meth c hx hb hr hts hown hlocks hml hP hK hN hD ls hl
  have hown : s.vm.findClass RX7 = some m.cls := hown
  have hl : lv_has ls 2 [(0, .ref mo), (1, .int (nI k))] := hl
  have hS : va_S (va_A (ModC mo sa pa ha ta cJ cI (sM n b fl me st lk cm v nu) pt hd tx ps ru ty rf lks lo1 hi1 sp cd pl gv) s.heap.size) s.heap s.heap [] := va_S.rf
  have hA := wk_hA (ModC mo sa pa ha ta cJ cI (sM n b fl me st lk cm v nu) pt hd tx ps ru ty rf lks lo1 hi1 sp cd pl gv) s.heap.size
  have hD9 : True := trivial
  have hinX7 : ∀ w ∈ wsX70, w ∈ wsX7_type := by decide +kernel
  refine lv_aload_n hx hb dX7_type_0 rfl (lv_at hl 0 rfl) ?_
  refine lv_iload_n hx hb dX7_type_1 rfl (lv_at hl 1 rfl) ?_
  refine lv_i2l (v := lN k) hx hb dX7_type_2 (nI_l (by omega)) ?_
  refine lv_lconst (v := lN 0) hx hb dX7_type_3 rfl ?_
  refine lv_ldc2 (v := lN 127) hx hb hown (hts (.constantLong RX7 158 (127)) (by decide +kernel)) dX7_type_4 ?_
  refine wv_callSi (As := [.long (lN k), .long (lN 0), .long (lN 127)]) (rest := [.ref mo]) ⟨hx, hb, hml, hown, hts⟩ (kX7_in l D (lN k) (lN 0) (lN 127)) (va_cwS 3 hts gX7_type_X7_in rfl rfl rfl (by decide +kernel) ⟨Nat.le_of_ble_eq_true rfl, Nat.le_of_ble_eq_true rfl⟩) hK hN hP hS hA [] [] rfl rfl rfl hl.1 rfl (Nat.le_of_ble_eq_true rfl) dX7_type_7 ⟨Nat.zero_le _, Nat.zero_le _⟩ (fun H locs hz9 hP hS => ?_)
  refine wv_ti (y := bI true) (by rw [wk_in_t (by omega) hk (by omega)]) ?_
  refine wv_ifneB (tgt := 17) hx hb dX7_type_10 (by decide) (fun _ => ?_) (fun h => by cases h)
  refine lv_aload_n hx hb dX7_type_17 rfl (lv_at hl 0 rfl) ?_
  refine va_get (D := D) (ci := 5) (C := RX7) (T := TX7) (N := 15) hx hb hts hinX7 hown hK hP 0 rfl rfl 6 (by decide) (hts (.fieldLink RX7 136 "NearRanksModel" "typed" "I") (by decide +kernel)) (fun _ h9 => h9) rfl dX7_type_18 ?_
  refine lv_sipush (v := nI 150) hx hb dX7_type_21 (by decide) ?_
  refine wv_icmp_ne (tgt := 31) hx hb (by omega) (by omega) dX7_type_24 (by decide) (fun c24 => by exfalso; exact c24 hty) (fun c24 => ?_)
  refine lv_iconst (v := nI 2) hx hb dX7_type_27 (by decide) ?_
  refine lv_goto (tgt := 32) hx hb dX7_type_28 (by decide) ?_
  refine wv_callMi (As := [.int (nI 2)]) (rest := []) (wr := []) (ws1 := ModC mo sa pa ha ta cJ cI (sM n b fl me st lk cm v nu) pt hd tx ps ru ty 2 lks lo1 hi1 sp cd pl gv) ⟨hx, hb, hml, hown, hts⟩ (kX7_throwsAt l D mo sa pa ha ta cJ cI n b fl me st lk cm v nu pt hd tx ps ru ty rf lks lo1 hi1 sp cd pl gv 2 (by first | assumption | omega)) (cwV 1 hts gX7_type_X7_throwsAt rfl rfl rfl (by decide +kernel) ⟨Nat.le_of_ble_eq_true rfl, Nat.le_of_ble_eq_true rfl⟩) hK hN hP hD hS hA [0, 1, 2, 3, 4] [] [0, 1] [0, 1, 2, 3, 4] rfl rfl (by decide) rfl (by decide) (by decide) rfl (by decide) rfl 0 5 rfl rfl rfl rfl hl.1 rfl (Nat.le_of_ble_eq_true rfl) dX7_type_32 ⟨Nat.zero_le _, Nat.zero_le _⟩ (fun H locs hz9 hP hD hS => ?_)
  refine wv_ti (y := bI true) (by decide) ?_
  refine wv_ifeqB (tgt := 40) hx hb dX7_type_35 (by decide) (fun h => by cases h) (fun _ => ?_)
  refine lv_iconst (v := nI 0) hx hb dX7_type_38 (by decide) ?_
  exact wv_iretM hx hb hr hlocks hP hD hS rfl rfl dX7_type_39

set_option maxHeartbeats 4000000 in
set_option maxRecDepth 100000 in
theorem kX7_type (l : Launch) (D : va_G) (mo : Nat) (sa : Nat) (pa : Nat) (ha : Nat) (ta : Nat) (cJ : ClassId) (cI : ClassId) (n : Nat) (b : Nat) (fl : Bool) (me : Bool) (st : Int64) (lk : Int64) (cm : Int64) (v : Nat → Int64) (nu : Nat → Int64) (pt : Nat → Int64) (hd : Nat → Int64) (tx : Nat → Int32) (ps : Nat) (ru : Bool) (ty : Nat) (rf : Nat) (lks : Nat) (lo1 : Int32) (hi1 : Int32) (sp : Nat) (cd : Int32) (pl : Int32) (gv : Int64) (k : Nat) (hk : k ≤ 127) (hty : ty < 150) : MMi l yX7_type wsX7_type ({ frames := 1, cells := 0, slots := 0, locals := 25 } : Room) [.ref mo, .int (nI k)] D (ModC mo sa pa ha ta cJ cI (sM n b fl me st lk cm v nu) pt hd tx ps ru ty rf lks lo1 hi1 sp cd pl gv) [(cJ, .long), (cI, .int)] (nI (ty + 1)) (ModC mo sa pa ha ta cJ cI (sM n b fl me st lk cm v nu) pt hd (upd tx ty (nI k)) ps ru (ty + 1) 0 lks lo1 hi1 sp cd pl gv) := by
  refine MMi_of (cc := cX7_type) (maxL := 2) (ret := some .int) (by decide +kernel) rfl (Nat.le_of_ble_eq_true rfl) ?_
  intro p e s m args below meth c hx hb hr hts hown hlocks hml hP hK hN hD ls hl
  have hown : s.vm.findClass RX7 = some m.cls := hown
  have hl : lv_has ls 2 [(0, .ref mo), (1, .int (nI k))] := hl
  have hS : va_S (va_A (ModC mo sa pa ha ta cJ cI (sM n b fl me st lk cm v nu) pt hd tx ps ru ty rf lks lo1 hi1 sp cd pl gv) s.heap.size) s.heap s.heap [] := va_S.rf
  have hA := wk_hA (ModC mo sa pa ha ta cJ cI (sM n b fl me st lk cm v nu) pt hd tx ps ru ty rf lks lo1 hi1 sp cd pl gv) s.heap.size
  have hD9 : True := trivial
  have hinX7 : ∀ w ∈ wsX70, w ∈ wsX7_type := by decide +kernel
  refine lv_aload_n hx hb dX7_type_0 rfl (lv_at hl 0 rfl) ?_
  refine lv_iload_n hx hb dX7_type_1 rfl (lv_at hl 1 rfl) ?_
  refine lv_i2l (v := lN k) hx hb dX7_type_2 (nI_l (by omega)) ?_
  refine lv_lconst (v := lN 0) hx hb dX7_type_3 rfl ?_
  refine lv_ldc2 (v := lN 127) hx hb hown (hts (.constantLong RX7 158 (127)) (by decide +kernel)) dX7_type_4 ?_
  refine wv_callSi (As := [.long (lN k), .long (lN 0), .long (lN 127)]) (rest := [.ref mo]) ⟨hx, hb, hml, hown, hts⟩ (kX7_in l D (lN k) (lN 0) (lN 127)) (va_cwS 3 hts gX7_type_X7_in rfl rfl rfl (by decide +kernel) ⟨Nat.le_of_ble_eq_true rfl, Nat.le_of_ble_eq_true rfl⟩) hK hN hP hS hA [] [] rfl rfl rfl hl.1 rfl (Nat.le_of_ble_eq_true rfl) dX7_type_7 ⟨Nat.zero_le _, Nat.zero_le _⟩ (fun H locs hz9 hP hS => ?_)
  refine wv_ti (y := bI true) (by rw [wk_in_t (by omega) hk (by omega)]) ?_
  refine wv_ifneB (tgt := 17) hx hb dX7_type_10 (by decide) (fun _ => ?_) (fun h => by cases h)
  refine lv_aload_n hx hb dX7_type_17 rfl (lv_at hl 0 rfl) ?_
  refine va_get (D := D) (ci := 5) (C := RX7) (T := TX7) (N := 15) hx hb hts hinX7 hown hK hP 0 rfl rfl 6 (by decide) (hts (.fieldLink RX7 136 "NearRanksModel" "typed" "I") (by decide +kernel)) (fun _ h9 => h9) rfl dX7_type_18 ?_
  refine lv_sipush (v := nI 150) hx hb dX7_type_21 (by decide) ?_
  refine wv_icmp_ne (tgt := 31) hx hb (by omega) (by omega) dX7_type_24 (by decide) (fun c24 => ?_) (fun c24 => by exfalso; omega)
  refine lv_iconst (v := nI 0) hx hb dX7_type_31 (by decide) ?_
  refine wv_callMi (As := [.int (nI 0)]) (rest := []) (wr := []) (ws1 := ModC mo sa pa ha ta cJ cI (sM n b fl me st lk cm v nu) pt hd tx ps ru ty 0 lks lo1 hi1 sp cd pl gv) ⟨hx, hb, hml, hown, hts⟩ (kX7_throwsAt l D mo sa pa ha ta cJ cI n b fl me st lk cm v nu pt hd tx ps ru ty rf lks lo1 hi1 sp cd pl gv 0 (by first | assumption | omega)) (cwV 1 hts gX7_type_X7_throwsAt rfl rfl rfl (by decide +kernel) ⟨Nat.le_of_ble_eq_true rfl, Nat.le_of_ble_eq_true rfl⟩) hK hN hP hD hS hA [0, 1, 2, 3, 4] [] [0, 1] [0, 1, 2, 3, 4] rfl rfl (by decide) rfl (by decide) (by decide) rfl (by decide) rfl 0 5 rfl rfl rfl rfl hl.1 rfl (Nat.le_of_ble_eq_true rfl) dX7_type_32 ⟨Nat.zero_le _, Nat.zero_le _⟩ (fun H locs hz9 hP hD hS => ?_)
  refine wv_ti (y := bI false) (by decide) ?_
  refine wv_ifeqB (tgt := 40) hx hb dX7_type_35 (by decide) (fun _ => ?_) (fun h => by cases h)
  refine lv_aload_n hx hb dX7_type_40 rfl (lv_at hl 0 rfl) ?_
  refine va_get (D := D) (ci := 5) (C := RX7) (T := TX7) (N := 15) hx hb hts hinX7 hown hK hP 0 rfl rfl 5 (by decide) (hts (.fieldLink RX7 19 "NearRanksModel" "text" "[I") (by decide +kernel)) (fun _ h9 => h9) rfl dX7_type_41 ?_
  refine lv_aload_n hx hb dX7_type_44 rfl (lv_at hl 0 rfl) ?_
  refine va_get (D := D) (ci := 5) (C := RX7) (T := TX7) (N := 15) hx hb hts hinX7 hown hK hP 0 rfl rfl 6 (by decide) (hts (.fieldLink RX7 136 "NearRanksModel" "typed" "I") (by decide +kernel)) (fun _ h9 => h9) rfl dX7_type_45 ?_
  refine lv_iload_n hx hb dX7_type_48 rfl (lv_at hl 1 rfl) ?_
  refine wv_iast hx hb hK hP hD hS 4 1 rfl rfl (k := ty) (by omega) (by decide) dX7_type_49 (fun H locs hP hD hS => ?_)
  have hP : va_P D vwCl (ModC mo sa pa ha ta cJ cI (sM n b fl me st lk cm v nu) pt hd (upd tx ty (nI k)) ps ru ty 0 lks lo1 hi1 sp cd pl gv) H := hP
  have hD : va_D _ (ModC mo sa pa ha ta cJ cI (sM n b fl me st lk cm v nu) pt hd (upd tx ty (nI k)) ps ru ty 0 lks lo1 hi1 sp cd pl gv) := hD
  refine lv_aload_n hx hb dX7_type_50 rfl (lv_at hl 0 rfl) ?_
  refine lv_dup hx hb dX7_type_51 rfl ?_
  refine va_get (D := D) (ci := 5) (C := RX7) (T := TX7) (N := 15) hx hb hts hinX7 hown hK hP 0 rfl rfl 6 (by decide) (hts (.fieldLink RX7 136 "NearRanksModel" "typed" "I") (by decide +kernel)) (fun _ h9 => h9) rfl dX7_type_52 ?_
  refine lv_iconst (v := nI 1) hx hb dX7_type_55 (by decide) ?_
  refine lv_iadd hx hb dX7_type_56 ?_
  refine wv_ti (nI_add _ _) ?_
  refine va_put (D := D) (ci := 5) (v := .int (nI (ty + 1))) (ty := .int) (C := RX7) (T := TX7) (N := 15) hx hb hts hinX7 tyX7 tyX7_ok nmX7 hown hK hP hD hS 0 rfl rfl 6 (by decide) (hts (.fieldLink RX7 136 "NearRanksModel" "typed" "I") (by decide +kernel)) (fun _ h9 => h9) rfl (by decide +kernel) rfl rfl (Nat.le_of_ble_eq_true rfl) dX7_type_57 (fun H locs hP hD hS => ?_)
  have hP : va_P D vwCl (ModC mo sa pa ha ta cJ cI (sM n b fl me st lk cm v nu) pt hd (upd tx ty (nI k)) ps ru (ty + 1) 0 lks lo1 hi1 sp cd pl gv) H := hP
  have hD : va_D _ (ModC mo sa pa ha ta cJ cI (sM n b fl me st lk cm v nu) pt hd (upd tx ty (nI k)) ps ru (ty + 1) 0 lks lo1 hi1 sp cd pl gv) := hD
  refine lv_aload_n hx hb dX7_type_60 rfl (lv_at hl 0 rfl) ?_
  refine va_get (D := D) (ci := 5) (C := RX7) (T := TX7) (N := 15) hx hb hts hinX7 hown hK hP 0 rfl rfl 6 (by decide) (hts (.fieldLink RX7 136 "NearRanksModel" "typed" "I") (by decide +kernel)) (fun _ h9 => h9) rfl dX7_type_61 ?_
  exact wv_iretM hx hb hr hlocks hP hD hS rfl rfl dX7_type_64

set_option maxHeartbeats 4000000 in
set_option maxRecDepth 100000 in
theorem kX7_clearCommands (l : Launch) (D : va_G) (mo : Nat) (sa : Nat) (pa : Nat) (ha : Nat) (ta : Nat) (cJ : ClassId) (cI : ClassId) (n : Nat) (b : Nat) (fl : Bool) (me : Bool) (st : Int64) (lk : Int64) (cm : Int64) (v : Nat → Int64) (nu : Nat → Int64) (pt : Nat → Int64) (hd : Nat → Int64) (tx : Nat → Int32) (ps : Nat) (ru : Bool) (ty : Nat) (rf : Nat) (lks : Nat) (lo1 : Int32) (hi1 : Int32) (sp : Nat) (cd : Int32) (pl : Int32) (gv : Int64)  : MMi l yX7_clearCommands wsX7_clearCommands ({ frames := 0, cells := 0, slots := 0, locals := 0 } : Room) [.ref mo] D (ModC mo sa pa ha ta cJ cI (sM n b fl me st lk cm v nu) pt hd tx ps ru ty rf lks lo1 hi1 sp cd pl gv) [(cJ, .long), (cI, .int)] (nI ty) (ModC mo sa pa ha ta cJ cI (sM n b fl me st lk cm v nu) pt hd tx ps ru 0 0 lks lo1 hi1 sp cd pl gv) := by
  refine MMi_of (cc := cX7_clearCommands) (maxL := 2) (ret := some .int) (by decide +kernel) rfl (Nat.le_of_ble_eq_true rfl) ?_
  intro p e s m args below meth c hx hb hr hts hown hlocks hml hP hK hN hD ls hl
  have hown : s.vm.findClass RX7 = some m.cls := hown
  have hl : lv_has ls 2 [(0, .ref mo)] := hl
  have hS : va_S (va_A (ModC mo sa pa ha ta cJ cI (sM n b fl me st lk cm v nu) pt hd tx ps ru ty rf lks lo1 hi1 sp cd pl gv) s.heap.size) s.heap s.heap [] := va_S.rf
  have hA := wk_hA (ModC mo sa pa ha ta cJ cI (sM n b fl me st lk cm v nu) pt hd tx ps ru ty rf lks lo1 hi1 sp cd pl gv) s.heap.size
  have hD9 : True := trivial
  have hinX7 : ∀ w ∈ wsX70, w ∈ wsX7_clearCommands := by decide +kernel
  refine lv_aload_n hx hb dX7_clearCommands_0 rfl (lv_at hl 0 rfl) ?_
  refine lv_iconst (v := nI 0) hx hb dX7_clearCommands_1 (by decide) ?_
  refine va_put (D := D) (ci := 5) (v := .int (nI 0)) (ty := .int) (C := RX7) (T := TX7) (N := 15) hx hb hts hinX7 tyX7 tyX7_ok nmX7 hown hK hP hD hS 0 rfl rfl 7 (by decide) (hts (.fieldLink RX7 25 "NearRanksModel" "refused" "I") (by decide +kernel)) (fun _ h9 => h9) rfl (by decide +kernel) rfl rfl (Nat.le_of_ble_eq_true rfl) dX7_clearCommands_2 (fun H locs hP hD hS => ?_)
  have hP : va_P D vwCl (ModC mo sa pa ha ta cJ cI (sM n b fl me st lk cm v nu) pt hd tx ps ru ty 0 lks lo1 hi1 sp cd pl gv) H := hP
  have hD : va_D _ (ModC mo sa pa ha ta cJ cI (sM n b fl me st lk cm v nu) pt hd tx ps ru ty 0 lks lo1 hi1 sp cd pl gv) := hD
  refine lv_aload_n hx hb dX7_clearCommands_5 rfl (lv_at hl 0 rfl) ?_
  refine va_get (D := D) (ci := 5) (C := RX7) (T := TX7) (N := 15) hx hb hts hinX7 hown hK hP 0 rfl rfl 6 (by decide) (hts (.fieldLink RX7 136 "NearRanksModel" "typed" "I") (by decide +kernel)) (fun _ h9 => h9) rfl dX7_clearCommands_6 ?_
  refine lv_istore_n (lv' := [(1, .int (nI ty)), (0, .ref mo)]) hx hb dX7_clearCommands_9 rfl hl (by decide) rfl (fun ls hl => ?_)
  refine lv_aload_n hx hb dX7_clearCommands_10 rfl (lv_at hl 1 rfl) ?_
  refine lv_iconst (v := nI 0) hx hb dX7_clearCommands_11 (by decide) ?_
  refine va_put (D := D) (ci := 5) (v := .int (nI 0)) (ty := .int) (C := RX7) (T := TX7) (N := 15) hx hb hts hinX7 tyX7 tyX7_ok nmX7 hown hK hP hD hS 0 rfl rfl 6 (by decide) (hts (.fieldLink RX7 136 "NearRanksModel" "typed" "I") (by decide +kernel)) (fun _ h9 => h9) rfl (by decide +kernel) rfl rfl (Nat.le_of_ble_eq_true rfl) dX7_clearCommands_12 (fun H locs hP hD hS => ?_)
  have hP : va_P D vwCl (ModC mo sa pa ha ta cJ cI (sM n b fl me st lk cm v nu) pt hd tx ps ru 0 0 lks lo1 hi1 sp cd pl gv) H := hP
  have hD : va_D _ (ModC mo sa pa ha ta cJ cI (sM n b fl me st lk cm v nu) pt hd tx ps ru 0 0 lks lo1 hi1 sp cd pl gv) := hD
  refine lv_iload_n hx hb dX7_clearCommands_15 rfl (lv_at hl 0 rfl) ?_
  exact wv_iretM hx hb hr hlocks hP hD hS rfl rfl dX7_clearCommands_16

set_option maxHeartbeats 4000000 in
set_option maxRecDepth 100000 in
theorem kX7_undo_bad (l : Launch) (D : va_G) (mo : Nat) (sa : Nat) (pa : Nat) (ha : Nat) (ta : Nat) (cJ : ClassId) (cI : ClassId) (n : Nat) (b : Nat) (fl : Bool) (me : Bool) (st : Int64) (lk : Int64) (cm : Int64) (v : Nat → Int64) (nu : Nat → Int64) (pt : Nat → Int64) (hd : Nat → Int64) (tx : Nat → Int32) (ps : Nat) (ru : Bool) (ty : Nat) (rf : Nat) (lks : Nat) (lo1 : Int32) (hi1 : Int32) (sp : Nat) (cd : Int32) (pl : Int32) (gv : Int64) (hps : ps = 0) : MMi l yX7_undo wsX7_undo ({ frames := 1, cells := 0, slots := 0, locals := 21 } : Room) [.ref mo] D (ModC mo sa pa ha ta cJ cI (sM n b fl me st lk cm v nu) pt hd tx ps ru ty rf lks lo1 hi1 sp cd pl gv) [(cJ, .long), (cI, .int)] (nI 0) (ModC mo sa pa ha ta cJ cI (sM n b fl me st lk cm v nu) pt hd tx ps ru ty 1 lks lo1 hi1 sp cd pl gv) := by
  refine MMi_of (cc := cX7_undo) (maxL := 2) (ret := some .int) (by decide +kernel) rfl (Nat.le_of_ble_eq_true rfl) ?_
  intro p e s m args below meth c hx hb hr hts hown hlocks hml hP hK hN hD ls hl
  have hown : s.vm.findClass RX7 = some m.cls := hown
  have hl : lv_has ls 2 [(0, .ref mo)] := hl
  have hS : va_S (va_A (ModC mo sa pa ha ta cJ cI (sM n b fl me st lk cm v nu) pt hd tx ps ru ty rf lks lo1 hi1 sp cd pl gv) s.heap.size) s.heap s.heap [] := va_S.rf
  have hA := wk_hA (ModC mo sa pa ha ta cJ cI (sM n b fl me st lk cm v nu) pt hd tx ps ru ty rf lks lo1 hi1 sp cd pl gv) s.heap.size
  have hD9 : True := trivial
  have hinX7 : ∀ w ∈ wsX70, w ∈ wsX7_undo := by decide +kernel
  refine lv_aload_n hx hb dX7_undo_0 rfl (lv_at hl 0 rfl) ?_
  refine lv_aload_n hx hb dX7_undo_1 rfl (lv_at hl 0 rfl) ?_
  refine va_get (D := D) (ci := 5) (C := RX7) (T := TX7) (N := 15) hx hb hts hinX7 hown hK hP 0 rfl rfl 3 (by decide) (hts (.fieldLink RX7 33 "NearRanksModel" "pasts" "I") (by decide +kernel)) (fun _ h9 => h9) rfl dX7_undo_2 ?_
  refine wv_if_ne (tgt := 12) hx hb (by omega) dX7_undo_5 (by decide) (fun c5 => by exfalso; omega) (fun c5 => ?_)
  refine lv_iconst (v := nI 1) hx hb dX7_undo_8 (by decide) ?_
  refine lv_goto (tgt := 13) hx hb dX7_undo_9 (by decide) ?_
  refine wv_callMi (As := [.int (nI 1)]) (rest := []) (wr := []) (ws1 := ModC mo sa pa ha ta cJ cI (sM n b fl me st lk cm v nu) pt hd tx ps ru ty 1 lks lo1 hi1 sp cd pl gv) ⟨hx, hb, hml, hown, hts⟩ (kX7_throwsAt l D mo sa pa ha ta cJ cI n b fl me st lk cm v nu pt hd tx ps ru ty rf lks lo1 hi1 sp cd pl gv 1 (by first | assumption | omega)) (cwV 1 hts gX7_undo_X7_throwsAt rfl rfl rfl (by decide +kernel) ⟨Nat.le_of_ble_eq_true rfl, Nat.le_of_ble_eq_true rfl⟩) hK hN hP hD hS hA [0, 1, 2, 3, 4] [] [0, 1] [0, 1, 2, 3, 4] rfl rfl (by decide) rfl (by decide) (by decide) rfl (by decide) rfl 0 5 rfl rfl rfl rfl hl.1 rfl (Nat.le_of_ble_eq_true rfl) dX7_undo_13 ⟨Nat.zero_le _, Nat.zero_le _⟩ (fun H locs hz9 hP hD hS => ?_)
  refine wv_ti (y := bI true) (by decide) ?_
  refine wv_ifeqB (tgt := 21) hx hb dX7_undo_16 (by decide) (fun h => by cases h) (fun _ => ?_)
  refine lv_iconst (v := nI 0) hx hb dX7_undo_19 (by decide) ?_
  exact wv_iretM hx hb hr hlocks hP hD hS rfl rfl dX7_undo_20

set_option maxHeartbeats 4000000 in
set_option maxRecDepth 100000 in
theorem kX7_undo (l : Launch) (D : va_G) (mo : Nat) (sa : Nat) (pa : Nat) (ha : Nat) (ta : Nat) (cJ : ClassId) (cI : ClassId) (n : Nat) (b : Nat) (fl : Bool) (me : Bool) (st : Int64) (lk : Int64) (cm : Int64) (v : Nat → Int64) (nu : Nat → Int64) (pt : Nat → Int64) (hd : Nat → Int64) (tx : Nat → Int32) (ps : Nat) (ru : Bool) (ty : Nat) (rf : Nat) (lks : Nat) (lo1 : Int32) (hi1 : Int32) (sp : Nat) (cd : Int32) (pl : Int32) (gv : Int64) (hps : 0 < ps) (hps4 : ps ≤ 4) : MMi l yX7_undo wsX7_undo ({ frames := 1, cells := 0, slots := 0, locals := 21 } : Room) [.ref mo] D (ModC mo sa pa ha ta cJ cI (sM n b fl me st lk cm v nu) pt hd tx ps ru ty rf lks lo1 hi1 sp cd pl gv) [(cJ, .long), (cI, .int)] (nI (ps - 1)) (ModC mo sa pa ha ta cJ cI (unp pt (ps - 1) (sM n b fl me st lk cm v nu) 71) pt hd tx (ps - 1) ru ty 0 lks lo1 hi1 sp cd pl gv) := by
  refine MMi_of (cc := cX7_undo) (maxL := 2) (ret := some .int) (by decide +kernel) rfl (Nat.le_of_ble_eq_true rfl) ?_
  intro p e s m args below meth c hx hb hr hts hown hlocks hml hP hK hN hD ls hl
  have hown : s.vm.findClass RX7 = some m.cls := hown
  have hl : lv_has ls 2 [(0, .ref mo)] := hl
  have hS : va_S (va_A (ModC mo sa pa ha ta cJ cI (sM n b fl me st lk cm v nu) pt hd tx ps ru ty rf lks lo1 hi1 sp cd pl gv) s.heap.size) s.heap s.heap [] := va_S.rf
  have hA := wk_hA (ModC mo sa pa ha ta cJ cI (sM n b fl me st lk cm v nu) pt hd tx ps ru ty rf lks lo1 hi1 sp cd pl gv) s.heap.size
  have hD9 : True := trivial
  have hinX7 : ∀ w ∈ wsX70, w ∈ wsX7_undo := by decide +kernel
  refine lv_aload_n hx hb dX7_undo_0 rfl (lv_at hl 0 rfl) ?_
  refine lv_aload_n hx hb dX7_undo_1 rfl (lv_at hl 0 rfl) ?_
  refine va_get (D := D) (ci := 5) (C := RX7) (T := TX7) (N := 15) hx hb hts hinX7 hown hK hP 0 rfl rfl 3 (by decide) (hts (.fieldLink RX7 33 "NearRanksModel" "pasts" "I") (by decide +kernel)) (fun _ h9 => h9) rfl dX7_undo_2 ?_
  refine wv_if_ne (tgt := 12) hx hb (by omega) dX7_undo_5 (by decide) (fun c5 => ?_) (fun c5 => by exfalso; omega)
  refine lv_iconst (v := nI 0) hx hb dX7_undo_12 (by decide) ?_
  refine wv_callMi (As := [.int (nI 0)]) (rest := []) (wr := []) (ws1 := ModC mo sa pa ha ta cJ cI (sM n b fl me st lk cm v nu) pt hd tx ps ru ty 0 lks lo1 hi1 sp cd pl gv) ⟨hx, hb, hml, hown, hts⟩ (kX7_throwsAt l D mo sa pa ha ta cJ cI n b fl me st lk cm v nu pt hd tx ps ru ty rf lks lo1 hi1 sp cd pl gv 0 (by first | assumption | omega)) (cwV 1 hts gX7_undo_X7_throwsAt rfl rfl rfl (by decide +kernel) ⟨Nat.le_of_ble_eq_true rfl, Nat.le_of_ble_eq_true rfl⟩) hK hN hP hD hS hA [0, 1, 2, 3, 4] [] [0, 1] [0, 1, 2, 3, 4] rfl rfl (by decide) rfl (by decide) (by decide) rfl (by decide) rfl 0 5 rfl rfl rfl rfl hl.1 rfl (Nat.le_of_ble_eq_true rfl) dX7_undo_13 ⟨Nat.zero_le _, Nat.zero_le _⟩ (fun H locs hz9 hP hD hS => ?_)
  refine wv_ti (y := bI false) (by decide) ?_
  refine wv_ifeqB (tgt := 21) hx hb dX7_undo_16 (by decide) (fun _ => ?_) (fun h => by cases h)
  refine lv_aload_n hx hb dX7_undo_21 rfl (lv_at hl 0 rfl) ?_
  refine lv_dup hx hb dX7_undo_22 rfl ?_
  refine va_get (D := D) (ci := 5) (C := RX7) (T := TX7) (N := 15) hx hb hts hinX7 hown hK hP 0 rfl rfl 3 (by decide) (hts (.fieldLink RX7 33 "NearRanksModel" "pasts" "I") (by decide +kernel)) (fun _ h9 => h9) rfl dX7_undo_23 ?_
  refine lv_iconst (v := nI 1) hx hb dX7_undo_26 (by decide) ?_
  refine lv_isub hx hb dX7_undo_27 ?_
  refine wv_ti (pk_sub (by omega)) ?_
  refine va_put (D := D) (ci := 5) (v := .int (nI (ps - 1))) (ty := .int) (C := RX7) (T := TX7) (N := 15) hx hb hts hinX7 tyX7 tyX7_ok nmX7 hown hK hP hD hS 0 rfl rfl 3 (by decide) (hts (.fieldLink RX7 33 "NearRanksModel" "pasts" "I") (by decide +kernel)) (fun _ h9 => h9) rfl (by decide +kernel) rfl rfl (Nat.le_of_ble_eq_true rfl) dX7_undo_28 (fun H locs hP hD hS => ?_)
  have hP : va_P D vwCl (ModC mo sa pa ha ta cJ cI (sM n b fl me st lk cm v nu) pt hd tx (ps - 1) ru ty 0 lks lo1 hi1 sp cd pl gv) H := hP
  have hD : va_D _ (ModC mo sa pa ha ta cJ cI (sM n b fl me st lk cm v nu) pt hd tx (ps - 1) ru ty 0 lks lo1 hi1 sp cd pl gv) := hD
  refine lv_iconst (v := nI 0) hx hb dX7_undo_31 (by decide) ?_
  refine lv_istore_n (lv' := [(1, .int (nI 0)), (0, .ref mo)]) hx hb dX7_undo_32 rfl hl (by decide) rfl (fun ls hl => ?_)
  have el_w0_ss : unp pt (ps - 1) (sM n b fl me st lk cm v nu) 0 = sM n b fl me st lk cm v nu := by exact unp_0 _ _ _
  have loop33 : ∀ (K : Nat) (i : Nat), 71 - i < K → i ≤ 71 → ∀ (H : Heap) (locs : List Loc), va_P D vwCl (ModC mo sa pa ha ta cJ cI (unp pt (ps - 1) (sM n b fl me st lk cm v nu) i) pt hd tx (ps - 1) ru ty 0 lks lo1 hi1 sp cd pl gv) H → va_D (va_A (ModC mo sa pa ha ta cJ cI (sM n b fl me st lk cm v nu) pt hd tx ps ru ty rf lks lo1 hi1 sp cd pl gv) s.heap.size) (ModC mo sa pa ha ta cJ cI (unp pt (ps - 1) (sM n b fl me st lk cm v nu) i) pt hd tx (ps - 1) ru ty 0 lks lo1 hi1 sp cd pl gv) → va_S (va_A (ModC mo sa pa ha ta cJ cI (sM n b fl me st lk cm v nu) pt hd tx ps ru ty rf lks lo1 hi1 sp cd pl gv) s.heap.size) s.heap H locs → ∀ ls : Array Slot, lv_has ls 2 [(0, .ref mo), (1, .int (nI i))] → W p l e ({ frames := 1, cells := 0, slots := 0, locals := 21 } : Room) s m args below meth c H locs 0 0 (ZMi below args s D (ModC mo sa pa ha ta cJ cI (sM n b fl me st lk cm v nu) pt hd tx ps ru ty rf lks lo1 hi1 sp cd pl gv) (nI (ps - 1)) (ModC mo sa pa ha ta cJ cI (unp pt (ps - 1) (sM n b fl me st lk cm v nu) 71) pt hd tx (ps - 1) ru ty 0 lks lo1 hi1 sp cd pl gv)) (F0 m 33 ls []) := by
    intro K
    induction K with
    | zero => intro i hK0; exact absurd hK0 (Nat.not_lt_zero _)
    | succ K ih33 =>
      intro i hKm hi H locs hP hD hS ls hl
      refine lv_iload_n hx hb dX7_undo_33 rfl (lv_at hl 1 rfl) ?_
      refine lv_bipush (v := nI 71) hx hb dX7_undo_34 (by decide) ?_
      refine wv_icmp_ge (tgt := 65) hx hb (by omega) (by omega) dX7_undo_36 (by decide) (fun c36 => ?_) (fun c36 => ?_)
      · skip
        refine lv_aload_n hx hb dX7_undo_65 rfl (lv_at hl 0 rfl) ?_
        refine va_get (D := D) (ci := 5) (C := RX7) (T := TX7) (N := 15) hx hb hts hinX7 hown hK hP 0 rfl rfl 3 (by decide) (hts (.fieldLink RX7 33 "NearRanksModel" "pasts" "I") (by decide +kernel)) (fun _ h9 => h9) rfl dX7_undo_66 ?_
        have ew0_ss : unp pt (ps - 1) (sM n b fl me st lk cm v nu) 71 = unp pt (ps - 1) (sM n b fl me st lk cm v nu) i := by rw [show i = 71 by omega]
        exact wv_iretM hx hb hr hlocks hP hD hS rfl (by rw [ew0_ss]) dX7_undo_69
      · skip
        refine lv_aload_n hx hb dX7_undo_39 rfl (lv_at hl 0 rfl) ?_
        refine va_get (D := D) (ci := 5) (C := RX7) (T := TX7) (N := 15) hx hb hts hinX7 hown hK hP 0 rfl rfl 0 (by decide) (hts (.fieldLink RX7 7 "NearRanksModel" "s" "[J") (by decide +kernel)) (fun _ h9 => h9) rfl dX7_undo_40 ?_
        refine lv_iload_n hx hb dX7_undo_43 rfl (lv_at hl 1 rfl) ?_
        refine lv_aload_n hx hb dX7_undo_44 rfl (lv_at hl 0 rfl) ?_
        refine va_get (D := D) (ci := 5) (C := RX7) (T := TX7) (N := 15) hx hb hts hinX7 hown hK hP 0 rfl rfl 1 (by decide) (hts (.fieldLink RX7 13 "NearRanksModel" "past" "[J") (by decide +kernel)) (fun _ h9 => h9) rfl dX7_undo_45 ?_
        refine lv_bipush (v := nI 71) hx hb dX7_undo_48 (by decide) ?_
        refine lv_aload_n hx hb dX7_undo_50 rfl (lv_at hl 0 rfl) ?_
        refine va_get (D := D) (ci := 5) (C := RX7) (T := TX7) (N := 15) hx hb hts hinX7 hown hK hP 0 rfl rfl 3 (by decide) (hts (.fieldLink RX7 33 "NearRanksModel" "pasts" "I") (by decide +kernel)) (fun _ h9 => h9) rfl dX7_undo_51 ?_
        refine lv_imul hx hb dX7_undo_54 ?_
        refine wv_ti (pk_mul _ _) ?_
        refine lv_iload_n hx hb dX7_undo_55 rfl (lv_at hl 1 rfl) ?_
        refine lv_iadd hx hb dX7_undo_56 ?_
        refine wv_ti (nI_add _ _) ?_
        refine wv_lald hx hb hK hP 2 0 rfl rfl (k := (71 * (ps - 1)) + i) (by omega) (by decide) dX7_undo_57 ?_
        refine wv_last hx hb hK hP hD hS 1 0 rfl rfl (k := i) (by omega) (by decide) dX7_undo_58 (fun H locs hP hD hS => ?_)
        have hP : va_P D vwCl (ModC mo sa pa ha ta cJ cI (vp_updL (unp pt (ps - 1) (sM n b fl me st lk cm v nu) i) i (pt ((71 * (ps - 1)) + i))) pt hd tx (ps - 1) ru ty 0 lks lo1 hi1 sp cd pl gv) H := hP
        have hD : va_D _ (ModC mo sa pa ha ta cJ cI (vp_updL (unp pt (ps - 1) (sM n b fl me st lk cm v nu) i) i (pt ((71 * (ps - 1)) + i))) pt hd tx (ps - 1) ru ty 0 lks lo1 hi1 sp cd pl gv) := hD
        refine lv_iinc (v := nI (i + 1)) (lv' := [(1, .int (nI (i + 1))), (0, .ref mo)]) hx hb dX7_undo_59 hl (k := 1) rfl (nI_1 _) (by decide) rfl (fun ls hl => ?_)
        refine lv_goto (tgt := 33) hx hb dX7_undo_62 (by decide) ?_
        have el_w0_ss : unp pt (ps - 1) (sM n b fl me st lk cm v nu) (i + 1) = vp_updL (unp pt (ps - 1) (sM n b fl me st lk cm v nu) i) i (pt ((71 * (ps - 1)) + i)) := by exact unp_s _ _ _ _
        exact ih33 (i + 1) (by omega) (by first | assumption | omega) _ _ (by first | (rw [el_w0_ss]; exact hP) | (simp only [el_w0_ss]; exact hP) | exact hP) (by first | (rw [el_w0_ss]; exact hD) | (simp only [el_w0_ss]; exact hD) | exact hD) hS ls (by first | (rw [el_w0_ss]; exact lv_sub hl [1, 0] rfl) | (simp only [el_w0_ss]; exact lv_sub hl [1, 0] rfl) | exact lv_sub hl [1, 0] rfl)
  exact loop33 (71 - 0 + 1) 0 (by omega) (by first | assumption | omega) _ _ (by first | (rw [el_w0_ss]; exact hP) | (simp only [el_w0_ss]; exact hP) | exact hP) (by first | (rw [el_w0_ss]; exact hD) | (simp only [el_w0_ss]; exact hD) | exact hD) hS ls (by first | (rw [el_w0_ss]; exact lv_sub hl [1, 0] rfl) | (simp only [el_w0_ss]; exact lv_sub hl [1, 0] rfl) | exact lv_sub hl [1, 0] rfl)

set_option maxHeartbeats 4000000 in
set_option maxRecDepth 100000 in
theorem kX7_digest (l : Launch) (D : va_G) (mo : Nat) (sa : Nat) (pa : Nat) (ha : Nat) (ta : Nat) (cJ : ClassId) (cI : ClassId) (n : Nat) (b : Nat) (fl : Bool) (me : Bool) (st : Int64) (lk : Int64) (cm : Int64) (v : Nat → Int64) (nu : Nat → Int64) (pt : Nat → Int64) (hd : Nat → Int64) (tx : Nat → Int32) (ps : Nat) (ru : Bool) (ty : Nat) (rf : Nat) (lks : Nat) (lo1 : Int32) (hi1 : Int32) (sp : Nat) (cd : Int32) (pl : Int32) (gv : Int64) (hn : n ≤ 32) (hb : b ≤ 31) (hps : ps ≤ 4) : MMl l yX7_digest wsX7_digest ({ frames := 6, cells := 0, slots := 0, locals := 133 } : Room) [.ref mo] D (ModC mo sa pa ha ta cJ cI (sM n b fl me st lk cm v nu) pt hd tx ps ru ty rf lks lo1 hi1 sp cd pl gv) [(cJ, .long), (cI, .int)] ((lN 31) * ((lN 31) * ((lN 31) * (efd (hfd (lN 1358234 + lN ps) (fun w => (whV fl me v n b st.toInt32 lk.toInt32 cm.toInt32 ty w).toInt64) 12) (fun p h => hfd ((lN 31) * h + (v p)) (fun w => (elV fl v n b ((nu p).toInt32) p w).toInt64) 6) n) + (bst fl v n b n)) + (lN (mx (fun j => sr2 fl v n b (v j)) n))) + (lN (cnt (fun j => decide (sr1 fl v n b (v j) = none)) n))) (ModC mo sa pa ha ta cJ cI (sM n b fl me st lk cm v nu) pt hd tx ps ru ty 0 (lst (lst lks (fun j => sr2 fl v n b (v j)) n) (fun j => sr2 fl v n b (v j)) n) (lst (lst lo1 (fun j => sr3 fl v n b (v j)) n) (fun j => sr3 fl v n b (v j)) n) (lst (lst hi1 (fun j => sr4 fl v n b (v j)) n) (fun j => sr4 fl v n b (v j)) n) sp cd pl gv) := by
  refine MMl_of (cc := cX7_digest) (maxL := 5) (ret := some .long) (by decide +kernel) rfl (Nat.le_of_ble_eq_true rfl) ?_
  intro p e s m args below meth c hx hb hr hts hown hlocks hml hP hK hN hD ls hl
  have hown : s.vm.findClass RX7 = some m.cls := hown
  have hl : lv_has ls 5 [(0, .ref mo)] := hl
  have hS : va_S (va_A (ModC mo sa pa ha ta cJ cI (sM n b fl me st lk cm v nu) pt hd tx ps ru ty rf lks lo1 hi1 sp cd pl gv) s.heap.size) s.heap s.heap [] := va_S.rf
  have hA := wk_hA (ModC mo sa pa ha ta cJ cI (sM n b fl me st lk cm v nu) pt hd tx ps ru ty rf lks lo1 hi1 sp cd pl gv) s.heap.size
  have hD9 : True := trivial
  have hinX7 : ∀ w ∈ wsX70, w ∈ wsX7_digest := by decide +kernel
  refine lv_aload_n hx hb dX7_digest_0 rfl (lv_at hl 0 rfl) ?_
  refine lv_iconst (v := nI 0) hx hb dX7_digest_1 (by decide) ?_
  refine va_put (D := D) (ci := 5) (v := .int (nI 0)) (ty := .int) (C := RX7) (T := TX7) (N := 15) hx hb hts hinX7 tyX7 tyX7_ok nmX7 hown hK hP hD hS 0 rfl rfl 7 (by decide) (hts (.fieldLink RX7 25 "NearRanksModel" "refused" "I") (by decide +kernel)) (fun _ h9 => h9) rfl (by decide +kernel) rfl rfl (Nat.le_of_ble_eq_true rfl) dX7_digest_2 (fun H locs hP hD hS => ?_)
  have hP : va_P D vwCl (ModC mo sa pa ha ta cJ cI (sM n b fl me st lk cm v nu) pt hd tx ps ru ty 0 lks lo1 hi1 sp cd pl gv) H := hP
  have hD : va_D _ (ModC mo sa pa ha ta cJ cI (sM n b fl me st lk cm v nu) pt hd tx ps ru ty 0 lks lo1 hi1 sp cd pl gv) := hD
  refine lv_ldc2 (v := lN 1358234) hx hb hown (hts (.constantLong RX7 236 (1358234)) (by decide +kernel)) dX7_digest_5 ?_
  refine lv_aload_n hx hb dX7_digest_8 rfl (lv_at hl 0 rfl) ?_
  refine va_get (D := D) (ci := 5) (C := RX7) (T := TX7) (N := 15) hx hb hts hinX7 hown hK hP 0 rfl rfl 3 (by decide) (hts (.fieldLink RX7 33 "NearRanksModel" "pasts" "I") (by decide +kernel)) (fun _ h9 => h9) rfl dX7_digest_9 ?_
  refine lv_i2l (v := lN ps) hx hb dX7_digest_12 (nI_l (by omega)) ?_
  refine lv_ladd hx hb dX7_digest_13 ?_
  refine lv_lstore_n (lv' := [(1, .long ((lN 1358234) + (lN ps))), (0, .ref mo)]) hx hb dX7_digest_14 rfl hl (by decide) rfl (fun ls hl => ?_)
  refine lv_iconst (v := nI 0) hx hb dX7_digest_15 (by decide) ?_
  refine lv_istore_n (lv' := [(3, .int (nI 0)), (1, .long ((lN 1358234) + (lN ps))), (0, .ref mo)]) hx hb dX7_digest_16 rfl hl (by decide) rfl (fun ls hl => ?_)
  have el_l1 : hfd (lN 1358234 + lN ps) (fun w => (whV fl me v n b st.toInt32 lk.toInt32 cm.toInt32 ty w).toInt64) 0 = (lN 1358234) + (lN ps) := by rfl
  have loop17 : ∀ (K : Nat) (i : Nat), 12 - i < K → i ≤ 12 → ∀ (H : Heap) (locs : List Loc), va_P D vwCl (ModC mo sa pa ha ta cJ cI (sM n b fl me st lk cm v nu) pt hd tx ps ru ty 0 lks lo1 hi1 sp cd pl gv) H → va_D (va_A (ModC mo sa pa ha ta cJ cI (sM n b fl me st lk cm v nu) pt hd tx ps ru ty rf lks lo1 hi1 sp cd pl gv) s.heap.size) (ModC mo sa pa ha ta cJ cI (sM n b fl me st lk cm v nu) pt hd tx ps ru ty 0 lks lo1 hi1 sp cd pl gv) → va_S (va_A (ModC mo sa pa ha ta cJ cI (sM n b fl me st lk cm v nu) pt hd tx ps ru ty rf lks lo1 hi1 sp cd pl gv) s.heap.size) s.heap H locs → ∀ ls : Array Slot, lv_has ls 5 [(0, .ref mo), (1, .long (hfd (lN 1358234 + lN ps) (fun w => (whV fl me v n b st.toInt32 lk.toInt32 cm.toInt32 ty w).toInt64) i)), (3, .int (nI i))] → W p l e ({ frames := 6, cells := 0, slots := 0, locals := 133 } : Room) s m args below meth c H locs 0 0 (ZMl below args s D (ModC mo sa pa ha ta cJ cI (sM n b fl me st lk cm v nu) pt hd tx ps ru ty rf lks lo1 hi1 sp cd pl gv) ((lN 31) * ((lN 31) * ((lN 31) * (efd (hfd (lN 1358234 + lN ps) (fun w => (whV fl me v n b st.toInt32 lk.toInt32 cm.toInt32 ty w).toInt64) 12) (fun p h => hfd ((lN 31) * h + (v p)) (fun w => (elV fl v n b ((nu p).toInt32) p w).toInt64) 6) n) + (bst fl v n b n)) + (lN (mx (fun j => sr2 fl v n b (v j)) n))) + (lN (cnt (fun j => decide (sr1 fl v n b (v j) = none)) n))) (ModC mo sa pa ha ta cJ cI (sM n b fl me st lk cm v nu) pt hd tx ps ru ty 0 (lst (lst lks (fun j => sr2 fl v n b (v j)) n) (fun j => sr2 fl v n b (v j)) n) (lst (lst lo1 (fun j => sr3 fl v n b (v j)) n) (fun j => sr3 fl v n b (v j)) n) (lst (lst hi1 (fun j => sr4 fl v n b (v j)) n) (fun j => sr4 fl v n b (v j)) n) sp cd pl gv)) (F0 m 17 ls []) := by
    intro K
    induction K with
    | zero => intro i hK0; exact absurd hK0 (Nat.not_lt_zero _)
    | succ K ih17 =>
      intro i hKm hi H locs hP hD hS ls hl
      refine lv_iload_n hx hb dX7_digest_17 rfl (lv_at hl 2 rfl) ?_
      refine lv_bipush (v := nI 12) hx hb dX7_digest_18 (by decide) ?_
      refine wv_icmp_ge (tgt := 42) hx hb (by omega) (by omega) dX7_digest_20 (by decide) (fun c20 => ?_) (fun c20 => ?_)
      · skip
        refine lv_iconst (v := nI 0) hx hb dX7_digest_42 (by decide) ?_
        refine lv_istore_n (lv' := [(3, .int (nI 0)), (0, .ref mo), (1, .long (hfd (lN 1358234 + lN ps) (fun w => (whV fl me v n b st.toInt32 lk.toInt32 cm.toInt32 ty w).toInt64) i))]) hx hb dX7_digest_43 rfl hl (by decide) rfl (fun ls hl => ?_)
        have el_l1 : efd (hfd (lN 1358234 + lN ps) (fun w => (whV fl me v n b st.toInt32 lk.toInt32 cm.toInt32 ty w).toInt64) 12) (fun p h => hfd ((lN 31) * h + (v p)) (fun w => (elV fl v n b ((nu p).toInt32) p w).toInt64) 6) 0 = hfd (lN 1358234 + lN ps) (fun w => (whV fl me v n b st.toInt32 lk.toInt32 cm.toInt32 ty w).toInt64) i := by rw [show i = 12 by omega]; rfl
        have loop44 : ∀ (K : Nat) (p1 : Nat), n - p1 < K → p1 ≤ n → ∀ (H : Heap) (locs : List Loc), va_P D vwCl (ModC mo sa pa ha ta cJ cI (sM n b fl me st lk cm v nu) pt hd tx ps ru ty 0 lks lo1 hi1 sp cd pl gv) H → va_D (va_A (ModC mo sa pa ha ta cJ cI (sM n b fl me st lk cm v nu) pt hd tx ps ru ty rf lks lo1 hi1 sp cd pl gv) s.heap.size) (ModC mo sa pa ha ta cJ cI (sM n b fl me st lk cm v nu) pt hd tx ps ru ty 0 lks lo1 hi1 sp cd pl gv) → va_S (va_A (ModC mo sa pa ha ta cJ cI (sM n b fl me st lk cm v nu) pt hd tx ps ru ty rf lks lo1 hi1 sp cd pl gv) s.heap.size) s.heap H locs → ∀ ls : Array Slot, lv_has ls 5 [(0, .ref mo), (1, .long (efd (hfd (lN 1358234 + lN ps) (fun w => (whV fl me v n b st.toInt32 lk.toInt32 cm.toInt32 ty w).toInt64) 12) (fun p h => hfd ((lN 31) * h + (v p)) (fun w => (elV fl v n b ((nu p).toInt32) p w).toInt64) 6) p1)), (3, .int (nI p1))] → W p l e ({ frames := 6, cells := 0, slots := 0, locals := 133 } : Room) s m args below meth c H locs 0 0 (ZMl below args s D (ModC mo sa pa ha ta cJ cI (sM n b fl me st lk cm v nu) pt hd tx ps ru ty rf lks lo1 hi1 sp cd pl gv) ((lN 31) * ((lN 31) * ((lN 31) * (efd (hfd (lN 1358234 + lN ps) (fun w => (whV fl me v n b st.toInt32 lk.toInt32 cm.toInt32 ty w).toInt64) 12) (fun p h => hfd ((lN 31) * h + (v p)) (fun w => (elV fl v n b ((nu p).toInt32) p w).toInt64) 6) n) + (bst fl v n b n)) + (lN (mx (fun j => sr2 fl v n b (v j)) n))) + (lN (cnt (fun j => decide (sr1 fl v n b (v j) = none)) n))) (ModC mo sa pa ha ta cJ cI (sM n b fl me st lk cm v nu) pt hd tx ps ru ty 0 (lst (lst lks (fun j => sr2 fl v n b (v j)) n) (fun j => sr2 fl v n b (v j)) n) (lst (lst lo1 (fun j => sr3 fl v n b (v j)) n) (fun j => sr3 fl v n b (v j)) n) (lst (lst hi1 (fun j => sr4 fl v n b (v j)) n) (fun j => sr4 fl v n b (v j)) n) sp cd pl gv)) (F0 m 44 ls []) := by
          intro K
          induction K with
          | zero => intro p1 hK0; exact absurd hK0 (Nat.not_lt_zero _)
          | succ K ih44 =>
            intro p1 hKm hp1 H locs hP hD hS ls hl
            refine lv_iload_n hx hb dX7_digest_44 rfl (lv_at hl 2 rfl) ?_
            refine lv_aload_n hx hb dX7_digest_45 rfl (lv_at hl 0 rfl) ?_
            refine lv_iconst (v := nI 0) hx hb dX7_digest_46 (by decide) ?_
            refine wv_callPi (As := [.int (nI 0)]) (rest := [.int (nI p1)]) ⟨hx, hb, hml, hown, hts⟩ (kX7_of l D mo sa pa ha ta cJ cI n b fl me st lk cm v nu pt hd tx ps ru ty 0 lks lo1 hi1 sp cd pl gv 0 (by first | assumption | omega)) (cwV 1 hts gX7_digest_X7_of rfl rfl rfl (by decide +kernel) ⟨Nat.le_of_ble_eq_true rfl, Nat.le_of_ble_eq_true rfl⟩) hK hN hP hS hA [0, 1, 2, 3, 4] [0, 1] rfl rfl 0 5 rfl rfl rfl rfl hl.1 rfl (Nat.le_of_ble_eq_true rfl) dX7_digest_47 ⟨Nat.zero_le _, Nat.zero_le _⟩ (fun H locs hz9 hP hS => ?_)
            refine wv_ti (y := nI n) of_0 ?_
            refine wv_icmp_ge (tgt := 106) hx hb (by omega) (by omega) dX7_digest_50 (by decide) (fun c50 => ?_) (fun c50 => ?_)
            · skip
              have ep : p1 = n := by omega
              have hm9 : mx (fun j => sr2 fl v n b (v j)) n ≤ 64 := mx_le (fun k _ => sr2_le fl v b (v k) hn)
              have hc9 := cnt_le (fun j => decide (sr1 fl v n b (v j) = none)) n
              refine lv_ldc2 (v := lN 31) hx hb hown (hts (.constantLong RX7 99 (31)) (by decide +kernel)) dX7_digest_106 ?_
              refine lv_lload_n hx hb dX7_digest_109 rfl (lv_at hl 1 rfl) ?_
              refine lv_lmul hx hb dX7_digest_110 ?_
              refine lv_aload_n hx hb dX7_digest_111 rfl (lv_at hl 0 rfl) ?_
              refine wv_callPl (As := []) (rest := [.long ((lN 31) * (efd (hfd (lN 1358234 + lN ps) (fun w => (whV fl me v n b st.toInt32 lk.toInt32 cm.toInt32 ty w).toInt64) 12) (fun p h => hfd ((lN 31) * h + (v p)) (fun w => (elV fl v n b ((nu p).toInt32) p w).toInt64) 6) p1))]) ⟨hx, hb, hml, hown, hts⟩ (kX7_brokenSet l D mo sa pa ha ta cJ cI n b fl me st lk cm v nu pt hd tx ps ru ty 0 lks lo1 hi1 sp cd pl gv (by first | assumption | omega) (by first | assumption | omega)) (cwV 0 hts gX7_digest_X7_brokenSet rfl rfl rfl (by decide +kernel) ⟨Nat.le_of_ble_eq_true rfl, Nat.le_of_ble_eq_true rfl⟩) hK hN hP hS hA [0, 1, 2, 3, 4] [0, 1] rfl rfl 0 5 rfl rfl rfl rfl hl.1 rfl (Nat.le_of_ble_eq_true rfl) dX7_digest_112 ⟨Nat.zero_le _, Nat.zero_le _⟩ (fun H locs hz9 hP hS => ?_)
              refine lv_ladd hx hb dX7_digest_115 ?_
              refine lv_lstore_n (lv' := [(1, .long (((lN 31) * (efd (hfd (lN 1358234 + lN ps) (fun w => (whV fl me v n b st.toInt32 lk.toInt32 cm.toInt32 ty w).toInt64) 12) (fun p h => hfd ((lN 31) * h + (v p)) (fun w => (elV fl v n b ((nu p).toInt32) p w).toInt64) 6) p1)) + (bst fl v n b n))), (0, .ref mo), (3, .int (nI p1))]) hx hb dX7_digest_116 rfl hl (by decide) rfl (fun ls hl => ?_)
              refine lv_ldc2 (v := lN 31) hx hb hown (hts (.constantLong RX7 99 (31)) (by decide +kernel)) dX7_digest_117 ?_
              refine lv_lload_n hx hb dX7_digest_120 rfl (lv_at hl 0 rfl) ?_
              refine lv_lmul hx hb dX7_digest_121 ?_
              refine lv_aload_n hx hb dX7_digest_122 rfl (lv_at hl 1 rfl) ?_
              refine wv_callMi (As := []) (rest := [.long ((lN 31) * (((lN 31) * (efd (hfd (lN 1358234 + lN ps) (fun w => (whV fl me v n b st.toInt32 lk.toInt32 cm.toInt32 ty w).toInt64) 12) (fun p h => hfd ((lN 31) * h + (v p)) (fun w => (elV fl v n b ((nu p).toInt32) p w).toInt64) 6) p1)) + (bst fl v n b n)))]) (wr := []) (ws1 := ModC mo sa pa ha ta cJ cI (sM n b fl me st lk cm v nu) pt hd tx ps ru ty 0 (lst lks (fun j => sr2 fl v n b (v j)) n) (lst lo1 (fun j => sr3 fl v n b (v j)) n) (lst hi1 (fun j => sr4 fl v n b (v j)) n) sp cd pl gv) ⟨hx, hb, hml, hown, hts⟩ (kX7_worst l D mo sa pa ha ta cJ cI n b fl me st lk cm v nu pt hd tx ps ru ty 0 lks lo1 hi1 sp cd pl gv (by first | assumption | omega) (by first | assumption | omega)) (cwV 0 hts gX7_digest_X7_worst rfl rfl rfl (by decide +kernel) ⟨Nat.le_of_ble_eq_true rfl, Nat.le_of_ble_eq_true rfl⟩) hK hN hP hD hS hA [0, 1, 2, 3, 4] [] [0, 1] [0, 1, 2, 3, 4] rfl rfl (by decide) rfl (by decide) (by decide) rfl (by decide) rfl 0 5 rfl rfl rfl rfl hl.1 rfl (Nat.le_of_ble_eq_true rfl) dX7_digest_123 ⟨Nat.zero_le _, Nat.zero_le _⟩ (fun H locs hz9 hP hD hS => ?_)
              refine lv_i2l (v := lN (mx (fun j => sr2 fl v n b (v j)) n)) hx hb dX7_digest_126 (nI_l (by omega)) ?_
              refine lv_ladd hx hb dX7_digest_127 ?_
              refine lv_lstore_n (lv' := [(1, .long (((lN 31) * (((lN 31) * (efd (hfd (lN 1358234 + lN ps) (fun w => (whV fl me v n b st.toInt32 lk.toInt32 cm.toInt32 ty w).toInt64) 12) (fun p h => hfd ((lN 31) * h + (v p)) (fun w => (elV fl v n b ((nu p).toInt32) p w).toInt64) 6) p1)) + (bst fl v n b n))) + (lN (mx (fun j => sr2 fl v n b (v j)) n)))), (0, .ref mo), (3, .int (nI p1))]) hx hb dX7_digest_128 rfl hl (by decide) rfl (fun ls hl => ?_)
              refine lv_ldc2 (v := lN 31) hx hb hown (hts (.constantLong RX7 99 (31)) (by decide +kernel)) dX7_digest_129 ?_
              refine lv_lload_n hx hb dX7_digest_132 rfl (lv_at hl 0 rfl) ?_
              refine lv_lmul hx hb dX7_digest_133 ?_
              refine lv_aload_n hx hb dX7_digest_134 rfl (lv_at hl 1 rfl) ?_
              refine wv_callMi (As := []) (rest := [.long ((lN 31) * (((lN 31) * (((lN 31) * (efd (hfd (lN 1358234 + lN ps) (fun w => (whV fl me v n b st.toInt32 lk.toInt32 cm.toInt32 ty w).toInt64) 12) (fun p h => hfd ((lN 31) * h + (v p)) (fun w => (elV fl v n b ((nu p).toInt32) p w).toInt64) 6) p1)) + (bst fl v n b n))) + (lN (mx (fun j => sr2 fl v n b (v j)) n))))]) (wr := []) (ws1 := ModC mo sa pa ha ta cJ cI (sM n b fl me st lk cm v nu) pt hd tx ps ru ty 0 (lst (lst lks (fun j => sr2 fl v n b (v j)) n) (fun j => sr2 fl v n b (v j)) n) (lst (lst lo1 (fun j => sr3 fl v n b (v j)) n) (fun j => sr3 fl v n b (v j)) n) (lst (lst hi1 (fun j => sr4 fl v n b (v j)) n) (fun j => sr4 fl v n b (v j)) n) sp cd pl gv) ⟨hx, hb, hml, hown, hts⟩ (kX7_lost l D mo sa pa ha ta cJ cI n b fl me st lk cm v nu pt hd tx ps ru ty 0 (lst lks (fun j => sr2 fl v n b (v j)) n) (lst lo1 (fun j => sr3 fl v n b (v j)) n) (lst hi1 (fun j => sr4 fl v n b (v j)) n) sp cd pl gv (by first | assumption | omega) (by first | assumption | omega)) (cwV 0 hts gX7_digest_X7_lost rfl rfl rfl (by decide +kernel) ⟨Nat.le_of_ble_eq_true rfl, Nat.le_of_ble_eq_true rfl⟩) hK hN hP hD hS hA [0, 1, 2, 3, 4] [] [0, 1] [0, 1, 2, 3, 4] rfl rfl (by decide) rfl (by decide) (by decide) rfl (by decide) rfl 0 5 rfl rfl rfl rfl hl.1 rfl (Nat.le_of_ble_eq_true rfl) dX7_digest_135 ⟨Nat.zero_le _, Nat.zero_le _⟩ (fun H locs hz9 hP hD hS => ?_)
              refine lv_i2l (v := lN (cnt (fun j => decide (sr1 fl v n b (v j) = none)) n)) hx hb dX7_digest_138 (nI_l (by omega)) ?_
              refine lv_ladd hx hb dX7_digest_139 ?_
              exact wv_lretM hx hb hr hlocks hP hD hS (by rw [ep]) rfl dX7_digest_140
            · skip
              refine lv_ldc2 (v := lN 31) hx hb hown (hts (.constantLong RX7 99 (31)) (by decide +kernel)) dX7_digest_53 ?_
              refine lv_lload_n hx hb dX7_digest_56 rfl (lv_at hl 1 rfl) ?_
              refine lv_lmul hx hb dX7_digest_57 ?_
              refine lv_aload_n hx hb dX7_digest_58 rfl (lv_at hl 0 rfl) ?_
              refine va_get (D := D) (ci := 5) (C := RX7) (T := TX7) (N := 15) hx hb hts hinX7 hown hK hP 0 rfl rfl 0 (by decide) (hts (.fieldLink RX7 7 "NearRanksModel" "s" "[J") (by decide +kernel)) (fun _ h9 => h9) rfl dX7_digest_59 ?_
              refine lv_bipush (v := nI 7) hx hb dX7_digest_62 (by decide) ?_
              refine lv_iload_n hx hb dX7_digest_64 rfl (lv_at hl 2 rfl) ?_
              refine lv_iadd hx hb dX7_digest_65 ?_
              refine wv_ti (nI_add _ _) ?_
              refine wv_lald hx hb hK hP 1 0 rfl rfl (k := 7 + p1) (by omega) (by decide) dX7_digest_66 ?_
              refine wv_tl (y := v p1) (sM_v (by omega) (by omega)) ?_
              refine lv_ladd hx hb dX7_digest_67 ?_
              refine lv_lstore_n (lv' := [(1, .long (((lN 31) * (efd (hfd (lN 1358234 + lN ps) (fun w => (whV fl me v n b st.toInt32 lk.toInt32 cm.toInt32 ty w).toInt64) 12) (fun p h => hfd ((lN 31) * h + (v p)) (fun w => (elV fl v n b ((nu p).toInt32) p w).toInt64) 6) p1)) + (v p1))), (0, .ref mo), (3, .int (nI p1))]) hx hb dX7_digest_68 rfl hl (by decide) rfl (fun ls hl => ?_)
              refine lv_iconst (v := nI 0) hx hb dX7_digest_69 (by decide) ?_
              refine lv_istore (lv' := [(4, .int (nI 0)), (1, .long (((lN 31) * (efd (hfd (lN 1358234 + lN ps) (fun w => (whV fl me v n b st.toInt32 lk.toInt32 cm.toInt32 ty w).toInt64) 12) (fun p h => hfd ((lN 31) * h + (v p)) (fun w => (elV fl v n b ((nu p).toInt32) p w).toInt64) 6) p1)) + (v p1))), (0, .ref mo), (3, .int (nI p1))]) hx hb dX7_digest_70 hl (by decide) rfl (fun ls hl => ?_)
              have el_l1 : hfd ((lN 31) * (efd (hfd (lN 1358234 + lN ps) (fun w => (whV fl me v n b st.toInt32 lk.toInt32 cm.toInt32 ty w).toInt64) 12) (fun p h => hfd ((lN 31) * h + (v p)) (fun w => (elV fl v n b ((nu p).toInt32) p w).toInt64) 6) p1) + (v p1)) (fun w => (elV fl v n b ((nu p1).toInt32) p1 w).toInt64) 0 = ((lN 31) * (efd (hfd (lN 1358234 + lN ps) (fun w => (whV fl me v n b st.toInt32 lk.toInt32 cm.toInt32 ty w).toInt64) 12) (fun p h => hfd ((lN 31) * h + (v p)) (fun w => (elV fl v n b ((nu p).toInt32) p w).toInt64) 6) p1)) + (v p1) := by rfl
              have loop72 : ∀ (K : Nat) (w1 : Nat), 6 - w1 < K → w1 ≤ 6 → ∀ (H : Heap) (locs : List Loc), va_P D vwCl (ModC mo sa pa ha ta cJ cI (sM n b fl me st lk cm v nu) pt hd tx ps ru ty 0 lks lo1 hi1 sp cd pl gv) H → va_D (va_A (ModC mo sa pa ha ta cJ cI (sM n b fl me st lk cm v nu) pt hd tx ps ru ty rf lks lo1 hi1 sp cd pl gv) s.heap.size) (ModC mo sa pa ha ta cJ cI (sM n b fl me st lk cm v nu) pt hd tx ps ru ty 0 lks lo1 hi1 sp cd pl gv) → va_S (va_A (ModC mo sa pa ha ta cJ cI (sM n b fl me st lk cm v nu) pt hd tx ps ru ty rf lks lo1 hi1 sp cd pl gv) s.heap.size) s.heap H locs → ∀ ls : Array Slot, lv_has ls 5 [(0, .ref mo), (1, .long (hfd ((lN 31) * (efd (hfd (lN 1358234 + lN ps) (fun w => (whV fl me v n b st.toInt32 lk.toInt32 cm.toInt32 ty w).toInt64) 12) (fun p h => hfd ((lN 31) * h + (v p)) (fun w => (elV fl v n b ((nu p).toInt32) p w).toInt64) 6) p1) + (v p1)) (fun w => (elV fl v n b ((nu p1).toInt32) p1 w).toInt64) w1)), (3, .int (nI p1)), (4, .int (nI w1))] → W p l e ({ frames := 6, cells := 0, slots := 0, locals := 133 } : Room) s m args below meth c H locs 0 0 (ZMl below args s D (ModC mo sa pa ha ta cJ cI (sM n b fl me st lk cm v nu) pt hd tx ps ru ty rf lks lo1 hi1 sp cd pl gv) ((lN 31) * ((lN 31) * ((lN 31) * (efd (hfd (lN 1358234 + lN ps) (fun w => (whV fl me v n b st.toInt32 lk.toInt32 cm.toInt32 ty w).toInt64) 12) (fun p h => hfd ((lN 31) * h + (v p)) (fun w => (elV fl v n b ((nu p).toInt32) p w).toInt64) 6) n) + (bst fl v n b n)) + (lN (mx (fun j => sr2 fl v n b (v j)) n))) + (lN (cnt (fun j => decide (sr1 fl v n b (v j) = none)) n))) (ModC mo sa pa ha ta cJ cI (sM n b fl me st lk cm v nu) pt hd tx ps ru ty 0 (lst (lst lks (fun j => sr2 fl v n b (v j)) n) (fun j => sr2 fl v n b (v j)) n) (lst (lst lo1 (fun j => sr3 fl v n b (v j)) n) (fun j => sr3 fl v n b (v j)) n) (lst (lst hi1 (fun j => sr4 fl v n b (v j)) n) (fun j => sr4 fl v n b (v j)) n) sp cd pl gv)) (F0 m 72 ls []) := by
                intro K
                induction K with
                | zero => intro w1 hK0; exact absurd hK0 (Nat.not_lt_zero _)
                | succ K ih72 =>
                  intro w1 hKm hw1 H locs hP hD hS ls hl
                  refine lv_iload hx hb dX7_digest_72 (lv_at hl 3 rfl) ?_
                  refine lv_bipush (v := nI 6) hx hb dX7_digest_74 (by decide) ?_
                  refine wv_icmp_ge (tgt := 100) hx hb (by omega) (by omega) dX7_digest_76 (by decide) (fun c76 => ?_) (fun c76 => ?_)
                  · skip
                    refine lv_iinc (v := nI (p1 + 1)) (lv' := [(3, .int (nI (p1 + 1))), (0, .ref mo), (1, .long (hfd ((lN 31) * (efd (hfd (lN 1358234 + lN ps) (fun w => (whV fl me v n b st.toInt32 lk.toInt32 cm.toInt32 ty w).toInt64) 12) (fun p h => hfd ((lN 31) * h + (v p)) (fun w => (elV fl v n b ((nu p).toInt32) p w).toInt64) 6) p1) + (v p1)) (fun w => (elV fl v n b ((nu p1).toInt32) p1 w).toInt64) w1)), (4, .int (nI w1))]) hx hb dX7_digest_100 hl (k := 2) rfl (nI_1 _) (by decide) rfl (fun ls hl => ?_)
                    refine lv_goto (tgt := 44) hx hb dX7_digest_103 (by decide) ?_
                    have el_l1 : efd (hfd (lN 1358234 + lN ps) (fun w => (whV fl me v n b st.toInt32 lk.toInt32 cm.toInt32 ty w).toInt64) 12) (fun p h => hfd ((lN 31) * h + (v p)) (fun w => (elV fl v n b ((nu p).toInt32) p w).toInt64) 6) (p1 + 1) = hfd ((lN 31) * (efd (hfd (lN 1358234 + lN ps) (fun w => (whV fl me v n b st.toInt32 lk.toInt32 cm.toInt32 ty w).toInt64) 12) (fun p h => hfd ((lN 31) * h + (v p)) (fun w => (elV fl v n b ((nu p).toInt32) p w).toInt64) 6) p1) + (v p1)) (fun w => (elV fl v n b ((nu p1).toInt32) p1 w).toInt64) w1 := by rw [show w1 = 6 by omega]; rfl
                    exact ih44 (p1 + 1) (by omega) (by first | assumption | omega) _ _ (by first | (rw [el_l1]; exact hP) | (simp only [el_l1]; exact hP) | exact hP) (by first | (rw [el_l1]; exact hD) | (simp only [el_l1]; exact hD) | exact hD) hS ls (by first | (rw [el_l1]; exact lv_sub hl [1, 2, 0] rfl) | (simp only [el_l1]; exact lv_sub hl [1, 2, 0] rfl) | exact lv_sub hl [1, 2, 0] rfl)
                  · skip
                    refine lv_ldc2 (v := lN 31) hx hb hown (hts (.constantLong RX7 99 (31)) (by decide +kernel)) dX7_digest_79 ?_
                    refine lv_lload_n hx hb dX7_digest_82 rfl (lv_at hl 1 rfl) ?_
                    refine lv_lmul hx hb dX7_digest_83 ?_
                    refine lv_aload_n hx hb dX7_digest_84 rfl (lv_at hl 0 rfl) ?_
                    refine lv_iload_n hx hb dX7_digest_85 rfl (lv_at hl 2 rfl) ?_
                    refine lv_iload hx hb dX7_digest_86 (lv_at hl 3 rfl) ?_
                    refine wv_callPi (As := [.int (nI p1), .int (nI w1)]) (rest := [.long ((lN 31) * (hfd ((lN 31) * (efd (hfd (lN 1358234 + lN ps) (fun w => (whV fl me v n b st.toInt32 lk.toInt32 cm.toInt32 ty w).toInt64) 12) (fun p h => hfd ((lN 31) * h + (v p)) (fun w => (elV fl v n b ((nu p).toInt32) p w).toInt64) 6) p1) + (v p1)) (fun w => (elV fl v n b ((nu p1).toInt32) p1 w).toInt64) w1))]) ⟨hx, hb, hml, hown, hts⟩ (kX7_elementOf l D mo sa pa ha ta cJ cI n b fl me st lk cm v nu pt hd tx ps ru ty 0 lks lo1 hi1 sp cd pl gv p1 w1 (by first | assumption | omega) (by first | assumption | omega) (by first | assumption | omega) (by first | assumption | omega)) (cwV 2 hts gX7_digest_X7_elementOf rfl rfl rfl (by decide +kernel) ⟨Nat.le_of_ble_eq_true rfl, Nat.le_of_ble_eq_true rfl⟩) hK hN hP hS hA [0, 1, 2, 3, 4] [0, 1] rfl rfl 0 5 rfl rfl rfl rfl hl.1 rfl (Nat.le_of_ble_eq_true rfl) dX7_digest_88 ⟨Nat.zero_le _, Nat.zero_le _⟩ (fun H locs hz9 hP hS => ?_)
                    refine lv_i2l (v := (elV fl v n b ((nu p1).toInt32) p1 w1).toInt64) hx hb dX7_digest_91 rfl ?_
                    refine lv_ladd hx hb dX7_digest_92 ?_
                    refine lv_lstore_n (lv' := [(1, .long (((lN 31) * (hfd ((lN 31) * (efd (hfd (lN 1358234 + lN ps) (fun w => (whV fl me v n b st.toInt32 lk.toInt32 cm.toInt32 ty w).toInt64) 12) (fun p h => hfd ((lN 31) * h + (v p)) (fun w => (elV fl v n b ((nu p).toInt32) p w).toInt64) 6) p1) + (v p1)) (fun w => (elV fl v n b ((nu p1).toInt32) p1 w).toInt64) w1)) + ((elV fl v n b ((nu p1).toInt32) p1 w1).toInt64))), (0, .ref mo), (3, .int (nI p1)), (4, .int (nI w1))]) hx hb dX7_digest_93 rfl hl (by decide) rfl (fun ls hl => ?_)
                    refine lv_iinc (v := nI (w1 + 1)) (lv' := [(4, .int (nI (w1 + 1))), (1, .long (((lN 31) * (hfd ((lN 31) * (efd (hfd (lN 1358234 + lN ps) (fun w => (whV fl me v n b st.toInt32 lk.toInt32 cm.toInt32 ty w).toInt64) 12) (fun p h => hfd ((lN 31) * h + (v p)) (fun w => (elV fl v n b ((nu p).toInt32) p w).toInt64) 6) p1) + (v p1)) (fun w => (elV fl v n b ((nu p1).toInt32) p1 w).toInt64) w1)) + ((elV fl v n b ((nu p1).toInt32) p1 w1).toInt64))), (0, .ref mo), (3, .int (nI p1))]) hx hb dX7_digest_94 hl (k := 3) rfl (nI_1 _) (by decide) rfl (fun ls hl => ?_)
                    refine lv_goto (tgt := 72) hx hb dX7_digest_97 (by decide) ?_
                    have el_l1 : hfd ((lN 31) * (efd (hfd (lN 1358234 + lN ps) (fun w => (whV fl me v n b st.toInt32 lk.toInt32 cm.toInt32 ty w).toInt64) 12) (fun p h => hfd ((lN 31) * h + (v p)) (fun w => (elV fl v n b ((nu p).toInt32) p w).toInt64) 6) p1) + (v p1)) (fun w => (elV fl v n b ((nu p1).toInt32) p1 w).toInt64) (w1 + 1) = ((lN 31) * (hfd ((lN 31) * (efd (hfd (lN 1358234 + lN ps) (fun w => (whV fl me v n b st.toInt32 lk.toInt32 cm.toInt32 ty w).toInt64) 12) (fun p h => hfd ((lN 31) * h + (v p)) (fun w => (elV fl v n b ((nu p).toInt32) p w).toInt64) 6) p1) + (v p1)) (fun w => (elV fl v n b ((nu p1).toInt32) p1 w).toInt64) w1)) + ((elV fl v n b ((nu p1).toInt32) p1 w1).toInt64) := by rfl
                    exact ih72 (w1 + 1) (by omega) (by first | assumption | omega) _ _ (by first | (rw [el_l1]; exact hP) | (simp only [el_l1]; exact hP) | exact hP) (by first | (rw [el_l1]; exact hD) | (simp only [el_l1]; exact hD) | exact hD) hS ls (by first | (rw [el_l1]; exact lv_sub hl [2, 1, 3, 0] rfl) | (simp only [el_l1]; exact lv_sub hl [2, 1, 3, 0] rfl) | exact lv_sub hl [2, 1, 3, 0] rfl)
              exact loop72 (6 - 0 + 1) 0 (by omega) (by first | assumption | omega) _ _ (by first | (rw [el_l1]; exact hP) | (simp only [el_l1]; exact hP) | exact hP) (by first | (rw [el_l1]; exact hD) | (simp only [el_l1]; exact hD) | exact hD) hS ls (by first | (rw [el_l1]; exact lv_sub hl [2, 1, 3, 0] rfl) | (simp only [el_l1]; exact lv_sub hl [2, 1, 3, 0] rfl) | exact lv_sub hl [2, 1, 3, 0] rfl)
        exact loop44 (n - 0 + 1) 0 (by omega) (by first | assumption | omega) _ _ (by first | (rw [el_l1]; exact hP) | (simp only [el_l1]; exact hP) | exact hP) (by first | (rw [el_l1]; exact hD) | (simp only [el_l1]; exact hD) | exact hD) hS ls (by first | (rw [el_l1]; exact lv_sub hl [1, 2, 0] rfl) | (simp only [el_l1]; exact lv_sub hl [1, 2, 0] rfl) | exact lv_sub hl [1, 2, 0] rfl)
      · skip
        refine lv_ldc2 (v := lN 31) hx hb hown (hts (.constantLong RX7 99 (31)) (by decide +kernel)) dX7_digest_23 ?_
        refine lv_lload_n hx hb dX7_digest_26 rfl (lv_at hl 1 rfl) ?_
        refine lv_lmul hx hb dX7_digest_27 ?_
        refine lv_aload_n hx hb dX7_digest_28 rfl (lv_at hl 0 rfl) ?_
        refine lv_iload_n hx hb dX7_digest_29 rfl (lv_at hl 2 rfl) ?_
        refine wv_callPi (As := [.int (nI i)]) (rest := [.long ((lN 31) * (hfd (lN 1358234 + lN ps) (fun w => (whV fl me v n b st.toInt32 lk.toInt32 cm.toInt32 ty w).toInt64) i))]) ⟨hx, hb, hml, hown, hts⟩ (kX7_wholeOf l D mo sa pa ha ta cJ cI n b fl me st lk cm v nu pt hd tx ps ru ty 0 lks lo1 hi1 sp cd pl gv i (by first | assumption | omega) (by first | assumption | omega) (by first | assumption | omega)) (cwV 1 hts gX7_digest_X7_wholeOf rfl rfl rfl (by decide +kernel) ⟨Nat.le_of_ble_eq_true rfl, Nat.le_of_ble_eq_true rfl⟩) hK hN hP hS hA [0, 1, 2, 3, 4] [0, 1] rfl rfl 0 5 rfl rfl rfl rfl hl.1 rfl (Nat.le_of_ble_eq_true rfl) dX7_digest_30 ⟨Nat.zero_le _, Nat.zero_le _⟩ (fun H locs hz9 hP hS => ?_)
        refine lv_i2l (v := (whV fl me v n b st.toInt32 lk.toInt32 cm.toInt32 ty i).toInt64) hx hb dX7_digest_33 rfl ?_
        refine lv_ladd hx hb dX7_digest_34 ?_
        refine lv_lstore_n (lv' := [(1, .long (((lN 31) * (hfd (lN 1358234 + lN ps) (fun w => (whV fl me v n b st.toInt32 lk.toInt32 cm.toInt32 ty w).toInt64) i)) + ((whV fl me v n b st.toInt32 lk.toInt32 cm.toInt32 ty i).toInt64))), (0, .ref mo), (3, .int (nI i))]) hx hb dX7_digest_35 rfl hl (by decide) rfl (fun ls hl => ?_)
        refine lv_iinc (v := nI (i + 1)) (lv' := [(3, .int (nI (i + 1))), (1, .long (((lN 31) * (hfd (lN 1358234 + lN ps) (fun w => (whV fl me v n b st.toInt32 lk.toInt32 cm.toInt32 ty w).toInt64) i)) + ((whV fl me v n b st.toInt32 lk.toInt32 cm.toInt32 ty i).toInt64))), (0, .ref mo)]) hx hb dX7_digest_36 hl (k := 2) rfl (nI_1 _) (by decide) rfl (fun ls hl => ?_)
        refine lv_goto (tgt := 17) hx hb dX7_digest_39 (by decide) ?_
        have el_l1 : hfd (lN 1358234 + lN ps) (fun w => (whV fl me v n b st.toInt32 lk.toInt32 cm.toInt32 ty w).toInt64) (i + 1) = ((lN 31) * (hfd (lN 1358234 + lN ps) (fun w => (whV fl me v n b st.toInt32 lk.toInt32 cm.toInt32 ty w).toInt64) i)) + ((whV fl me v n b st.toInt32 lk.toInt32 cm.toInt32 ty i).toInt64) := by rfl
        exact ih17 (i + 1) (by omega) (by first | assumption | omega) _ _ (by first | (rw [el_l1]; exact hP) | (simp only [el_l1]; exact hP) | exact hP) (by first | (rw [el_l1]; exact hD) | (simp only [el_l1]; exact hD) | exact hD) hS ls (by first | (rw [el_l1]; exact lv_sub hl [2, 1, 0] rfl) | (simp only [el_l1]; exact lv_sub hl [2, 1, 0] rfl) | exact lv_sub hl [2, 1, 0] rfl)
  exact loop17 (12 - 0 + 1) 0 (by omega) (by first | assumption | omega) _ _ (by first | (rw [el_l1]; exact hP) | (simp only [el_l1]; exact hP) | exact hP) (by first | (rw [el_l1]; exact hD) | (simp only [el_l1]; exact hD) | exact hD) hS ls (by first | (rw [el_l1]; exact lv_sub hl [2, 1, 0] rfl) | (simp only [el_l1]; exact lv_sub hl [2, 1, 0] rfl) | exact lv_sub hl [2, 1, 0] rfl)
