/-! The class: where its methods throw. -/
theorem opn_no {y : Int32} {n : Nat} (h : opn y n = false) (h1 : ¬ y < 0) (h2 : y ≤ nI n) : False := by
  unfold opn at h
  rw [decide_eq_true h1, decide_eq_true (show ¬ nI n < y from fun z => absurd h2 (Int32.not_le.mpr z))] at h
  cases h
theorem inR_m (n : Nat) : inR (-1000) n = false := by
  unfold inR
  rw [decide_eq_false (by decide)]; rfl
set_option maxHeartbeats 4000000 in
set_option maxRecDepth 100000 in
theorem kX6_requireRoom_throw (l : Launch) (D : va_G) (x9 : Nat) (r : Nat) (r2 : Nat) (q : Nat) (co : Nat) (h : Nat) (va : Nat) (na : Nat) (ra : Nat) (cJ : ClassId) (cI : ClassId) (v : Nat → Int64) (nu : Nat → Int32) (rk : Nat → Int32) (n : Nat) (b : Nat) (fl : Bool) (me : Bool) (st : Int32) (lk : Int32) (cm : Int32) (hlst : l.stackTraces = false) (hn : n = 32) : XM l yX6_requireRoom wsX6_requireRoom ({ frames := 6, cells := 1, slots := 6, locals := 90 } : Room) [.ref x9] D ((ObjC x9 r r2 q co h) ++ (RowC r va na ra cJ cI v nu rk n b fl me st lk cm)) [(cJ, .long), (cI, .int)] "java/lang/IllegalStateException" := by
  refine XM_of (cc := cX6_requireRoom) (maxL := 1) (ret := none) (by decide +kernel) rfl (Nat.le_of_ble_eq_true rfl) ?_
  intro p e s m args below meth c hx hb hr hts hown hlocks hml hno hP hK hN hX ls hl
  have hown : s.vm.findClass RX6 = some m.cls := hown
  have hl : lv_has ls 1 [(0, .ref x9)] := hl
  have hS : va_S (va_A [] s.heap.size) s.heap s.heap [] := va_S.rf
  have hA := wk_hA [] s.heap.size
  have hD9 : True := trivial
  have hinX6 : ∀ w ∈ wsX60, w ∈ wsX6_requireRoom := by decide +kernel
  refine lv_aload_n hx hb dX6_requireRoom_0 rfl (lv_at hl 0 rfl) ?_
  refine va_get (D := D) (ci := 4) (C := RX6) (T := TX6) (N := 5) hx hb hts hinX6 hown hK hP 0 rfl rfl 0 (by decide) (hts (.fieldLink RX6 10 "NearRanks" "row" "LNearRanks$Row;") (by decide +kernel)) (fun _ h9 => h9) rfl dX6_requireRoom_1 ?_
  refine wv_callPi (As := []) (rest := []) ⟨hx, hb, hml, hown, hts⟩ (kX3_hasRoom l D r va na ra cJ cI v nu rk n b fl me st lk cm (by first | assumption | omega)) (cwV 0 hts gX6_requireRoom_X3_hasRoom rfl rfl rfl (by decide +kernel) ⟨Nat.le_of_ble_eq_true rfl, Nat.le_of_ble_eq_true rfl⟩) hK hN hP hS hA [1, 2, 3, 4] [0, 1] rfl rfl 1 2 rfl rfl rfl rfl hl.1 rfl (Nat.le_of_ble_eq_true rfl) dX6_requireRoom_4 ⟨Nat.zero_le _, Nat.zero_le _⟩ (fun H locs hz9 hP hS => ?_)
  refine wv_ifneD (tgt := 20) hx hb dX6_requireRoom_7 (by decide) (fun c7 => by exfalso; omega) (fun c7 => ?_)
  exact wv_throw (text := "the row is full") (ik := 198) (is := 242) (ic := 202) hlst hx hb hown hlocks hno hX hS rfl (by decide +kernel) (hts (.classLink RX6 198 "java/lang/IllegalStateException") (by decide +kernel)) (hts (.initialized "java/lang/IllegalStateException") (by decide +kernel)) (by decide +kernel) (fun w h => hts w (List.mem_cons_of_mem _ (List.mem_append_right _ h))) (by decide +kernel) (by decide +kernel) (hl.1.trans hml.symm) dX6_requireRoom_10 dX6_requireRoom_13 dX6_requireRoom_14 dX6_requireRoom_16 dX6_requireRoom_19 (Nat.le_of_ble_eq_true rfl) (Nat.le_of_ble_eq_true rfl) (Nat.le_of_ble_eq_true rfl) (Nat.le_of_ble_eq_true rfl)

set_option maxHeartbeats 4000000 in
set_option maxRecDepth 100000 in
theorem kX6_requirePlace_throw (l : Launch) (D : va_G) (x9 : Nat) (r : Nat) (r2 : Nat) (q : Nat) (co : Nat) (h : Nat) (va : Nat) (na : Nat) (ra : Nat) (cJ : ClassId) (cI : ClassId) (v : Nat → Int64) (nu : Nat → Int32) (rk : Nat → Int32) (n : Nat) (b : Nat) (fl : Bool) (me : Bool) (st : Int32) (lk : Int32) (cm : Int32) (z : Int32) (hlst : l.stackTraces = false) (hn : n ≤ 32) (hz : inR z n = false) : XM l yX6_requirePlace wsX6_requirePlace ({ frames := 6, cells := 1, slots := 6, locals := 90 } : Room) [.ref x9, .int z] D ((ObjC x9 r r2 q co h) ++ (RowC r va na ra cJ cI v nu rk n b fl me st lk cm)) [(cJ, .long), (cI, .int)] "java/lang/IndexOutOfBoundsException" := by
  refine XM_of (cc := cX6_requirePlace) (maxL := 2) (ret := none) (by decide +kernel) rfl (Nat.le_of_ble_eq_true rfl) ?_
  intro p e s m args below meth c hx hb hr hts hown hlocks hml hno hP hK hN hX ls hl
  have hown : s.vm.findClass RX6 = some m.cls := hown
  have hl : lv_has ls 2 [(0, .ref x9), (1, .int z)] := hl
  have hS : va_S (va_A [] s.heap.size) s.heap s.heap [] := va_S.rf
  have hA := wk_hA [] s.heap.size
  have hD9 : True := trivial
  have hinX6 : ∀ w ∈ wsX60, w ∈ wsX6_requirePlace := by decide +kernel
  refine lv_aload_n hx hb dX6_requirePlace_0 rfl (lv_at hl 0 rfl) ?_
  refine va_get (D := D) (ci := 4) (C := RX6) (T := TX6) (N := 5) hx hb hts hinX6 hown hK hP 0 rfl rfl 0 (by decide) (hts (.fieldLink RX6 10 "NearRanks" "row" "LNearRanks$Row;") (by decide +kernel)) (fun _ h9 => h9) rfl dX6_requirePlace_1 ?_
  refine lv_iload_n hx hb dX6_requirePlace_4 rfl (lv_at hl 1 rfl) ?_
  refine wv_callPi (As := [.int z]) (rest := []) ⟨hx, hb, hml, hown, hts⟩ (kX3_isPlace l D r va na ra cJ cI v nu rk n b fl me st lk cm z) (cwV 1 hts gX6_requirePlace_X3_isPlace rfl rfl rfl (by decide +kernel) ⟨Nat.le_of_ble_eq_true rfl, Nat.le_of_ble_eq_true rfl⟩) hK hN hP hS hA [1, 2, 3, 4] [0, 1] rfl rfl 1 2 rfl rfl rfl rfl hl.1 rfl (Nat.le_of_ble_eq_true rfl) dX6_requirePlace_5 ⟨Nat.zero_le _, Nat.zero_le _⟩ (fun H locs hz9 hP hS => ?_)
  refine wv_ti (y := bI false) (by rw [hz]) ?_
  refine wv_ifneB (tgt := 21) hx hb dX6_requirePlace_8 (by decide) (fun h => by cases h) (fun _ => ?_)
  exact wv_throw (text := "no such place") (ik := 98) (is := 244) (ic := 102) hlst hx hb hown hlocks hno hX hS rfl (by decide +kernel) (hts (.classLink RX6 98 "java/lang/IndexOutOfBoundsException") (by decide +kernel)) (hts (.initialized "java/lang/IndexOutOfBoundsException") (by decide +kernel)) (by decide +kernel) (fun w h => hts w (List.mem_cons_of_mem _ (List.mem_append_right _ h))) (by decide +kernel) (by decide +kernel) (hl.1.trans hml.symm) dX6_requirePlace_11 dX6_requirePlace_14 dX6_requirePlace_15 dX6_requirePlace_17 dX6_requirePlace_20 (Nat.le_of_ble_eq_true rfl) (Nat.le_of_ble_eq_true rfl) (Nat.le_of_ble_eq_true rfl) (Nat.le_of_ble_eq_true rfl)

set_option maxHeartbeats 4000000 in
set_option maxRecDepth 100000 in
theorem kX6_requireBound_throw (l : Launch) (D : va_G) (x9 : Nat) (r : Nat) (r2 : Nat) (q : Nat) (co : Nat) (h : Nat) (va : Nat) (na : Nat) (ra : Nat) (cJ : ClassId) (cI : ClassId) (v : Nat → Int64) (nu : Nat → Int32) (rk : Nat → Int32) (n : Nat) (b : Nat) (fl : Bool) (me : Bool) (st : Int32) (lk : Int32) (cm : Int32) (z : Int32) (hlst : l.stackTraces = false) (hn : n ≤ 32) (hz : inB z = false) : XM l yX6_requireBound wsX6_requireBound ({ frames := 6, cells := 1, slots := 6, locals := 90 } : Room) [.ref x9, .int z] D ((ObjC x9 r r2 q co h) ++ (RowC r va na ra cJ cI v nu rk n b fl me st lk cm)) [(cJ, .long), (cI, .int)] "java/lang/IllegalArgumentException" := by
  refine XM_of (cc := cX6_requireBound) (maxL := 2) (ret := none) (by decide +kernel) rfl (Nat.le_of_ble_eq_true rfl) ?_
  intro p e s m args below meth c hx hb hr hts hown hlocks hml hno hP hK hN hX ls hl
  have hown : s.vm.findClass RX6 = some m.cls := hown
  have hl : lv_has ls 2 [(0, .ref x9), (1, .int z)] := hl
  have hS : va_S (va_A [] s.heap.size) s.heap s.heap [] := va_S.rf
  have hA := wk_hA [] s.heap.size
  have hD9 : True := trivial
  have hinX6 : ∀ w ∈ wsX60, w ∈ wsX6_requireBound := by decide +kernel
  refine lv_aload_n hx hb dX6_requireBound_0 rfl (lv_at hl 0 rfl) ?_
  refine va_get (D := D) (ci := 4) (C := RX6) (T := TX6) (N := 5) hx hb hts hinX6 hown hK hP 0 rfl rfl 0 (by decide) (hts (.fieldLink RX6 10 "NearRanks" "row" "LNearRanks$Row;") (by decide +kernel)) (fun _ h9 => h9) rfl dX6_requireBound_1 ?_
  refine lv_iload_n hx hb dX6_requireBound_4 rfl (lv_at hl 1 rfl) ?_
  refine wv_callPi (As := [.int z]) (rest := []) ⟨hx, hb, hml, hown, hts⟩ (kX3_isBound l D r va na ra cJ cI v nu rk n b fl me st lk cm z) (cwV 1 hts gX6_requireBound_X3_isBound rfl rfl rfl (by decide +kernel) ⟨Nat.le_of_ble_eq_true rfl, Nat.le_of_ble_eq_true rfl⟩) hK hN hP hS hA [1, 2, 3, 4] [0, 1] rfl rfl 1 2 rfl rfl rfl rfl hl.1 rfl (Nat.le_of_ble_eq_true rfl) dX6_requireBound_5 ⟨Nat.zero_le _, Nat.zero_le _⟩ (fun H locs hz9 hP hS => ?_)
  refine wv_ti (y := bI false) (by rw [hz]) ?_
  refine wv_ifneB (tgt := 21) hx hb dX6_requireBound_8 (by decide) (fun h => by cases h) (fun _ => ?_)
  exact wv_throw (text := "no such bound") (ik := 67) (is := 249) (ic := 71) hlst hx hb hown hlocks hno hX hS rfl (by decide +kernel) (hts (.classLink RX6 67 "java/lang/IllegalArgumentException") (by decide +kernel)) (hts (.initialized "java/lang/IllegalArgumentException") (by decide +kernel)) (by decide +kernel) (fun w h => hts w (List.mem_cons_of_mem _ (List.mem_append_right _ h))) (by decide +kernel) (by decide +kernel) (hl.1.trans hml.symm) dX6_requireBound_11 dX6_requireBound_14 dX6_requireBound_15 dX6_requireBound_17 dX6_requireBound_20 (Nat.le_of_ble_eq_true rfl) (Nat.le_of_ble_eq_true rfl) (Nat.le_of_ble_eq_true rfl) (Nat.le_of_ble_eq_true rfl)

set_option maxHeartbeats 4000000 in
set_option maxRecDepth 100000 in
theorem kX6_append_throw (l : Launch) (D : va_G) (x9 : Nat) (r : Nat) (r2 : Nat) (q : Nat) (co : Nat) (h : Nat) (va : Nat) (na : Nat) (ra : Nat) (cJ : ClassId) (cI : ClassId) (v : Nat → Int64) (nu : Nat → Int32) (rk : Nat → Int32) (n : Nat) (b : Nat) (fl : Bool) (me : Bool) (st : Int32) (lk : Int32) (cm : Int32) (x : Int64) (hlst : l.stackTraces = false) (hn : n = 32) : XM l yX6_append wsX6_append ({ frames := 7, cells := 1, slots := 6, locals := 110 } : Room) [.ref x9, .long x] D ((ObjC x9 r r2 q co h) ++ (RowC r va na ra cJ cI v nu rk n b fl me st lk cm)) [(cJ, .long), (cI, .int)] "java/lang/IllegalStateException" := by
  refine XM_of (cc := cX6_append) (maxL := 4) (ret := some .int) (by decide +kernel) rfl (Nat.le_of_ble_eq_true rfl) ?_
  intro p e s m args below meth c hx hb hr hts hown hlocks hml hno hP hK hN hX ls hl
  have hown : s.vm.findClass RX6 = some m.cls := hown
  have hl : lv_has ls 4 [(0, .ref x9), (1, .long x)] := hl
  have hS : va_S (va_A [] s.heap.size) s.heap s.heap [] := va_S.rf
  have hA := wk_hA [] s.heap.size
  have hD9 : True := trivial
  refine lv_aload_n hx hb dX6_append_0 rfl (lv_at hl 0 rfl) ?_
  refine wv_callX (As := []) (rest := []) ⟨hx, hb, hml, hown, hts⟩ (kX6_requireRoom_throw l D x9 r r2 q co h va na ra cJ cI v nu rk n b fl me st lk cm (by first | assumption | omega) (by first | assumption | omega)) (cwV 0 hts gX6_append_X6_requireRoom rfl rfl rfl (by decide +kernel) ⟨Nat.le_of_ble_eq_true rfl, Nat.le_of_ble_eq_true rfl⟩) hK hN hX hP hS hA [0, 1, 2, 3, 4] [0, 1] rfl rfl (va_recv (q0 := 0) (ci := 4) hK hP rfl rfl) rfl hl.1 rfl (Nat.le_of_ble_eq_true rfl) dX6_append_1 ⟨Nat.le_of_ble_eq_true rfl, Nat.le_of_ble_eq_true rfl⟩ (fun ce q9 H locs hz9 hP hS hce hcv hcl => ?_)
  exact wv_outX hno hlocks hS hce hcv hcl

set_option maxHeartbeats 4000000 in
set_option maxRecDepth 100000 in
theorem kX6_insert_bad (l : Launch) (D : va_G) (x9 : Nat) (r : Nat) (r2 : Nat) (q : Nat) (co : Nat) (h : Nat) (va : Nat) (na : Nat) (ra : Nat) (cJ : ClassId) (cI : ClassId) (v : Nat → Int64) (nu : Nat → Int32) (rk : Nat → Int32) (n : Nat) (b : Nat) (fl : Bool) (me : Bool) (st : Int32) (lk : Int32) (cm : Int32) (z : Int32) (x : Int64) (hlst : l.stackTraces = false) (hn : n ≤ 32) (hz : opn z n = false) : XM l yX6_insert wsX6_insert ({ frames := 6, cells := 1, slots := 6, locals := 90 } : Room) [.ref x9, .int z, .long x] D ((ObjC x9 r r2 q co h) ++ (RowC r va na ra cJ cI v nu rk n b fl me st lk cm)) [(cJ, .long), (cI, .int)] "java/lang/IllegalArgumentException" := by
  refine XM_of (cc := cX6_insert) (maxL := 5) (ret := some .int) (by decide +kernel) rfl (Nat.le_of_ble_eq_true rfl) ?_
  intro p e s m args below meth c hx hb hr hts hown hlocks hml hno hP hK hN hX ls hl
  have hown : s.vm.findClass RX6 = some m.cls := hown
  have hl : lv_has ls 5 [(0, .ref x9), (1, .int z), (2, .long x)] := hl
  have hS : va_S (va_A [] s.heap.size) s.heap s.heap [] := va_S.rf
  have hA := wk_hA [] s.heap.size
  have hD9 : True := trivial
  have hinX6 : ∀ w ∈ wsX60, w ∈ wsX6_insert := by decide +kernel
  refine lv_aload_n hx hb dX6_insert_0 rfl (lv_at hl 0 rfl) ?_
  refine va_get (D := D) (ci := 4) (C := RX6) (T := TX6) (N := 5) hx hb hts hinX6 hown hK hP 0 rfl rfl 0 (by decide) (hts (.fieldLink RX6 10 "NearRanks" "row" "LNearRanks$Row;") (by decide +kernel)) (fun _ h9 => h9) rfl dX6_insert_1 ?_
  refine lv_iload_n hx hb dX6_insert_4 rfl (lv_at hl 1 rfl) ?_
  refine wv_callPi (As := [.int z]) (rest := []) ⟨hx, hb, hml, hown, hts⟩ (kX3_canOpen l D r va na ra cJ cI v nu rk n b fl me st lk cm z) (cwV 1 hts gX6_insert_X3_canOpen rfl rfl rfl (by decide +kernel) ⟨Nat.le_of_ble_eq_true rfl, Nat.le_of_ble_eq_true rfl⟩) hK hN hP hS hA [1, 2, 3, 4] [0, 1] rfl rfl 1 2 rfl rfl rfl rfl hl.1 rfl (Nat.le_of_ble_eq_true rfl) dX6_insert_5 ⟨Nat.zero_le _, Nat.zero_le _⟩ (fun H locs hz9 hP hS => ?_)
  refine wv_ti (y := bI false) (by rw [hz]) ?_
  refine wv_ifneB (tgt := 21) hx hb dX6_insert_8 (by decide) (fun h => by cases h) (fun _ => ?_)
  exact wv_throw (text := "no place to insert at") (ik := 67) (is := 69) (ic := 71) hlst hx hb hown hlocks hno hX hS rfl (by decide +kernel) (hts (.classLink RX6 67 "java/lang/IllegalArgumentException") (by decide +kernel)) (hts (.initialized "java/lang/IllegalArgumentException") (by decide +kernel)) (by decide +kernel) (fun w h => hts w (List.mem_cons_of_mem _ (List.mem_append_left _ (List.mem_append_right _ h)))) (by decide +kernel) (by decide +kernel) (hl.1.trans hml.symm) dX6_insert_11 dX6_insert_14 dX6_insert_15 dX6_insert_17 dX6_insert_20 (Nat.le_of_ble_eq_true rfl) (Nat.le_of_ble_eq_true rfl) (Nat.le_of_ble_eq_true rfl) (Nat.le_of_ble_eq_true rfl)

set_option maxHeartbeats 4000000 in
set_option maxRecDepth 100000 in
theorem kX6_insert_full (l : Launch) (D : va_G) (x9 : Nat) (r : Nat) (r2 : Nat) (q : Nat) (co : Nat) (h : Nat) (va : Nat) (na : Nat) (ra : Nat) (cJ : ClassId) (cI : ClassId) (v : Nat → Int64) (nu : Nat → Int32) (rk : Nat → Int32) (n : Nat) (b : Nat) (fl : Bool) (me : Bool) (st : Int32) (lk : Int32) (cm : Int32) (k : Nat) (x : Int64) (hlst : l.stackTraces = false) (hn : n = 32) (hk : k ≤ n) : XM l yX6_insert wsX6_insert ({ frames := 7, cells := 1, slots := 6, locals := 110 } : Room) [.ref x9, .int (nI k), .long x] D ((ObjC x9 r r2 q co h) ++ (RowC r va na ra cJ cI v nu rk n b fl me st lk cm)) [(cJ, .long), (cI, .int)] "java/lang/IllegalStateException" := by
  refine XM_of (cc := cX6_insert) (maxL := 5) (ret := some .int) (by decide +kernel) rfl (Nat.le_of_ble_eq_true rfl) ?_
  intro p e s m args below meth c hx hb hr hts hown hlocks hml hno hP hK hN hX ls hl
  have hown : s.vm.findClass RX6 = some m.cls := hown
  have hl : lv_has ls 5 [(0, .ref x9), (1, .int (nI k)), (2, .long x)] := hl
  have hS : va_S (va_A [] s.heap.size) s.heap s.heap [] := va_S.rf
  have hA := wk_hA [] s.heap.size
  have hD9 : True := trivial
  have hinX6 : ∀ w ∈ wsX60, w ∈ wsX6_insert := by decide +kernel
  refine lv_aload_n hx hb dX6_insert_0 rfl (lv_at hl 0 rfl) ?_
  refine va_get (D := D) (ci := 4) (C := RX6) (T := TX6) (N := 5) hx hb hts hinX6 hown hK hP 0 rfl rfl 0 (by decide) (hts (.fieldLink RX6 10 "NearRanks" "row" "LNearRanks$Row;") (by decide +kernel)) (fun _ h9 => h9) rfl dX6_insert_1 ?_
  refine lv_iload_n hx hb dX6_insert_4 rfl (lv_at hl 1 rfl) ?_
  refine wv_callPi (As := [.int (nI k)]) (rest := []) ⟨hx, hb, hml, hown, hts⟩ (kX3_canOpen l D r va na ra cJ cI v nu rk n b fl me st lk cm (nI k)) (cwV 1 hts gX6_insert_X3_canOpen rfl rfl rfl (by decide +kernel) ⟨Nat.le_of_ble_eq_true rfl, Nat.le_of_ble_eq_true rfl⟩) hK hN hP hS hA [1, 2, 3, 4] [0, 1] rfl rfl 1 2 rfl rfl rfl rfl hl.1 rfl (Nat.le_of_ble_eq_true rfl) dX6_insert_5 ⟨Nat.zero_le _, Nat.zero_le _⟩ (fun H locs hz9 hP hS => ?_)
  refine wv_ti (y := bI true) (by rw [opn_t hk (by omega)]) ?_
  refine wv_ifneB (tgt := 21) hx hb dX6_insert_8 (by decide) (fun _ => ?_) (fun h => by cases h)
  refine lv_aload_n hx hb dX6_insert_21 rfl (lv_at hl 0 rfl) ?_
  refine wv_callX (As := []) (rest := []) ⟨hx, hb, hml, hown, hts⟩ (kX6_requireRoom_throw l D x9 r r2 q co h va na ra cJ cI v nu rk n b fl me st lk cm (by first | assumption | omega) (by first | assumption | omega)) (cwV 0 hts gX6_insert_X6_requireRoom rfl rfl rfl (by decide +kernel) ⟨Nat.le_of_ble_eq_true rfl, Nat.le_of_ble_eq_true rfl⟩) hK hN hX hP hS hA [0, 1, 2, 3, 4] [0, 1] rfl rfl (va_recv (q0 := 0) (ci := 4) hK hP rfl rfl) rfl hl.1 rfl (Nat.le_of_ble_eq_true rfl) dX6_insert_22 ⟨Nat.le_of_ble_eq_true rfl, Nat.le_of_ble_eq_true rfl⟩ (fun ce q9 H locs hz9 hP hS hce hcv hcl => ?_)
  exact wv_outX hno hlocks hS hce hcv hcl

set_option maxHeartbeats 4000000 in
set_option maxRecDepth 100000 in
theorem kX6_removeAt_throw (l : Launch) (D : va_G) (x9 : Nat) (r : Nat) (r2 : Nat) (q : Nat) (co : Nat) (h : Nat) (va : Nat) (na : Nat) (ra : Nat) (cJ : ClassId) (cI : ClassId) (v : Nat → Int64) (nu : Nat → Int32) (rk : Nat → Int32) (n : Nat) (b : Nat) (fl : Bool) (me : Bool) (st : Int32) (lk : Int32) (cm : Int32) (z : Int32) (hlst : l.stackTraces = false) (hn : n ≤ 32) (hz : inR z n = false) : XM l yX6_removeAt wsX6_removeAt ({ frames := 7, cells := 1, slots := 6, locals := 111 } : Room) [.ref x9, .int z] D ((ObjC x9 r r2 q co h) ++ (RowC r va na ra cJ cI v nu rk n b fl me st lk cm)) [(cJ, .long), (cI, .int)] "java/lang/IndexOutOfBoundsException" := by
  refine XM_of (cc := cX6_removeAt) (maxL := 3) (ret := some .int) (by decide +kernel) rfl (Nat.le_of_ble_eq_true rfl) ?_
  intro p e s m args below meth c hx hb hr hts hown hlocks hml hno hP hK hN hX ls hl
  have hown : s.vm.findClass RX6 = some m.cls := hown
  have hl : lv_has ls 3 [(0, .ref x9), (1, .int z)] := hl
  have hS : va_S (va_A [] s.heap.size) s.heap s.heap [] := va_S.rf
  have hA := wk_hA [] s.heap.size
  have hD9 : True := trivial
  refine lv_aload_n hx hb dX6_removeAt_0 rfl (lv_at hl 0 rfl) ?_
  refine lv_iload_n hx hb dX6_removeAt_1 rfl (lv_at hl 1 rfl) ?_
  refine wv_callX (As := [.int z]) (rest := []) ⟨hx, hb, hml, hown, hts⟩ (kX6_requirePlace_throw l D x9 r r2 q co h va na ra cJ cI v nu rk n b fl me st lk cm z (by first | assumption | omega) (by first | assumption | omega) (by first | assumption | omega)) (cwV 1 hts gX6_removeAt_X6_requirePlace rfl rfl rfl (by decide +kernel) ⟨Nat.le_of_ble_eq_true rfl, Nat.le_of_ble_eq_true rfl⟩) hK hN hX hP hS hA [0, 1, 2, 3, 4] [0, 1] rfl rfl (va_recv (q0 := 0) (ci := 4) hK hP rfl rfl) rfl hl.1 rfl (Nat.le_of_ble_eq_true rfl) dX6_removeAt_2 ⟨Nat.le_of_ble_eq_true rfl, Nat.le_of_ble_eq_true rfl⟩ (fun ce q9 H locs hz9 hP hS hce hcv hcl => ?_)
  exact wv_outX hno hlocks hS hce hcv hcl

set_option maxHeartbeats 4000000 in
set_option maxRecDepth 100000 in
theorem kX6_setValue_throw (l : Launch) (D : va_G) (x9 : Nat) (r : Nat) (r2 : Nat) (q : Nat) (co : Nat) (h : Nat) (va : Nat) (na : Nat) (ra : Nat) (cJ : ClassId) (cI : ClassId) (v : Nat → Int64) (nu : Nat → Int32) (rk : Nat → Int32) (n : Nat) (b : Nat) (fl : Bool) (me : Bool) (st : Int32) (lk : Int32) (cm : Int32) (z : Int32) (x : Int64) (hlst : l.stackTraces = false) (hn : n ≤ 32) (hz : inR z n = false) : XM l yX6_setValue wsX6_setValue ({ frames := 7, cells := 1, slots := 6, locals := 111 } : Room) [.ref x9, .int z, .long x] D ((ObjC x9 r r2 q co h) ++ (RowC r va na ra cJ cI v nu rk n b fl me st lk cm)) [(cJ, .long), (cI, .int)] "java/lang/IndexOutOfBoundsException" := by
  refine XM_of (cc := cX6_setValue) (maxL := 6) (ret := some .long) (by decide +kernel) rfl (Nat.le_of_ble_eq_true rfl) ?_
  intro p e s m args below meth c hx hb hr hts hown hlocks hml hno hP hK hN hX ls hl
  have hown : s.vm.findClass RX6 = some m.cls := hown
  have hl : lv_has ls 6 [(0, .ref x9), (1, .int z), (2, .long x)] := hl
  have hS : va_S (va_A [] s.heap.size) s.heap s.heap [] := va_S.rf
  have hA := wk_hA [] s.heap.size
  have hD9 : True := trivial
  refine lv_aload_n hx hb dX6_setValue_0 rfl (lv_at hl 0 rfl) ?_
  refine lv_iload_n hx hb dX6_setValue_1 rfl (lv_at hl 1 rfl) ?_
  refine wv_callX (As := [.int z]) (rest := []) ⟨hx, hb, hml, hown, hts⟩ (kX6_requirePlace_throw l D x9 r r2 q co h va na ra cJ cI v nu rk n b fl me st lk cm z (by first | assumption | omega) (by first | assumption | omega) (by first | assumption | omega)) (cwV 1 hts gX6_setValue_X6_requirePlace rfl rfl rfl (by decide +kernel) ⟨Nat.le_of_ble_eq_true rfl, Nat.le_of_ble_eq_true rfl⟩) hK hN hX hP hS hA [0, 1, 2, 3, 4] [0, 1] rfl rfl (va_recv (q0 := 0) (ci := 4) hK hP rfl rfl) rfl hl.1 rfl (Nat.le_of_ble_eq_true rfl) dX6_setValue_2 ⟨Nat.le_of_ble_eq_true rfl, Nat.le_of_ble_eq_true rfl⟩ (fun ce q9 H locs hz9 hP hS hce hcv hcl => ?_)
  exact wv_outX hno hlocks hS hce hcv hcl

set_option maxHeartbeats 4000000 in
set_option maxRecDepth 100000 in
theorem kX6_at_throw (l : Launch) (D : va_G) (x9 : Nat) (r : Nat) (r2 : Nat) (q : Nat) (co : Nat) (h : Nat) (va : Nat) (na : Nat) (ra : Nat) (cJ : ClassId) (cI : ClassId) (v : Nat → Int64) (nu : Nat → Int32) (rk : Nat → Int32) (n : Nat) (b : Nat) (fl : Bool) (me : Bool) (st : Int32) (lk : Int32) (cm : Int32) (z : Int32) (hlst : l.stackTraces = false) (hn : n ≤ 32) (hz : inR z n = false) : XM l yX6_at wsX6_at ({ frames := 7, cells := 1, slots := 6, locals := 111 } : Room) [.ref x9, .int z] D ((ObjC x9 r r2 q co h) ++ (RowC r va na ra cJ cI v nu rk n b fl me st lk cm)) [(cJ, .long), (cI, .int)] "java/lang/IndexOutOfBoundsException" := by
  refine XM_of (cc := cX6_at) (maxL := 2) (ret := some .long) (by decide +kernel) rfl (Nat.le_of_ble_eq_true rfl) ?_
  intro p e s m args below meth c hx hb hr hts hown hlocks hml hno hP hK hN hX ls hl
  have hown : s.vm.findClass RX6 = some m.cls := hown
  have hl : lv_has ls 2 [(0, .ref x9), (1, .int z)] := hl
  have hS : va_S (va_A [] s.heap.size) s.heap s.heap [] := va_S.rf
  have hA := wk_hA [] s.heap.size
  have hD9 : True := trivial
  refine lv_aload_n hx hb dX6_at_0 rfl (lv_at hl 0 rfl) ?_
  refine lv_iload_n hx hb dX6_at_1 rfl (lv_at hl 1 rfl) ?_
  refine wv_callX (As := [.int z]) (rest := []) ⟨hx, hb, hml, hown, hts⟩ (kX6_requirePlace_throw l D x9 r r2 q co h va na ra cJ cI v nu rk n b fl me st lk cm z (by first | assumption | omega) (by first | assumption | omega) (by first | assumption | omega)) (cwV 1 hts gX6_at_X6_requirePlace rfl rfl rfl (by decide +kernel) ⟨Nat.le_of_ble_eq_true rfl, Nat.le_of_ble_eq_true rfl⟩) hK hN hX hP hS hA [0, 1, 2, 3, 4] [0, 1] rfl rfl (va_recv (q0 := 0) (ci := 4) hK hP rfl rfl) rfl hl.1 rfl (Nat.le_of_ble_eq_true rfl) dX6_at_2 ⟨Nat.le_of_ble_eq_true rfl, Nat.le_of_ble_eq_true rfl⟩ (fun ce q9 H locs hz9 hP hS hce hcv hcl => ?_)
  exact wv_outX hno hlocks hS hce hcv hcl

set_option maxHeartbeats 4000000 in
set_option maxRecDepth 100000 in
theorem kX6_swap_throw (l : Launch) (D : va_G) (x9 : Nat) (r : Nat) (r2 : Nat) (q : Nat) (co : Nat) (h : Nat) (va : Nat) (na : Nat) (ra : Nat) (cJ : ClassId) (cI : ClassId) (v : Nat → Int64) (nu : Nat → Int32) (rk : Nat → Int32) (n : Nat) (b : Nat) (fl : Bool) (me : Bool) (st : Int32) (lk : Int32) (cm : Int32) (z : Int32) (hlst : l.stackTraces = false) (hn : n ≤ 32) (hz : hnx z n = false) : XM l yX6_swap wsX6_swap ({ frames := 6, cells := 1, slots := 6, locals := 90 } : Room) [.ref x9, .int z] D ((ObjC x9 r r2 q co h) ++ (RowC r va na ra cJ cI v nu rk n b fl me st lk cm)) [(cJ, .long), (cI, .int)] "java/lang/IndexOutOfBoundsException" := by
  refine XM_of (cc := cX6_swap) (maxL := 3) (ret := some .int) (by decide +kernel) rfl (Nat.le_of_ble_eq_true rfl) ?_
  intro p e s m args below meth c hx hb hr hts hown hlocks hml hno hP hK hN hX ls hl
  have hown : s.vm.findClass RX6 = some m.cls := hown
  have hl : lv_has ls 3 [(0, .ref x9), (1, .int z)] := hl
  have hS : va_S (va_A [] s.heap.size) s.heap s.heap [] := va_S.rf
  have hA := wk_hA [] s.heap.size
  have hD9 : True := trivial
  have hinX6 : ∀ w ∈ wsX60, w ∈ wsX6_swap := by decide +kernel
  refine lv_aload_n hx hb dX6_swap_0 rfl (lv_at hl 0 rfl) ?_
  refine va_get (D := D) (ci := 4) (C := RX6) (T := TX6) (N := 5) hx hb hts hinX6 hown hK hP 0 rfl rfl 0 (by decide) (hts (.fieldLink RX6 10 "NearRanks" "row" "LNearRanks$Row;") (by decide +kernel)) (fun _ h9 => h9) rfl dX6_swap_1 ?_
  refine lv_iload_n hx hb dX6_swap_4 rfl (lv_at hl 1 rfl) ?_
  refine wv_callPi (As := [.int z]) (rest := []) ⟨hx, hb, hml, hown, hts⟩ (kX3_hasNext l D r va na ra cJ cI v nu rk n b fl me st lk cm z) (cwV 1 hts gX6_swap_X3_hasNext rfl rfl rfl (by decide +kernel) ⟨Nat.le_of_ble_eq_true rfl, Nat.le_of_ble_eq_true rfl⟩) hK hN hP hS hA [1, 2, 3, 4] [0, 1] rfl rfl 1 2 rfl rfl rfl rfl hl.1 rfl (Nat.le_of_ble_eq_true rfl) dX6_swap_5 ⟨Nat.zero_le _, Nat.zero_le _⟩ (fun H locs hz9 hP hS => ?_)
  refine wv_ti (y := bI false) (by rw [hz]) ?_
  refine wv_ifneB (tgt := 21) hx hb dX6_swap_8 (by decide) (fun h => by cases h) (fun _ => ?_)
  exact wv_throw (text := "no such place, or no next one") (ik := 98) (is := 100) (ic := 102) hlst hx hb hown hlocks hno hX hS rfl (by decide +kernel) (hts (.classLink RX6 98 "java/lang/IndexOutOfBoundsException") (by decide +kernel)) (hts (.initialized "java/lang/IndexOutOfBoundsException") (by decide +kernel)) (by decide +kernel) (fun w h => hts w (List.mem_cons_of_mem _ (List.mem_append_right _ h))) (by decide +kernel) (by decide +kernel) (hl.1.trans hml.symm) dX6_swap_11 dX6_swap_14 dX6_swap_15 dX6_swap_17 dX6_swap_20 (Nat.le_of_ble_eq_true rfl) (Nat.le_of_ble_eq_true rfl) (Nat.le_of_ble_eq_true rfl) (Nat.le_of_ble_eq_true rfl)

set_option maxHeartbeats 4000000 in
set_option maxRecDepth 100000 in
theorem kX6_setBound_throw (l : Launch) (D : va_G) (x9 : Nat) (r : Nat) (r2 : Nat) (q : Nat) (co : Nat) (h : Nat) (va : Nat) (na : Nat) (ra : Nat) (cJ : ClassId) (cI : ClassId) (v : Nat → Int64) (nu : Nat → Int32) (rk : Nat → Int32) (n : Nat) (b : Nat) (fl : Bool) (me : Bool) (st : Int32) (lk : Int32) (cm : Int32) (z : Int32) (hlst : l.stackTraces = false) (hn : n ≤ 32) (hz : inB z = false) : XM l yX6_setBound wsX6_setBound ({ frames := 7, cells := 1, slots := 6, locals := 111 } : Room) [.ref x9, .int z] D ((ObjC x9 r r2 q co h) ++ (RowC r va na ra cJ cI v nu rk n b fl me st lk cm)) [(cJ, .long), (cI, .int)] "java/lang/IllegalArgumentException" := by
  refine XM_of (cc := cX6_setBound) (maxL := 3) (ret := some .int) (by decide +kernel) rfl (Nat.le_of_ble_eq_true rfl) ?_
  intro p e s m args below meth c hx hb hr hts hown hlocks hml hno hP hK hN hX ls hl
  have hown : s.vm.findClass RX6 = some m.cls := hown
  have hl : lv_has ls 3 [(0, .ref x9), (1, .int z)] := hl
  have hS : va_S (va_A [] s.heap.size) s.heap s.heap [] := va_S.rf
  have hA := wk_hA [] s.heap.size
  have hD9 : True := trivial
  refine lv_aload_n hx hb dX6_setBound_0 rfl (lv_at hl 0 rfl) ?_
  refine lv_iload_n hx hb dX6_setBound_1 rfl (lv_at hl 1 rfl) ?_
  refine wv_callX (As := [.int z]) (rest := []) ⟨hx, hb, hml, hown, hts⟩ (kX6_requireBound_throw l D x9 r r2 q co h va na ra cJ cI v nu rk n b fl me st lk cm z (by first | assumption | omega) (by first | assumption | omega) (by first | assumption | omega)) (cwV 1 hts gX6_setBound_X6_requireBound rfl rfl rfl (by decide +kernel) ⟨Nat.le_of_ble_eq_true rfl, Nat.le_of_ble_eq_true rfl⟩) hK hN hX hP hS hA [0, 1, 2, 3, 4] [0, 1] rfl rfl (va_recv (q0 := 0) (ci := 4) hK hP rfl rfl) rfl hl.1 rfl (Nat.le_of_ble_eq_true rfl) dX6_setBound_2 ⟨Nat.le_of_ble_eq_true rfl, Nat.le_of_ble_eq_true rfl⟩ (fun ce q9 H locs hz9 hP hS hce hcv hcl => ?_)
  exact wv_outX hno hlocks hS hce hcv hcl

set_option maxHeartbeats 4000000 in
set_option maxRecDepth 100000 in
theorem kX6_ranked_throw (l : Launch) (D : va_G) (x9 : Nat) (r : Nat) (r2 : Nat) (q : Nat) (co : Nat) (h : Nat) (va : Nat) (na : Nat) (ra : Nat) (cJ : ClassId) (cI : ClassId) (v : Nat → Int64) (nu : Nat → Int32) (rk : Nat → Int32) (n : Nat) (b : Nat) (fl : Bool) (me : Bool) (st : Int32) (lk : Int32) (cm : Int32) (z : Int32) (hlst : l.stackTraces = false) (hn : n ≤ 32) (hp : fst0 (fun o => decide (rk o = z)) n = none) : XM l yX6_ranked wsX6_ranked ({ frames := 6, cells := 1, slots := 6, locals := 90 } : Room) [.ref x9, .int z] D ((ObjC x9 r r2 q co h) ++ (RowC r va na ra cJ cI v nu rk n b fl me st lk cm)) [(cJ, .long), (cI, .int)] "java/lang/IndexOutOfBoundsException" := by
  refine XM_of (cc := cX6_ranked) (maxL := 3) (ret := some .long) (by decide +kernel) rfl (Nat.le_of_ble_eq_true rfl) ?_
  intro p e s m args below meth c hx hb hr hts hown hlocks hml hno hP hK hN hX ls hl
  have hown : s.vm.findClass RX6 = some m.cls := hown
  have hl : lv_has ls 3 [(0, .ref x9), (1, .int z)] := hl
  have hS : va_S (va_A [] s.heap.size) s.heap s.heap [] := va_S.rf
  have hA := wk_hA [] s.heap.size
  have hD9 : True := trivial
  have hinX6 : ∀ w ∈ wsX60, w ∈ wsX6_ranked := by decide +kernel
  refine lv_aload_n hx hb dX6_ranked_0 rfl (lv_at hl 0 rfl) ?_
  refine va_get (D := D) (ci := 4) (C := RX6) (T := TX6) (N := 5) hx hb hts hinX6 hown hK hP 0 rfl rfl 0 (by decide) (hts (.fieldLink RX6 10 "NearRanks" "row" "LNearRanks$Row;") (by decide +kernel)) (fun _ h9 => h9) rfl dX6_ranked_1 ?_
  refine lv_iload_n hx hb dX6_ranked_4 rfl (lv_at hl 1 rfl) ?_
  refine wv_callPi (As := [.int z]) (rest := []) ⟨hx, hb, hml, hown, hts⟩ (kX3_placeOfRank l D r va na ra cJ cI v nu rk n b fl me st lk cm z (by first | assumption | omega)) (cwV 1 hts gX6_ranked_X3_placeOfRank rfl rfl rfl (by decide +kernel) ⟨Nat.le_of_ble_eq_true rfl, Nat.le_of_ble_eq_true rfl⟩) hK hN hP hS hA [1, 2, 3, 4] [0, 1] rfl rfl 1 2 rfl rfl rfl rfl hl.1 rfl (Nat.le_of_ble_eq_true rfl) dX6_ranked_5 ⟨Nat.zero_le _, Nat.zero_le _⟩ (fun H locs hz9 hP hS => ?_)
  refine wv_ti (y := (-1000)) (by rw [hp]; rfl) ?_
  refine lv_istore_n (lv' := [(2, .int (-1000)), (0, .ref x9), (1, .int z)]) hx hb dX6_ranked_8 rfl hl (by decide) rfl (fun ls hl => ?_)
  refine lv_aload_n hx hb dX6_ranked_9 rfl (lv_at hl 1 rfl) ?_
  refine va_get (D := D) (ci := 4) (C := RX6) (T := TX6) (N := 5) hx hb hts hinX6 hown hK hP 0 rfl rfl 0 (by decide) (hts (.fieldLink RX6 10 "NearRanks" "row" "LNearRanks$Row;") (by decide +kernel)) (fun _ h9 => h9) rfl dX6_ranked_10 ?_
  refine lv_iload_n hx hb dX6_ranked_13 rfl (lv_at hl 0 rfl) ?_
  refine wv_callPi (As := [.int (-1000)]) (rest := []) ⟨hx, hb, hml, hown, hts⟩ (kX3_isPlace l D r va na ra cJ cI v nu rk n b fl me st lk cm (-1000)) (cwV 1 hts gX6_ranked_X3_isPlace rfl rfl rfl (by decide +kernel) ⟨Nat.le_of_ble_eq_true rfl, Nat.le_of_ble_eq_true rfl⟩) hK hN hP hS hA [1, 2, 3, 4] [0, 1] rfl rfl 1 2 rfl rfl rfl rfl hl.1 rfl (Nat.le_of_ble_eq_true rfl) dX6_ranked_14 ⟨Nat.zero_le _, Nat.zero_le _⟩ (fun H locs hz9 hP hS => ?_)
  refine wv_ti (y := bI false) (by rw [inR_m n]) ?_
  refine wv_ifneB (tgt := 30) hx hb dX6_ranked_17 (by decide) (fun h => by cases h) (fun _ => ?_)
  exact wv_throw (text := "no element with this rank") (ik := 98) (is := 158) (ic := 102) hlst hx hb hown hlocks hno hX hS rfl (by decide +kernel) (hts (.classLink RX6 98 "java/lang/IndexOutOfBoundsException") (by decide +kernel)) (hts (.initialized "java/lang/IndexOutOfBoundsException") (by decide +kernel)) (by decide +kernel) (fun w h => hts w (List.mem_cons_of_mem _ (List.mem_append_right _ h))) (by decide +kernel) (by decide +kernel) (hl.1.trans hml.symm) dX6_ranked_20 dX6_ranked_23 dX6_ranked_24 dX6_ranked_26 dX6_ranked_29 (Nat.le_of_ble_eq_true rfl) (Nat.le_of_ble_eq_true rfl) (Nat.le_of_ble_eq_true rfl) (Nat.le_of_ble_eq_true rfl)

set_option maxHeartbeats 4000000 in
set_option maxRecDepth 100000 in
theorem kX6_element_throw (l : Launch) (D : va_G) (x9 : Nat) (r : Nat) (r2 : Nat) (q : Nat) (co : Nat) (h : Nat) (va : Nat) (na : Nat) (ra : Nat) (cJ : ClassId) (cI : ClassId) (v : Nat → Int64) (nu : Nat → Int32) (rk : Nat → Int32) (n : Nat) (b : Nat) (fl : Bool) (me : Bool) (st : Int32) (lk : Int32) (cm : Int32) (z : Int32) (y : Int32) (hlst : l.stackTraces = false) (hn : n ≤ 32) (hz : inR z n = false) : XM l yX6_element wsX6_element ({ frames := 7, cells := 1, slots := 6, locals := 111 } : Room) [.ref x9, .int z, .int y] D ((ObjC x9 r r2 q co h) ++ (RowC r va na ra cJ cI v nu rk n b fl me st lk cm)) [(cJ, .long), (cI, .int)] "java/lang/IndexOutOfBoundsException" := by
  refine XM_of (cc := cX6_element) (maxL := 3) (ret := some .int) (by decide +kernel) rfl (Nat.le_of_ble_eq_true rfl) ?_
  intro p e s m args below meth c hx hb hr hts hown hlocks hml hno hP hK hN hX ls hl
  have hown : s.vm.findClass RX6 = some m.cls := hown
  have hl : lv_has ls 3 [(0, .ref x9), (1, .int z), (2, .int y)] := hl
  have hS : va_S (va_A [] s.heap.size) s.heap s.heap [] := va_S.rf
  have hA := wk_hA [] s.heap.size
  have hD9 : True := trivial
  refine lv_aload_n hx hb dX6_element_0 rfl (lv_at hl 0 rfl) ?_
  refine lv_iload_n hx hb dX6_element_1 rfl (lv_at hl 1 rfl) ?_
  refine wv_callX (As := [.int z]) (rest := []) ⟨hx, hb, hml, hown, hts⟩ (kX6_requirePlace_throw l D x9 r r2 q co h va na ra cJ cI v nu rk n b fl me st lk cm z (by first | assumption | omega) (by first | assumption | omega) (by first | assumption | omega)) (cwV 1 hts gX6_element_X6_requirePlace rfl rfl rfl (by decide +kernel) ⟨Nat.le_of_ble_eq_true rfl, Nat.le_of_ble_eq_true rfl⟩) hK hN hX hP hS hA [0, 1, 2, 3, 4] [0, 1] rfl rfl (va_recv (q0 := 0) (ci := 4) hK hP rfl rfl) rfl hl.1 rfl (Nat.le_of_ble_eq_true rfl) dX6_element_2 ⟨Nat.le_of_ble_eq_true rfl, Nat.le_of_ble_eq_true rfl⟩ (fun ce q9 H locs hz9 hP hS hce hcv hcl => ?_)
  exact wv_outX hno hlocks hS hce hcv hcl

set_option maxHeartbeats 4000000 in
set_option maxRecDepth 100000 in
theorem kX6_element_bad (l : Launch) (D : va_G) (x9 : Nat) (r : Nat) (r2 : Nat) (q : Nat) (co : Nat) (h : Nat) (va : Nat) (na : Nat) (ra : Nat) (cJ : ClassId) (cI : ClassId) (v : Nat → Int64) (nu : Nat → Int32) (rk : Nat → Int32) (n : Nat) (b : Nat) (fl : Bool) (me : Bool) (st : Int32) (lk : Int32) (cm : Int32) (k : Nat) (y : Int32) (hlst : l.stackTraces = false) (hn : n ≤ 32) (hk : k < n) (hy : opn y 5 = false) : XM l yX6_element wsX6_element ({ frames := 6, cells := 1, slots := 6, locals := 90 } : Room) [.ref x9, .int (nI k), .int y] D ((ObjC x9 r r2 q co h) ++ (RowC r va na ra cJ cI v nu rk n b fl me st lk cm)) [(cJ, .long), (cI, .int)] "java/lang/IllegalArgumentException" := by
  refine XM_of (cc := cX6_element) (maxL := 3) (ret := some .int) (by decide +kernel) rfl (Nat.le_of_ble_eq_true rfl) ?_
  intro p e s m args below meth c hx hb hr hts hown hlocks hml hno hP hK hN hX ls hl
  have hown : s.vm.findClass RX6 = some m.cls := hown
  have hl : lv_has ls 3 [(0, .ref x9), (1, .int (nI k)), (2, .int y)] := hl
  have hS : va_S (va_A [] s.heap.size) s.heap s.heap [] := va_S.rf
  have hA := wk_hA [] s.heap.size
  have hD9 : True := trivial
  refine lv_aload_n hx hb dX6_element_0 rfl (lv_at hl 0 rfl) ?_
  refine lv_iload_n hx hb dX6_element_1 rfl (lv_at hl 1 rfl) ?_
  refine wv_callPv (As := [.int (nI k)]) (rest := []) ⟨hx, hb, hml, hown, hts⟩ (kX6_requirePlace l D x9 r r2 q co h va na ra cJ cI v nu rk n b fl me st lk cm k (by first | assumption | omega) (by first | assumption | omega)) (cwV 1 hts gX6_element_X6_requirePlace rfl rfl rfl (by decide +kernel) ⟨Nat.le_of_ble_eq_true rfl, Nat.le_of_ble_eq_true rfl⟩) hK hN hP hS hA [0, 1, 2, 3, 4] [0, 1] rfl rfl 0 4 rfl rfl rfl rfl hl.1 rfl (Nat.le_of_ble_eq_true rfl) dX6_element_2 ⟨Nat.zero_le _, Nat.zero_le _⟩ (fun H locs hz9 hP hS => ?_)
  refine lv_iload_n hx hb dX6_element_5 rfl (lv_at hl 2 rfl) ?_
  refine lv_if_lt (tgt := 14) hx hb dX6_element_6 (by decide) (fun c6 => ?_) (fun c6 => ?_)
  · skip
    exact wv_throw (text := "no such value of an element") (ik := 67) (is := 146) (ic := 71) hlst hx hb hown hlocks hno hX hS rfl (by decide +kernel) (hts (.classLink RX6 67 "java/lang/IllegalArgumentException") (by decide +kernel)) (hts (.initialized "java/lang/IllegalArgumentException") (by decide +kernel)) (by decide +kernel) (fun w h => hts w (List.mem_cons_of_mem _ (List.mem_append_left _ (List.mem_append_right _ h)))) (by decide +kernel) (by decide +kernel) (hl.1.trans hml.symm) dX6_element_14 dX6_element_17 dX6_element_18 dX6_element_20 dX6_element_23 (Nat.le_of_ble_eq_true rfl) (Nat.le_of_ble_eq_true rfl) (Nat.le_of_ble_eq_true rfl) (Nat.le_of_ble_eq_true rfl)
  · skip
    refine lv_iload_n hx hb dX6_element_9 rfl (lv_at hl 2 rfl) ?_
    refine lv_iconst (v := nI 5) hx hb dX6_element_10 (by decide) ?_
    refine lv_icmp_le (tgt := 24) hx hb dX6_element_11 (by decide) (fun c11 => by exfalso; exact opn_no hy c6 c11) (fun c11 => ?_)
    exact wv_throw (text := "no such value of an element") (ik := 67) (is := 146) (ic := 71) hlst hx hb hown hlocks hno hX hS rfl (by decide +kernel) (hts (.classLink RX6 67 "java/lang/IllegalArgumentException") (by decide +kernel)) (hts (.initialized "java/lang/IllegalArgumentException") (by decide +kernel)) (by decide +kernel) (fun w h => hts w (List.mem_cons_of_mem _ (List.mem_append_left _ (List.mem_append_right _ h)))) (by decide +kernel) (by decide +kernel) (hl.1.trans hml.symm) dX6_element_14 dX6_element_17 dX6_element_18 dX6_element_20 dX6_element_23 (Nat.le_of_ble_eq_true rfl) (Nat.le_of_ble_eq_true rfl) (Nat.le_of_ble_eq_true rfl) (Nat.le_of_ble_eq_true rfl)

set_option maxHeartbeats 4000000 in
set_option maxRecDepth 100000 in
theorem kX6_whole_throw (l : Launch) (D : va_G) (x9 : Nat) (r : Nat) (r2 : Nat) (q : Nat) (co : Nat) (h : Nat) (y : Int32) (hlst : l.stackTraces = false) (hy : opn y 11 = false) : XM l yX6_whole wsX6_whole ({ frames := 6, cells := 1, slots := 6, locals := 90 } : Room) [.ref x9, .int y] D (ObjC x9 r r2 q co h) [] "java/lang/IllegalArgumentException" := by
  refine XM_of (cc := cX6_whole) (maxL := 2) (ret := some .int) (by decide +kernel) rfl (Nat.le_of_ble_eq_true rfl) ?_
  intro p e s m args below meth c hx hb hr hts hown hlocks hml hno hP hK hN hX ls hl
  have hown : s.vm.findClass RX6 = some m.cls := hown
  have hl : lv_has ls 2 [(0, .ref x9), (1, .int y)] := hl
  have hS : va_S (va_A [] s.heap.size) s.heap s.heap [] := va_S.rf
  have hA := wk_hA [] s.heap.size
  have hD9 : True := trivial
  refine lv_iload_n hx hb dX6_whole_0 rfl (lv_at hl 1 rfl) ?_
  refine lv_if_lt (tgt := 10) hx hb dX6_whole_1 (by decide) (fun c1 => ?_) (fun c1 => ?_)
  · skip
    exact wv_throw (text := "no such value of the whole") (ik := 67) (is := 164) (ic := 71) hlst hx hb hown hlocks hno hX hS rfl (by decide +kernel) (hts (.classLink RX6 67 "java/lang/IllegalArgumentException") (by decide +kernel)) (hts (.initialized "java/lang/IllegalArgumentException") (by decide +kernel)) (by decide +kernel) (fun w h => hts w (List.mem_cons_of_mem _ (List.mem_append_right _ h))) (by decide +kernel) (by decide +kernel) (hl.1.trans hml.symm) dX6_whole_10 dX6_whole_13 dX6_whole_14 dX6_whole_16 dX6_whole_19 (Nat.le_of_ble_eq_true rfl) (Nat.le_of_ble_eq_true rfl) (Nat.le_of_ble_eq_true rfl) (Nat.le_of_ble_eq_true rfl)
  · skip
    refine lv_iload_n hx hb dX6_whole_4 rfl (lv_at hl 1 rfl) ?_
    refine lv_bipush (v := nI 11) hx hb dX6_whole_5 (by decide) ?_
    refine lv_icmp_le (tgt := 20) hx hb dX6_whole_7 (by decide) (fun c7 => by exfalso; exact opn_no hy c1 c7) (fun c7 => ?_)
    exact wv_throw (text := "no such value of the whole") (ik := 67) (is := 164) (ic := 71) hlst hx hb hown hlocks hno hX hS rfl (by decide +kernel) (hts (.classLink RX6 67 "java/lang/IllegalArgumentException") (by decide +kernel)) (hts (.initialized "java/lang/IllegalArgumentException") (by decide +kernel)) (by decide +kernel) (fun w h => hts w (List.mem_cons_of_mem _ (List.mem_append_right _ h))) (by decide +kernel) (by decide +kernel) (hl.1.trans hml.symm) dX6_whole_10 dX6_whole_13 dX6_whole_14 dX6_whole_16 dX6_whole_19 (Nat.le_of_ble_eq_true rfl) (Nat.le_of_ble_eq_true rfl) (Nat.le_of_ble_eq_true rfl) (Nat.le_of_ble_eq_true rfl)
