/-! The class: the value with a rank. -/
set_option maxHeartbeats 4000000 in
set_option maxRecDepth 100000 in
theorem kX6_ranked (l : Launch) (D : va_G) (x9 : Nat) (r : Nat) (r2 : Nat) (q : Nat) (co : Nat) (h : Nat) (va : Nat) (na : Nat) (ra : Nat) (cJ : ClassId) (cI : ClassId) (v : Nat → Int64) (nu : Nat → Int32) (rk : Nat → Int32) (n : Nat) (b : Nat) (fl : Bool) (me : Bool) (st : Int32) (lk : Int32) (cm : Int32) (z : Int32) (p1 : Nat) (hn : n ≤ 32) (hp : fst0 (fun o => decide (rk o = z)) n = some p1) (hp1 : p1 < n) : PMl l yX6_ranked wsX6_ranked ({ frames := 1, cells := 0, slots := 0, locals := 22 } : Room) [.ref x9, .int z] D ((ObjC x9 r r2 q co h) ++ (RowC r va na ra cJ cI v nu rk n b fl me st lk cm)) [(cJ, .long), (cI, .int)] (v p1) := by
  refine PMl_of (cc := cX6_ranked) (maxL := 3) (ret := some .long) (by decide +kernel) rfl (Nat.le_of_ble_eq_true rfl) ?_
  intro p e s m args below meth c hx hb hr hts hown hlocks hml hP hK hN ls hl
  have hown : s.vm.findClass RX6 = some m.cls := hown
  have hl : lv_has ls 3 [(0, .ref x9), (1, .int z)] := hl
  have hS : va_S (va_A [] s.heap.size) s.heap s.heap [] := va_S.rf
  have hA := wk_hA [] s.heap.size
  have hD9 : True := trivial
  have hinX6 : ∀ w ∈ wsX60, w ∈ wsX6_ranked := by decide +kernel
  have hinX3 : ∀ w ∈ wsX30, w ∈ wsX6_ranked := by decide +kernel
  refine lv_aload_n hx hb dX6_ranked_0 rfl (lv_at hl 0 rfl) ?_
  refine va_get (D := D) (ci := 4) (C := RX6) (T := TX6) (N := 5) hx hb hts hinX6 hown hK hP 0 rfl rfl 0 (by decide) (hts (.fieldLink RX6 10 "NearRanks" "row" "LNearRanks$Row;") (by decide +kernel)) (fun _ h9 => h9) rfl dX6_ranked_1 ?_
  refine lv_iload_n hx hb dX6_ranked_4 rfl (lv_at hl 1 rfl) ?_
  refine wv_callPi (As := [.int z]) (rest := []) ⟨hx, hb, hml, hown, hts⟩ (kX3_placeOfRank l D r va na ra cJ cI v nu rk n b fl me st lk cm z (by first | assumption | omega)) (cwV 1 hts gX6_ranked_X3_placeOfRank rfl rfl rfl (by decide +kernel) ⟨Nat.le_of_ble_eq_true rfl, Nat.le_of_ble_eq_true rfl⟩) hK hN hP hS hA [1, 2, 3, 4] [0, 1] rfl rfl 1 2 rfl rfl rfl rfl hl.1 rfl (Nat.le_of_ble_eq_true rfl) dX6_ranked_5 ⟨Nat.zero_le _, Nat.zero_le _⟩ (fun H locs hz9 hP hS => ?_)
  refine wv_ti (y := nI p1) (by rw [hp]; rfl) ?_
  refine lv_istore_n (lv' := [(2, .int (nI p1)), (0, .ref x9), (1, .int z)]) hx hb dX6_ranked_8 rfl hl (by decide) rfl (fun ls hl => ?_)
  refine lv_aload_n hx hb dX6_ranked_9 rfl (lv_at hl 1 rfl) ?_
  refine va_get (D := D) (ci := 4) (C := RX6) (T := TX6) (N := 5) hx hb hts hinX6 hown hK hP 0 rfl rfl 0 (by decide) (hts (.fieldLink RX6 10 "NearRanks" "row" "LNearRanks$Row;") (by decide +kernel)) (fun _ h9 => h9) rfl dX6_ranked_10 ?_
  refine lv_iload_n hx hb dX6_ranked_13 rfl (lv_at hl 0 rfl) ?_
  refine wv_callPi (As := [.int (nI p1)]) (rest := []) ⟨hx, hb, hml, hown, hts⟩ (kX3_isPlace l D r va na ra cJ cI v nu rk n b fl me st lk cm (nI p1)) (cwV 1 hts gX6_ranked_X3_isPlace rfl rfl rfl (by decide +kernel) ⟨Nat.le_of_ble_eq_true rfl, Nat.le_of_ble_eq_true rfl⟩) hK hN hP hS hA [1, 2, 3, 4] [0, 1] rfl rfl 1 2 rfl rfl rfl rfl hl.1 rfl (Nat.le_of_ble_eq_true rfl) dX6_ranked_14 ⟨Nat.zero_le _, Nat.zero_le _⟩ (fun H locs hz9 hP hS => ?_)
  refine wv_ti (y := bI true) (by rw [inR_t hp1 (by omega)]) ?_
  refine wv_ifneB (tgt := 30) hx hb dX6_ranked_17 (by decide) (fun _ => ?_) (fun h => by cases h)
  refine lv_aload_n hx hb dX6_ranked_30 rfl (lv_at hl 1 rfl) ?_
  refine va_get (D := D) (ci := 4) (C := RX6) (T := TX6) (N := 5) hx hb hts hinX6 hown hK hP 0 rfl rfl 0 (by decide) (hts (.fieldLink RX6 10 "NearRanks" "row" "LNearRanks$Row;") (by decide +kernel)) (fun _ h9 => h9) rfl dX6_ranked_31 ?_
  refine va_getN (D := D) (ci := 2) (C := RX3) (T := TX3) (N := 10) hx hb hts hinX3 hown hK hP 1 rfl rfl 0 (by decide) (hN.use (w := .fieldLinkNest "NearRanks" 88 "NearRanks$Row" "values" "[J" "NearRanks") (by decide +kernel) rfl) (fun _ h9 => h9) rfl dX6_ranked_34 ?_
  refine lv_iload_n hx hb dX6_ranked_37 rfl (lv_at hl 0 rfl) ?_
  refine wv_lald hx hb hK hP 2 0 rfl rfl (k := p1) (by omega) (by decide) dX6_ranked_38 ?_
  exact wv_lretP hx hb hr hlocks hS rfl dX6_ranked_39
