/-! Long.bitCount, and the number of broken elements. -/
set_option maxHeartbeats 4000000 in
set_option maxRecDepth 100000 in
theorem kJ13_bitCount_95d88 (l : Launch) (D : va_G) (a : Nat) (ha : a < 2 ^ 32) : PMi l yJ13_bitCount_95d88 wsJ13_bitCount_95d88 ({ frames := 0, cells := 0, slots := 0, locals := 0 } : Room) [.long (lN a)] D ([]) [] (nI (pcs a)) := by
  refine PMi_of (cc := cJ13_bitCount_95d88) (maxL := 2) (ret := some .int) (by decide +kernel) rfl (Nat.le_of_ble_eq_true rfl) ?_
  intro p e s m args below meth c hx hb hr hts hown hlocks hml hP hK hN ls hl
  have hown : s.vm.findClass RJ13 = some m.cls := hown
  have hl : lv_has ls 2 [(0, .long (lN a))] := hl
  have hS : va_S (va_A [] s.heap.size) s.heap s.heap [] := va_S.rf
  have hA := wk_hA [] s.heap.size
  have hD9 : True := trivial
  refine lv_lload_n hx hb dJ13_bitCount_95d88_0 rfl (lv_at hl 0 rfl) ?_
  refine lv_lload_n hx hb dJ13_bitCount_95d88_1 rfl (lv_at hl 0 rfl) ?_
  refine lv_iconst (v := nI 1) hx hb dJ13_bitCount_95d88_2 (by decide) ?_
  refine lv_lushr (v := lN (a / 2)) hx hb dJ13_bitCount_95d88_3 (by exact wb_shr (k := 1) (by omega) (by decide)) ?_
  refine lv_ldc2 (v := lN 6148914691236517205) hx hb hown (hts (.constantLong RJ13 314 (6148914691236517205)) (by decide +kernel)) dJ13_bitCount_95d88_4 ?_
  refine lv_land hx hb dJ13_bitCount_95d88_7 ?_
  refine wv_tl (fb_andL _ _) ?_
  refine lv_lsub hx hb dJ13_bitCount_95d88_8 ?_
  refine wv_tl (lN_sub (by have := @Nat.and_le_left (a / 2) 6148914691236517205; omega)) ?_
  obtain ⟨a1, ea1⟩ : ∃ z : Nat, z = a - ((a / 2) &&& 6148914691236517205) := ⟨_, rfl⟩
  refine wv_tl (y := lN a1) (by rw [ea1]) ?_
  refine lv_lstore_n (lv' := [(0, .long (lN a1))]) hx hb dJ13_bitCount_95d88_9 rfl hl (by decide) rfl (fun ls hl => ?_)
  refine lv_lload_n hx hb dJ13_bitCount_95d88_10 rfl (lv_at hl 0 rfl) ?_
  refine lv_ldc2 (v := lN 3689348814741910323) hx hb hown (hts (.constantLong RJ13 316 (3689348814741910323)) (by decide +kernel)) dJ13_bitCount_95d88_11 ?_
  refine lv_land hx hb dJ13_bitCount_95d88_14 ?_
  refine wv_tl (fb_andL _ _) ?_
  refine lv_lload_n hx hb dJ13_bitCount_95d88_15 rfl (lv_at hl 0 rfl) ?_
  refine lv_iconst (v := nI 2) hx hb dJ13_bitCount_95d88_16 (by decide) ?_
  refine lv_lushr (v := lN (a1 / 4)) hx hb dJ13_bitCount_95d88_17 (by exact wb_shr (k := 2) (by omega) (by decide)) ?_
  refine lv_ldc2 (v := lN 3689348814741910323) hx hb hown (hts (.constantLong RJ13 316 (3689348814741910323)) (by decide +kernel)) dJ13_bitCount_95d88_18 ?_
  refine lv_land hx hb dJ13_bitCount_95d88_21 ?_
  refine wv_tl (fb_andL _ _) ?_
  refine lv_ladd hx hb dJ13_bitCount_95d88_22 ?_
  refine wv_tl (lN_add _ _) ?_
  obtain ⟨a2, ea2⟩ : ∃ z : Nat, z = (a1 &&& 3689348814741910323) + ((a1 / 4) &&& 3689348814741910323) := ⟨_, rfl⟩
  refine wv_tl (y := lN a2) (by rw [ea2]) ?_
  have ba2 : a2 ≤ 2 * a1 := by rw [ea2]; have := @Nat.and_le_left a1 3689348814741910323; have := @Nat.and_le_left (a1 / 4) 3689348814741910323; omega
  refine lv_lstore_n (lv' := [(0, .long (lN a2))]) hx hb dJ13_bitCount_95d88_23 rfl hl (by decide) rfl (fun ls hl => ?_)
  refine lv_lload_n hx hb dJ13_bitCount_95d88_24 rfl (lv_at hl 0 rfl) ?_
  refine lv_lload_n hx hb dJ13_bitCount_95d88_25 rfl (lv_at hl 0 rfl) ?_
  refine lv_iconst (v := nI 4) hx hb dJ13_bitCount_95d88_26 (by decide) ?_
  refine lv_lushr (v := lN (a2 / 16)) hx hb dJ13_bitCount_95d88_27 (by exact wb_shr (k := 4) (by omega) (by decide)) ?_
  refine lv_ladd hx hb dJ13_bitCount_95d88_28 ?_
  refine wv_tl (lN_add _ _) ?_
  refine lv_ldc2 (v := lN 1085102592571150095) hx hb hown (hts (.constantLong RJ13 318 (1085102592571150095)) (by decide +kernel)) dJ13_bitCount_95d88_29 ?_
  refine lv_land hx hb dJ13_bitCount_95d88_32 ?_
  refine wv_tl (fb_andL _ _) ?_
  obtain ⟨a3, ea3⟩ : ∃ z : Nat, z = (a2 + (a2 / 16)) &&& 1085102592571150095 := ⟨_, rfl⟩
  refine wv_tl (y := lN a3) (by rw [ea3]) ?_
  have ba3 : a3 ≤ a2 + a2 / 16 := by rw [ea3]; exact Nat.and_le_left
  refine lv_lstore_n (lv' := [(0, .long (lN a3))]) hx hb dJ13_bitCount_95d88_33 rfl hl (by decide) rfl (fun ls hl => ?_)
  refine lv_lload_n hx hb dJ13_bitCount_95d88_34 rfl (lv_at hl 0 rfl) ?_
  refine lv_lload_n hx hb dJ13_bitCount_95d88_35 rfl (lv_at hl 0 rfl) ?_
  refine lv_bipush (v := nI 8) hx hb dJ13_bitCount_95d88_36 (by decide) ?_
  refine lv_lushr (v := lN (a3 / 256)) hx hb dJ13_bitCount_95d88_38 (by exact wb_shr (k := 8) (by omega) (by decide)) ?_
  refine lv_ladd hx hb dJ13_bitCount_95d88_39 ?_
  refine wv_tl (lN_add _ _) ?_
  obtain ⟨a4, ea4⟩ : ∃ z : Nat, z = a3 + (a3 / 256) := ⟨_, rfl⟩
  refine wv_tl (y := lN a4) (by rw [ea4]) ?_
  refine lv_lstore_n (lv' := [(0, .long (lN a4))]) hx hb dJ13_bitCount_95d88_40 rfl hl (by decide) rfl (fun ls hl => ?_)
  refine lv_lload_n hx hb dJ13_bitCount_95d88_41 rfl (lv_at hl 0 rfl) ?_
  refine lv_lload_n hx hb dJ13_bitCount_95d88_42 rfl (lv_at hl 0 rfl) ?_
  refine lv_bipush (v := nI 16) hx hb dJ13_bitCount_95d88_43 (by decide) ?_
  refine lv_lushr (v := lN (a4 / 65536)) hx hb dJ13_bitCount_95d88_45 (by exact wb_shr (k := 16) (by omega) (by decide)) ?_
  refine lv_ladd hx hb dJ13_bitCount_95d88_46 ?_
  refine wv_tl (lN_add _ _) ?_
  obtain ⟨a5, ea5⟩ : ∃ z : Nat, z = a4 + (a4 / 65536) := ⟨_, rfl⟩
  refine wv_tl (y := lN a5) (by rw [ea5]) ?_
  refine lv_lstore_n (lv' := [(0, .long (lN a5))]) hx hb dJ13_bitCount_95d88_47 rfl hl (by decide) rfl (fun ls hl => ?_)
  refine lv_lload_n hx hb dJ13_bitCount_95d88_48 rfl (lv_at hl 0 rfl) ?_
  refine lv_lload_n hx hb dJ13_bitCount_95d88_49 rfl (lv_at hl 0 rfl) ?_
  refine lv_bipush (v := nI 32) hx hb dJ13_bitCount_95d88_50 (by decide) ?_
  refine lv_lushr (v := lN (a5 / 4294967296)) hx hb dJ13_bitCount_95d88_52 (by exact wb_shr (k := 32) (by omega) (by decide)) ?_
  refine lv_ladd hx hb dJ13_bitCount_95d88_53 ?_
  refine wv_tl (lN_add _ _) ?_
  obtain ⟨a6, ea6⟩ : ∃ z : Nat, z = a5 + (a5 / 4294967296) := ⟨_, rfl⟩
  refine wv_tl (y := lN a6) (by rw [ea6]) ?_
  refine lv_lstore_n (lv' := [(0, .long (lN a6))]) hx hb dJ13_bitCount_95d88_54 rfl hl (by decide) rfl (fun ls hl => ?_)
  refine lv_lload_n hx hb dJ13_bitCount_95d88_55 rfl (lv_at hl 0 rfl) ?_
  refine lv_l2i (v := nI a6) hx hb dJ13_bitCount_95d88_56 (lN_i _) ?_
  refine lv_bipush (v := nI 127) hx hb dJ13_bitCount_95d88_57 (by decide) ?_
  refine lv_iand hx hb dJ13_bitCount_95d88_59 ?_
  refine wv_ti (y := nI (a6 % 128)) (by exact fa_mask _ 7) ?_
  exact wv_iretP hx hb hr hlocks hS (by subst ea6; subst ea5; subst ea4; subst ea3; subst ea2; subst ea1; rfl) dJ13_bitCount_95d88_60

set_option maxHeartbeats 4000000 in
set_option maxRecDepth 100000 in
theorem kX3_brokenCount (l : Launch) (D : va_G) (r : Nat) (va : Nat) (na : Nat) (ra : Nat) (cJ : ClassId) (cI : ClassId) (v : Nat → Int64) (nu : Nat → Int32) (rk : Nat → Int32) (n : Nat) (b : Nat) (fl : Bool) (me : Bool) (st : Int32) (lk : Int32) (cm : Int32) (hn : n ≤ 32) (hb : b ≤ 31) (hrk : ∀ i, i < n → rk i = nI (rk0 fl v n i)) : PMi l yX3_brokenCount wsX3_brokenCount ({ frames := 4, cells := 0, slots := 0, locals := 86 } : Room) [.ref r] D (RowC r va na ra cJ cI v nu rk n b fl me st lk cm) [(cJ, .long), (cI, .int)] (nI (cnt (brk fl v n b) n)) := by
  refine PMi_of (cc := cX3_brokenCount) (maxL := 1) (ret := some .int) (by decide +kernel) rfl (Nat.le_of_ble_eq_true rfl) ?_
  intro p e s m args below meth c hx hb hr hts hown hlocks hml hP hK hN ls hl
  have hown : s.vm.findClass RX3 = some m.cls := hown
  have hl : lv_has ls 1 [(0, .ref r)] := hl
  have hS : va_S (va_A [] s.heap.size) s.heap s.heap [] := va_S.rf
  have hA := wk_hA [] s.heap.size
  have hD9 : True := trivial
  refine lv_aload_n hx hb dX3_brokenCount_0 rfl (lv_at hl 0 rfl) ?_
  refine wv_callPl (As := []) (rest := []) ⟨hx, hb, hml, hown, hts⟩ (kX3_brokenSet l D r va na ra cJ cI v nu rk n b fl me st lk cm (by first | assumption | omega) (by first | assumption | omega) (by first | assumption | omega)) (cwV 0 hts gX3_brokenCount_X3_brokenSet rfl rfl rfl (by decide +kernel) ⟨Nat.le_of_ble_eq_true rfl, Nat.le_of_ble_eq_true rfl⟩) hK hN hP hS hA [0, 1, 2, 3] [0, 1] rfl rfl 0 2 rfl rfl rfl rfl hl.1 rfl (Nat.le_of_ble_eq_true rfl) dX3_brokenCount_1 ⟨Nat.zero_le _, Nat.zero_le _⟩ (fun H locs hz9 hP hS => ?_)
  refine wv_tl (y := lN (bsN (brk fl v n b) n)) (pcs_bst fl v b hn).1 ?_
  refine wv_callSi (As := [.long (lN (bsN (brk fl v n b) n))]) (rest := []) ⟨hx, hb, hml, hown, hts⟩ (kJ13_bitCount_95d88 l D (bsN (brk fl v n b) n) (Nat.lt_of_lt_of_le (bsN_lt _ n) (Nat.pow_le_pow_right (by decide) hn))) (va_cwS 1 hts gX3_brokenCount_J13_bitCount_95d88 rfl rfl rfl (by decide +kernel) ⟨Nat.le_of_ble_eq_true rfl, Nat.le_of_ble_eq_true rfl⟩) hK hN hP hS hA [] [] rfl rfl rfl hl.1 rfl (Nat.le_of_ble_eq_true rfl) dX3_brokenCount_4 ⟨Nat.zero_le _, Nat.zero_le _⟩ (fun H locs hz9 hP hS => ?_)
  refine wv_ti (y := nI (cnt (brk fl v n b) n)) (by rw [(pcs_bst fl v b hn).2]) ?_
  exact wv_iretP hx hb hr hlocks hS rfl dX3_brokenCount_7
