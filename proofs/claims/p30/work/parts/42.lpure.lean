/-! The law: its own methods that change nothing. -/
set_option maxHeartbeats 4000000 in
set_option maxRecDepth 100000 in
theorem kL_low (l : Launch) (D : va_G) (x : Int32) (mm : Nat) (hm : 0 < mm) (hm2 : mm < 2 ^ 31) : PMi l yL_low wsL_low ({ frames := 0, cells := 0, slots := 0, locals := 0 } : Room) [.int x, .int (nI mm)] D ([]) [] (nI (lo31 x % mm)) := by
  refine PMi_of (cc := cL_low) (maxL := 2) (ret := some .int) (by decide +kernel) rfl (Nat.le_of_ble_eq_true rfl) ?_
  intro p e s m args below meth c hx hb hr hts hown hlocks hml hP hK hN ls hl
  have hown : s.vm.findClass RL = some m.cls := hown
  have hl : lv_has ls 2 [(0, .int x), (1, .int (nI mm))] := hl
  have hS : va_S (va_A [] s.heap.size) s.heap s.heap [] := va_S.rf
  have hA := wk_hA [] s.heap.size
  have hD9 : True := trivial
  have hlo := lo31_lt x
  refine lv_iload_n hx hb dL_low_0 rfl (lv_at hl 0 rfl) ?_
  refine lv_ldc (v := nI 2147483647) hx hb hown (hts (.constant RL 8 (2147483647)) (by decide +kernel)) dL_low_1 ?_
  refine lv_iand hx hb dL_low_3 ?_
  refine wv_ti (y := nI (lo31 x)) (lo31_e x) ?_
  refine lv_iload_n hx hb dL_low_4 rfl (lv_at hl 1 rfl) ?_
  refine lv_irem hx hb dL_low_5 (nI_ne0 (by omega) (by omega)) ?_
  refine wv_ti (pk_rem (by omega) (by omega) (by omega)) ?_
  exact wv_iretP hx hb hr hlocks hS (by rfl) dL_low_6

set_option maxHeartbeats 4000000 in
set_option maxRecDepth 100000 in
theorem kL_value (l : Launch) (D : va_G) (z : Nat) (hz : z < 2 ^ 31) : PMl l yL_value wsL_value ({ frames := 0, cells := 0, slots := 0, locals := 0 } : Room) [.int (nI z)] D ([]) [] (valL z) := by
  refine PMl_of (cc := cL_value) (maxL := 1) (ret := some .long) (by decide +kernel) rfl (Nat.le_of_ble_eq_true rfl) ?_
  intro p e s m args below meth c hx hb hr hts hown hlocks hml hP hK hN ls hl
  have hown : s.vm.findClass RL = some m.cls := hown
  have hl : lv_has ls 1 [(0, .int (nI z))] := hl
  have hS : va_S (va_A [] s.heap.size) s.heap s.heap [] := va_S.rf
  have hA := wk_hA [] s.heap.size
  have hD9 : True := trivial
  refine lv_iload_n hx hb dL_value_0 rfl (lv_at hl 0 rfl) ?_
  refine lv_bipush (v := nI 9) hx hb dL_value_1 (by decide) ?_
  refine lv_irem hx hb dL_value_3 (by decide) ?_
  refine wv_ti (pk_rem (by omega) (by omega) (by omega)) ?_
  refine wv_if_ne (tgt := 24) hx hb (by omega) dL_value_4 (by decide) (fun c4 => ?_) (fun c4 => ?_)
  · skip
    refine lv_iload_n hx hb dL_value_24 rfl (lv_at hl 0 rfl) ?_
    refine lv_bipush (v := nI 9) hx hb dL_value_25 (by decide) ?_
    refine lv_idiv hx hb dL_value_27 (by decide) ?_
    refine wv_ti (pk_div (by omega) (by omega) (by omega)) ?_
    refine lv_bipush (v := nI 24) hx hb dL_value_28 (by decide) ?_
    refine lv_irem hx hb dL_value_30 (by decide) ?_
    refine wv_ti (pk_rem (by omega) (by omega) (by omega)) ?_
    refine lv_bipush (v := nI 8) hx hb dL_value_31 (by decide) ?_
    refine lv_isub hx hb dL_value_33 ?_
    refine lv_i2l (v := ((nI ((z / 9) % 24)) - (nI 8)).toInt64) hx hb dL_value_34 rfl ?_
    exact wv_lretP hx hb hr hlocks hS (by first | (unfold valL; rw [if_pos (by omega)]; done) | (unfold valL; rw [if_neg (by omega)]; done)) dL_value_35
  · skip
    refine lv_ldc2 (v := lN 4000000000000) hx hb hown (hts (.constantLong RL 71 (4000000000000)) (by decide +kernel)) dL_value_7 ?_
    refine lv_iload_n hx hb dL_value_10 rfl (lv_at hl 0 rfl) ?_
    refine lv_bipush (v := nI 9) hx hb dL_value_11 (by decide) ?_
    refine lv_idiv hx hb dL_value_13 (by decide) ?_
    refine wv_ti (pk_div (by omega) (by omega) (by omega)) ?_
    refine lv_bipush (v := nI 7) hx hb dL_value_14 (by decide) ?_
    refine lv_irem hx hb dL_value_16 (by decide) ?_
    refine wv_ti (pk_rem (by omega) (by omega) (by omega)) ?_
    refine lv_iconst (v := nI 3) hx hb dL_value_17 (by decide) ?_
    refine lv_isub hx hb dL_value_18 ?_
    refine lv_i2l (v := ((nI ((z / 9) % 7)) - (nI 3)).toInt64) hx hb dL_value_19 rfl ?_
    refine lv_lmul hx hb dL_value_20 ?_
    refine lv_goto (tgt := 35) hx hb dL_value_21 (by decide) ?_
    exact wv_lretP hx hb hr hlocks hS (by first | (unfold valL; rw [if_pos (by omega)]; done) | (unfold valL; rw [if_neg (by omega)]; done)) dL_value_35

set_option maxHeartbeats 4000000 in
set_option maxRecDepth 100000 in
theorem kL_ahead (l : Launch) (D : va_G) (g : Nat) (cI : ClassId) (n : Nat) (b : Nat) (fl : Bool) (me : Bool) (st : Int32) (lk : Int32) (cm : Int32) (x : Int64) (y : Int64)  : PMi l yL_ahead wsL_ahead ({ frames := 0, cells := 0, slots := 0, locals := 0 } : Room) [.ref g, .long x, .long y] D (GvC g cI n b fl me st lk cm) [(cI, .int)] (bI (ahd fl x y)) := by
  refine PMi_of (cc := cL_ahead) (maxL := 5) (ret := some .boolean) (by decide +kernel) rfl (Nat.le_of_ble_eq_true rfl) ?_
  intro p e s m args below meth c hx hb hr hts hown hlocks hml hP hK hN ls hl
  have hown : s.vm.findClass RL = some m.cls := hown
  have hl : lv_has ls 5 [(0, .ref g), (1, .long x), (3, .long y)] := hl
  have hS : va_S (va_A [] s.heap.size) s.heap s.heap [] := va_S.rf
  have hA := wk_hA [] s.heap.size
  have hD9 : True := trivial
  refine lv_aload_n hx hb dL_ahead_0 rfl (lv_at hl 0 rfl) ?_
  refine lv_iconst (v := nI 2) hx hb dL_ahead_1 (by decide) ?_
  refine wv_iald hx hb hK hP 0 0 rfl rfl (k := 2) (by omega) (by decide) dL_ahead_2 ?_
  refine wv_ti (y := bI fl) rfl ?_
  refine lv_iconst (v := nI 1) hx hb dL_ahead_3 (by decide) ?_
  refine lv_icmp_ne (tgt := 21) hx hb dL_ahead_4 (by decide) (fun c4 => ?_) (fun c4 => ?_)
  · skip
    have hf : fl = false := by cases fl <;> first | rfl | exact absurd rfl c4
    refine lv_lload_n hx hb dL_ahead_21 rfl (lv_at hl 1 rfl) ?_
    refine lv_lload_n hx hb dL_ahead_22 rfl (lv_at hl 2 rfl) ?_
    refine wv_lc_ge (tgt := 31) hx hb dL_ahead_23 dL_ahead_24 (by decide) (fun c24 => ?_) (fun c24 => ?_)
    · skip
      refine lv_iconst (v := nI 0) hx hb dL_ahead_31 (by decide) ?_
      exact wv_zretP (b := false) hx hb hr hlocks hS (rfl : nI 0 = bI false) (by simp [bI, ahd, nI_0, wk_1, *]) dL_ahead_32
    · skip
      refine lv_iconst (v := nI 1) hx hb dL_ahead_27 (by decide) ?_
      refine lv_goto (tgt := 32) hx hb dL_ahead_28 (by decide) ?_
      exact wv_zretP (b := true) hx hb hr hlocks hS (rfl : nI 1 = bI true) (by simp [bI, ahd, nI_0, wk_1, *]) dL_ahead_32
  · skip
    have hf : fl = true := by cases fl <;> first | rfl | exact absurd c4 (by decide)
    refine lv_lload_n hx hb dL_ahead_7 rfl (lv_at hl 2 rfl) ?_
    refine lv_lload_n hx hb dL_ahead_8 rfl (lv_at hl 1 rfl) ?_
    refine wv_lc_ge (tgt := 17) hx hb dL_ahead_9 dL_ahead_10 (by decide) (fun c10 => ?_) (fun c10 => ?_)
    · skip
      refine lv_iconst (v := nI 0) hx hb dL_ahead_17 (by decide) ?_
      refine lv_goto (tgt := 32) hx hb dL_ahead_18 (by decide) ?_
      exact wv_zretP (b := false) hx hb hr hlocks hS (rfl : nI 0 = bI false) (by simp [bI, ahd, nI_0, wk_1, *]) dL_ahead_32
    · skip
      refine lv_iconst (v := nI 1) hx hb dL_ahead_13 (by decide) ?_
      refine lv_goto (tgt := 32) hx hb dL_ahead_14 (by decide) ?_
      exact wv_zretP (b := true) hx hb hr hlocks hS (rfl : nI 1 = bI true) (by simp [bI, ahd, nI_0, wk_1, *]) dL_ahead_32

set_option maxHeartbeats 4000000 in
set_option maxRecDepth 100000 in
theorem kL_off (l : Launch) (D : va_G) (g : Nat) (cI : ClassId) (n : Nat) (b : Nat) (fl : Bool) (me : Bool) (st : Int32) (lk : Int32) (cm : Int32) (vv : Nat) (cJ : ClassId) (v : Nat → Int64) (k : Nat) (hn : n ≤ 32) (hk : k < n) : PMi l yL_off wsL_off ({ frames := 1, cells := 0, slots := 0, locals := 24 } : Room) [.ref g, .ref vv, .int (nI k)] D ((GvC g cI n b fl me st lk cm) ++ (VvC vv cJ v)) [(cJ, .long), (cI, .int)] (dst fl v n k) := by
  refine PMi_of (cc := cL_off) (maxL := 5) (ret := some .int) (by decide +kernel) rfl (Nat.le_of_ble_eq_true rfl) ?_
  intro p e s m args below meth c hx hb hr hts hown hlocks hml hP hK hN ls hl
  have hown : s.vm.findClass RL = some m.cls := hown
  have hl : lv_has ls 5 [(0, .ref g), (1, .ref vv), (2, .int (nI k))] := hl
  have hS : va_S (va_A [] s.heap.size) s.heap s.heap [] := va_S.rf
  have hA := wk_hA [] s.heap.size
  have hD9 : True := trivial
  refine lv_iconst (v := nI 0) hx hb dL_off_0 (by decide) ?_
  refine lv_istore_n (lv' := [(3, .int (nI 0)), (0, .ref g), (1, .ref vv), (2, .int (nI k))]) hx hb dL_off_1 rfl hl (by decide) rfl (fun ls hl => ?_)
  refine lv_iconst (v := nI 0) hx hb dL_off_2 (by decide) ?_
  refine lv_istore (lv' := [(4, .int (nI 0)), (3, .int (nI 0)), (0, .ref g), (1, .ref vv), (2, .int (nI k))]) hx hb dL_off_3 hl (by decide) rfl (fun ls hl => ?_)
  have el_l3 : cnt (rkp fl v k) 0 = 0 := by rfl
  have loop5 : ∀ (K : Nat) (i : Nat), n - i < K → i ≤ n → ∀ (H : Heap) (locs : List Loc), va_P D vwCl ((GvC g cI n b fl me st lk cm) ++ (VvC vv cJ v)) H → va_S (va_A [] s.heap.size) s.heap H locs → ∀ ls : Array Slot, lv_has ls 5 [(0, .ref g), (1, .ref vv), (2, .int (nI k)), (3, .int (nI (cnt (rkp fl v k) i))), (4, .int (nI i))] → W p l e ({ frames := 1, cells := 0, slots := 0, locals := 24 } : Room) s m args below meth c H locs 0 0 (ZPi below args s (dst fl v n k)) (F0 m 5 ls []) := by
    intro K
    induction K with
    | zero => intro i hK0; exact absurd hK0 (Nat.not_lt_zero _)
    | succ K ih5 =>
      intro i hKm hi H locs hP hS ls hl
      refine lv_iload hx hb dL_off_5 (lv_at hl 4 rfl) ?_
      refine lv_aload_n hx hb dL_off_7 rfl (lv_at hl 0 rfl) ?_
      refine lv_iconst (v := nI 0) hx hb dL_off_8 (by decide) ?_
      refine wv_iald hx hb hK hP 0 1 rfl rfl (k := 0) (by omega) (by decide) dL_off_9 ?_
      refine wv_ti (y := nI n) rfl ?_
      refine wv_icmp_ge (tgt := 61) hx hb (by omega) (by omega) dL_off_10 (by decide) (fun c10 => ?_) (fun c10 => ?_)
      · skip
        refine lv_iload_n hx hb dL_off_61 rfl (lv_at hl 2 rfl) ?_
        refine lv_iload_n hx hb dL_off_62 rfl (lv_at hl 3 rfl) ?_
        refine lv_isub hx hb dL_off_63 ?_
        exact wv_iretP hx hb hr hlocks hS (by rw [show i = n by omega]; rfl) dL_off_64
      · skip
        refine lv_iload_n hx hb dL_off_13 rfl (lv_at hl 3 rfl) ?_
        refine lv_aload_n hx hb dL_off_14 rfl (lv_at hl 0 rfl) ?_
        refine lv_aload_n hx hb dL_off_15 rfl (lv_at hl 1 rfl) ?_
        refine lv_iload hx hb dL_off_16 (lv_at hl 4 rfl) ?_
        refine wv_lald hx hb hK hP 1 0 rfl rfl (k := i) (by omega) (by decide) dL_off_18 ?_
        refine lv_aload_n hx hb dL_off_19 rfl (lv_at hl 1 rfl) ?_
        refine lv_iload_n hx hb dL_off_20 rfl (lv_at hl 2 rfl) ?_
        refine wv_lald hx hb hK hP 1 0 rfl rfl (k := k) (by omega) (by decide) dL_off_21 ?_
        refine wv_callSi (As := [.ref g, .long (v i), .long (v k)]) (rest := [.int (nI (cnt (rkp fl v k) i))]) ⟨hx, hb, hml, hown, hts⟩ (kL_ahead l D g cI n b fl me st lk cm (v i) (v k)) (va_cwS 3 hts gL_off_L_ahead rfl rfl rfl (by decide +kernel) ⟨Nat.le_of_ble_eq_true rfl, Nat.le_of_ble_eq_true rfl⟩) hK hN hP hS hA [0] [1] rfl rfl rfl hl.1 rfl (Nat.le_of_ble_eq_true rfl) dL_off_22 ⟨Nat.zero_le _, Nat.zero_le _⟩ (fun H locs hz9 hP hS => ?_)
        refine wv_ifneB (tgt := 48) hx hb dL_off_25 (by decide) (fun c25 => ?_) (fun c25 => ?_)
        · skip
          refine lv_iconst (v := nI 1) hx hb dL_off_48 (by decide) ?_
          refine lv_goto (tgt := 53) hx hb dL_off_49 (by decide) ?_
          refine lv_iadd hx hb dL_off_53 ?_
          refine wv_ti (nI_add _ _) ?_
          refine lv_istore_n (lv' := [(3, .int (nI ((cnt (rkp fl v k) i) + 1))), (0, .ref g), (1, .ref vv), (2, .int (nI k)), (4, .int (nI i))]) hx hb dL_off_54 rfl hl (by decide) rfl (fun ls hl => ?_)
          refine lv_iinc (v := nI (i + 1)) (lv' := [(4, .int (nI (i + 1))), (3, .int (nI ((cnt (rkp fl v k) i) + 1))), (0, .ref g), (1, .ref vv), (2, .int (nI k))]) hx hb dL_off_55 hl (k := 4) rfl (nI_1 _) (by decide) rfl (fun ls hl => ?_)
          refine lv_goto (tgt := 5) hx hb dL_off_58 (by decide) ?_
          have el_l3 : cnt (rkp fl v k) (i + 1) = (cnt (rkp fl v k) i) + 1 := by first | exact cnt_t (rkp_t1 c25) | exact cnt_t (rkp_t2 c31 (ahd_tot c25 c45)) | exact cnt_f (rkp_f (fun z => absurd z.1 (by omega)) c25) | exact cnt_f (rkp_f (fun z => by rw [z.2, ahd_irr] at c45; cases c45) c25)
          exact ih5 (i + 1) (by omega) (by first | assumption | omega) _ _ (by first | (rw [el_l3]; exact hP) | (simp only [el_l3]; exact hP) | exact hP) hS ls (by first | (rw [el_l3]; exact lv_sub hl [2, 3, 4, 1, 0] rfl) | (simp only [el_l3]; exact lv_sub hl [2, 3, 4, 1, 0] rfl) | exact lv_sub hl [2, 3, 4, 1, 0] rfl)
        · skip
          refine lv_iload hx hb dL_off_28 (lv_at hl 4 rfl) ?_
          refine lv_iload_n hx hb dL_off_30 rfl (lv_at hl 2 rfl) ?_
          refine wv_icmp_ge (tgt := 52) hx hb (by omega) (by omega) dL_off_31 (by decide) (fun c31 => ?_) (fun c31 => ?_)
          · skip
            refine lv_iconst (v := nI 0) hx hb dL_off_52 (by decide) ?_
            refine lv_iadd hx hb dL_off_53 ?_
            refine wv_ti (nI_add _ _) ?_
            refine lv_istore_n (lv' := [(3, .int (nI ((cnt (rkp fl v k) i) + 0))), (0, .ref g), (1, .ref vv), (2, .int (nI k)), (4, .int (nI i))]) hx hb dL_off_54 rfl hl (by decide) rfl (fun ls hl => ?_)
            refine lv_iinc (v := nI (i + 1)) (lv' := [(4, .int (nI (i + 1))), (3, .int (nI ((cnt (rkp fl v k) i) + 0))), (0, .ref g), (1, .ref vv), (2, .int (nI k))]) hx hb dL_off_55 hl (k := 4) rfl (nI_1 _) (by decide) rfl (fun ls hl => ?_)
            refine lv_goto (tgt := 5) hx hb dL_off_58 (by decide) ?_
            have el_l3 : cnt (rkp fl v k) (i + 1) = (cnt (rkp fl v k) i) + 0 := by first | exact cnt_t (rkp_t1 c25) | exact cnt_t (rkp_t2 c31 (ahd_tot c25 c45)) | exact cnt_f (rkp_f (fun z => absurd z.1 (by omega)) c25) | exact cnt_f (rkp_f (fun z => by rw [z.2, ahd_irr] at c45; cases c45) c25)
            exact ih5 (i + 1) (by omega) (by first | assumption | omega) _ _ (by first | (rw [el_l3]; exact hP) | (simp only [el_l3]; exact hP) | exact hP) hS ls (by first | (rw [el_l3]; exact lv_sub hl [2, 3, 4, 1, 0] rfl) | (simp only [el_l3]; exact lv_sub hl [2, 3, 4, 1, 0] rfl) | exact lv_sub hl [2, 3, 4, 1, 0] rfl)
          · skip
            refine lv_aload_n hx hb dL_off_34 rfl (lv_at hl 0 rfl) ?_
            refine lv_aload_n hx hb dL_off_35 rfl (lv_at hl 1 rfl) ?_
            refine lv_iload_n hx hb dL_off_36 rfl (lv_at hl 2 rfl) ?_
            refine wv_lald hx hb hK hP 1 0 rfl rfl (k := k) (by omega) (by decide) dL_off_37 ?_
            refine lv_aload_n hx hb dL_off_38 rfl (lv_at hl 1 rfl) ?_
            refine lv_iload hx hb dL_off_39 (lv_at hl 4 rfl) ?_
            refine wv_lald hx hb hK hP 1 0 rfl rfl (k := i) (by omega) (by decide) dL_off_41 ?_
            refine wv_callSi (As := [.ref g, .long (v k), .long (v i)]) (rest := [.int (nI (cnt (rkp fl v k) i))]) ⟨hx, hb, hml, hown, hts⟩ (kL_ahead l D g cI n b fl me st lk cm (v k) (v i)) (va_cwS 3 hts gL_off_L_ahead rfl rfl rfl (by decide +kernel) ⟨Nat.le_of_ble_eq_true rfl, Nat.le_of_ble_eq_true rfl⟩) hK hN hP hS hA [0] [1] rfl rfl rfl hl.1 rfl (Nat.le_of_ble_eq_true rfl) dL_off_42 ⟨Nat.zero_le _, Nat.zero_le _⟩ (fun H locs hz9 hP hS => ?_)
            refine wv_ifneB (tgt := 52) hx hb dL_off_45 (by decide) (fun c45 => ?_) (fun c45 => ?_)
            · skip
              refine lv_iconst (v := nI 0) hx hb dL_off_52 (by decide) ?_
              refine lv_iadd hx hb dL_off_53 ?_
              refine wv_ti (nI_add _ _) ?_
              refine lv_istore_n (lv' := [(3, .int (nI ((cnt (rkp fl v k) i) + 0))), (0, .ref g), (1, .ref vv), (2, .int (nI k)), (4, .int (nI i))]) hx hb dL_off_54 rfl hl (by decide) rfl (fun ls hl => ?_)
              refine lv_iinc (v := nI (i + 1)) (lv' := [(4, .int (nI (i + 1))), (3, .int (nI ((cnt (rkp fl v k) i) + 0))), (0, .ref g), (1, .ref vv), (2, .int (nI k))]) hx hb dL_off_55 hl (k := 4) rfl (nI_1 _) (by decide) rfl (fun ls hl => ?_)
              refine lv_goto (tgt := 5) hx hb dL_off_58 (by decide) ?_
              have el_l3 : cnt (rkp fl v k) (i + 1) = (cnt (rkp fl v k) i) + 0 := by first | exact cnt_t (rkp_t1 c25) | exact cnt_t (rkp_t2 c31 (ahd_tot c25 c45)) | exact cnt_f (rkp_f (fun z => absurd z.1 (by omega)) c25) | exact cnt_f (rkp_f (fun z => by rw [z.2, ahd_irr] at c45; cases c45) c25)
              exact ih5 (i + 1) (by omega) (by first | assumption | omega) _ _ (by first | (rw [el_l3]; exact hP) | (simp only [el_l3]; exact hP) | exact hP) hS ls (by first | (rw [el_l3]; exact lv_sub hl [2, 3, 4, 1, 0] rfl) | (simp only [el_l3]; exact lv_sub hl [2, 3, 4, 1, 0] rfl) | exact lv_sub hl [2, 3, 4, 1, 0] rfl)
            · skip
              refine lv_iconst (v := nI 1) hx hb dL_off_48 (by decide) ?_
              refine lv_goto (tgt := 53) hx hb dL_off_49 (by decide) ?_
              refine lv_iadd hx hb dL_off_53 ?_
              refine wv_ti (nI_add _ _) ?_
              refine lv_istore_n (lv' := [(3, .int (nI ((cnt (rkp fl v k) i) + 1))), (0, .ref g), (1, .ref vv), (2, .int (nI k)), (4, .int (nI i))]) hx hb dL_off_54 rfl hl (by decide) rfl (fun ls hl => ?_)
              refine lv_iinc (v := nI (i + 1)) (lv' := [(4, .int (nI (i + 1))), (3, .int (nI ((cnt (rkp fl v k) i) + 1))), (0, .ref g), (1, .ref vv), (2, .int (nI k))]) hx hb dL_off_55 hl (k := 4) rfl (nI_1 _) (by decide) rfl (fun ls hl => ?_)
              refine lv_goto (tgt := 5) hx hb dL_off_58 (by decide) ?_
              have el_l3 : cnt (rkp fl v k) (i + 1) = (cnt (rkp fl v k) i) + 1 := by first | exact cnt_t (rkp_t1 c25) | exact cnt_t (rkp_t2 c31 (ahd_tot c25 c45)) | exact cnt_f (rkp_f (fun z => absurd z.1 (by omega)) c25) | exact cnt_f (rkp_f (fun z => by rw [z.2, ahd_irr] at c45; cases c45) c25)
              exact ih5 (i + 1) (by omega) (by first | assumption | omega) _ _ (by first | (rw [el_l3]; exact hP) | (simp only [el_l3]; exact hP) | exact hP) hS ls (by first | (rw [el_l3]; exact lv_sub hl [2, 3, 4, 1, 0] rfl) | (simp only [el_l3]; exact lv_sub hl [2, 3, 4, 1, 0] rfl) | exact lv_sub hl [2, 3, 4, 1, 0] rfl)
  exact loop5 (n - 0 + 1) 0 (by omega) (by first | assumption | omega) _ _ (by first | (rw [el_l3]; exact hP) | (simp only [el_l3]; exact hP) | exact hP) hS ls (by first | (rw [el_l3]; exact lv_sub hl [2, 3, 4, 1, 0] rfl) | (simp only [el_l3]; exact lv_sub hl [2, 3, 4, 1, 0] rfl) | exact lv_sub hl [2, 3, 4, 1, 0] rfl)

set_option maxHeartbeats 4000000 in
set_option maxRecDepth 100000 in
theorem kL_far (l : Launch) (D : va_G) (g : Nat) (cI : ClassId) (n : Nat) (b : Nat) (fl : Bool) (me : Bool) (st : Int32) (lk : Int32) (cm : Int32) (vv : Nat) (cJ : ClassId) (v : Nat → Int64) (k : Nat) (hn : n ≤ 32) (hk : k < n) : PMi l yL_far wsL_far ({ frames := 2, cells := 0, slots := 0, locals := 48 } : Room) [.ref g, .ref vv, .int (nI k)] D ((GvC g cI n b fl me st lk cm) ++ (VvC vv cJ v)) [(cJ, .long), (cI, .int)] (nI (far fl v n k)) := by
  refine PMi_of (cc := cL_far) (maxL := 4) (ret := some .int) (by decide +kernel) rfl (Nat.le_of_ble_eq_true rfl) ?_
  intro p e s m args below meth c hx hb hr hts hown hlocks hml hP hK hN ls hl
  have hown : s.vm.findClass RL = some m.cls := hown
  have hl : lv_has ls 4 [(0, .ref g), (1, .ref vv), (2, .int (nI k))] := hl
  have hS : va_S (va_A [] s.heap.size) s.heap s.heap [] := va_S.rf
  have hA := wk_hA [] s.heap.size
  have hD9 : True := trivial
  have hda := dst_abs (fl := fl) (v := v) hk hn
  refine lv_aload_n hx hb dL_far_0 rfl (lv_at hl 0 rfl) ?_
  refine lv_aload_n hx hb dL_far_1 rfl (lv_at hl 1 rfl) ?_
  refine lv_iload_n hx hb dL_far_2 rfl (lv_at hl 2 rfl) ?_
  refine wv_callSi (As := [.ref g, .ref vv, .int (nI k)]) (rest := []) ⟨hx, hb, hml, hown, hts⟩ (kL_off l D g cI n b fl me st lk cm vv cJ v k (by first | assumption | omega) (by first | assumption | omega)) (va_cwS 3 hts gL_far_L_off rfl rfl rfl (by decide +kernel) ⟨Nat.le_of_ble_eq_true rfl, Nat.le_of_ble_eq_true rfl⟩) hK hN hP hS hA [0, 1] [0, 1] rfl rfl rfl hl.1 rfl (Nat.le_of_ble_eq_true rfl) dL_far_3 ⟨Nat.zero_le _, Nat.zero_le _⟩ (fun H locs hz9 hP hS => ?_)
  refine lv_istore_n (lv' := [(3, .int (dst fl v n k)), (0, .ref g), (1, .ref vv), (2, .int (nI k))]) hx hb dL_far_6 rfl hl (by decide) rfl (fun ls hl => ?_)
  refine lv_iload_n hx hb dL_far_7 rfl (lv_at hl 0 rfl) ?_
  refine lv_if_ge (tgt := 16) hx hb dL_far_8 (by decide) (fun c8 => ?_) (fun c8 => ?_)
  · skip
    refine lv_iload_n hx hb dL_far_16 rfl (lv_at hl 0 rfl) ?_
    exact wv_iretP hx hb hr hlocks hS (by first | (rw [← hda, if_pos c8]; done) | (rw [← hda, if_neg c8, Int32.zero_sub]; done)) dL_far_17
  · skip
    refine lv_iload_n hx hb dL_far_11 rfl (lv_at hl 0 rfl) ?_
    refine lv_ineg hx hb dL_far_12 ?_
    refine lv_goto (tgt := 17) hx hb dL_far_13 (by decide) ?_
    exact wv_iretP hx hb hr hlocks hS (by first | (rw [← hda, if_pos c8]; done) | (rw [← hda, if_neg c8, Int32.zero_sub]; done)) dL_far_17

set_option maxHeartbeats 4000000 in
set_option maxRecDepth 100000 in
theorem kL_fall (l : Launch) (D : va_G) (g : Nat) (cI : ClassId) (n : Nat) (b : Nat) (fl : Bool) (me : Bool) (st : Int32) (lk : Int32) (cm : Int32) (vv : Nat) (cJ : ClassId) (v : Nat → Int64) (k : Nat) (hn : n ≤ 32) (hk : k < n) : PMi l yL_fall wsL_fall ({ frames := 1, cells := 0, slots := 0, locals := 24 } : Room) [.ref g, .ref vv, .int (nI k)] D ((GvC g cI n b fl me st lk cm) ++ (VvC vv cJ v)) [(cJ, .long), (cI, .int)] (bI (fal fl v n k)) := by
  refine PMi_of (cc := cL_fall) (maxL := 3) (ret := some .boolean) (by decide +kernel) rfl (Nat.le_of_ble_eq_true rfl) ?_
  intro p e s m args below meth c hx hb hr hts hown hlocks hml hP hK hN ls hl
  have hown : s.vm.findClass RL = some m.cls := hown
  have hl : lv_has ls 3 [(0, .ref g), (1, .ref vv), (2, .int (nI k))] := hl
  have hS : va_S (va_A [] s.heap.size) s.heap s.heap [] := va_S.rf
  have hA := wk_hA [] s.heap.size
  have hD9 : True := trivial
  refine lv_iload_n hx hb dL_fall_0 rfl (lv_at hl 2 rfl) ?_
  refine wv_if_lt hx hb (by omega) dL_fall_1 (tgt := 32) (by decide) ?_
  refine lv_iload_n hx hb dL_fall_4 rfl (lv_at hl 2 rfl) ?_
  refine lv_aload_n hx hb dL_fall_5 rfl (lv_at hl 0 rfl) ?_
  refine lv_iconst (v := nI 0) hx hb dL_fall_6 (by decide) ?_
  refine wv_iald hx hb hK hP 0 1 rfl rfl (k := 0) (by omega) (by decide) dL_fall_7 ?_
  refine wv_ti (y := nI n) rfl ?_
  refine lv_iconst (v := nI 1) hx hb dL_fall_8 (by decide) ?_
  refine lv_isub hx hb dL_fall_9 ?_
  refine wv_ti (pk_sub (by omega)) ?_
  refine wv_icmp_ge (tgt := 32) hx hb (by omega) (by omega) dL_fall_10 (by decide) (fun c10 => ?_) (fun c10 => ?_)
  · skip
    refine lv_iconst (v := nI 0) hx hb dL_fall_32 (by decide) ?_
    exact wv_zretP (b := false) hx hb hr hlocks hS (rfl : nI 0 = bI false) (by first | (rw [show fal fl v n k = true from by unfold fal; rw [decide_eq_true (by omega), c25]; rfl]; rfl) | (rw [show fal fl v n k = false from by unfold fal; rw [decide_eq_false (by omega), Bool.false_and]]; rfl) | (rw [show fal fl v n k = false from by unfold fal; rw [c25, Bool.and_false]]; rfl)) dL_fall_33
  · skip
    refine lv_aload_n hx hb dL_fall_13 rfl (lv_at hl 0 rfl) ?_
    refine lv_aload_n hx hb dL_fall_14 rfl (lv_at hl 1 rfl) ?_
    refine lv_iload_n hx hb dL_fall_15 rfl (lv_at hl 2 rfl) ?_
    refine lv_iconst (v := nI 1) hx hb dL_fall_16 (by decide) ?_
    refine lv_iadd hx hb dL_fall_17 ?_
    refine wv_ti (nI_add _ _) ?_
    refine wv_lald hx hb hK hP 1 0 rfl rfl (k := k + 1) (by omega) (by decide) dL_fall_18 ?_
    refine lv_aload_n hx hb dL_fall_19 rfl (lv_at hl 1 rfl) ?_
    refine lv_iload_n hx hb dL_fall_20 rfl (lv_at hl 2 rfl) ?_
    refine wv_lald hx hb hK hP 1 0 rfl rfl (k := k) (by omega) (by decide) dL_fall_21 ?_
    refine wv_callSi (As := [.ref g, .long (v (k + 1)), .long (v k)]) (rest := []) ⟨hx, hb, hml, hown, hts⟩ (kL_ahead l D g cI n b fl me st lk cm (v (k + 1)) (v k)) (va_cwS 3 hts gL_fall_L_ahead rfl rfl rfl (by decide +kernel) ⟨Nat.le_of_ble_eq_true rfl, Nat.le_of_ble_eq_true rfl⟩) hK hN hP hS hA [0] [1] rfl rfl rfl hl.1 rfl (Nat.le_of_ble_eq_true rfl) dL_fall_22 ⟨Nat.zero_le _, Nat.zero_le _⟩ (fun H locs hz9 hP hS => ?_)
    refine wv_ifeqB (tgt := 32) hx hb dL_fall_25 (by decide) (fun c25 => ?_) (fun c25 => ?_)
    · skip
      refine lv_iconst (v := nI 0) hx hb dL_fall_32 (by decide) ?_
      exact wv_zretP (b := false) hx hb hr hlocks hS (rfl : nI 0 = bI false) (by first | (rw [show fal fl v n k = true from by unfold fal; rw [decide_eq_true (by omega), c25]; rfl]; rfl) | (rw [show fal fl v n k = false from by unfold fal; rw [decide_eq_false (by omega), Bool.false_and]]; rfl) | (rw [show fal fl v n k = false from by unfold fal; rw [c25, Bool.and_false]]; rfl)) dL_fall_33
    · skip
      refine lv_iconst (v := nI 1) hx hb dL_fall_28 (by decide) ?_
      refine lv_goto (tgt := 33) hx hb dL_fall_29 (by decide) ?_
      exact wv_zretP (b := true) hx hb hr hlocks hS (rfl : nI 1 = bI true) (by first | (rw [show fal fl v n k = true from by unfold fal; rw [decide_eq_true (by omega), c25]; rfl]; rfl) | (rw [show fal fl v n k = false from by unfold fal; rw [decide_eq_false (by omega), Bool.false_and]]; rfl) | (rw [show fal fl v n k = false from by unfold fal; rw [c25, Bool.and_false]]; rfl)) dL_fall_33

set_option maxHeartbeats 4000000 in
set_option maxRecDepth 100000 in
theorem kL_inversions (l : Launch) (D : va_G) (g : Nat) (cI : ClassId) (n : Nat) (b : Nat) (fl : Bool) (me : Bool) (st : Int32) (lk : Int32) (cm : Int32) (vv : Nat) (cJ : ClassId) (v : Nat → Int64) (hn : n ≤ 32) : PMi l yL_inversions wsL_inversions ({ frames := 1, cells := 0, slots := 0, locals := 24 } : Room) [.ref g, .ref vv] D ((GvC g cI n b fl me st lk cm) ++ (VvC vv cJ v)) [(cJ, .long), (cI, .int)] (nI (tin fl v n)) := by
  refine PMi_of (cc := cL_inversions) (maxL := 5) (ret := some .int) (by decide +kernel) rfl (Nat.le_of_ble_eq_true rfl) ?_
  intro p e s m args below meth c hx hb hr hts hown hlocks hml hP hK hN ls hl
  have hown : s.vm.findClass RL = some m.cls := hown
  have hl : lv_has ls 5 [(0, .ref g), (1, .ref vv)] := hl
  have hS : va_S (va_A [] s.heap.size) s.heap s.heap [] := va_S.rf
  have hA := wk_hA [] s.heap.size
  have hD9 : True := trivial
  refine lv_iconst (v := nI 0) hx hb dL_inversions_0 (by decide) ?_
  refine lv_istore_n (lv' := [(2, .int (nI 0)), (0, .ref g), (1, .ref vv)]) hx hb dL_inversions_1 rfl hl (by decide) rfl (fun ls hl => ?_)
  refine lv_iconst (v := nI 0) hx hb dL_inversions_2 (by decide) ?_
  refine lv_istore_n (lv' := [(3, .int (nI 0)), (2, .int (nI 0)), (0, .ref g), (1, .ref vv)]) hx hb dL_inversions_3 rfl hl (by decide) rfl (fun ls hl => ?_)
  have el_l2 : tin fl v 0 = 0 := by rfl
  have loop4 : ∀ (K : Nat) (i : Nat), n - i < K → i ≤ n → ∀ (H : Heap) (locs : List Loc), va_P D vwCl ((GvC g cI n b fl me st lk cm) ++ (VvC vv cJ v)) H → va_S (va_A [] s.heap.size) s.heap H locs → ∀ ls : Array Slot, lv_has ls 5 [(0, .ref g), (1, .ref vv), (2, .int (nI (tin fl v i))), (3, .int (nI i))] → W p l e ({ frames := 1, cells := 0, slots := 0, locals := 24 } : Room) s m args below meth c H locs 0 0 (ZPi below args s (nI (tin fl v n))) (F0 m 4 ls []) := by
    intro K
    induction K with
    | zero => intro i hK0; exact absurd hK0 (Nat.not_lt_zero _)
    | succ K ih4 =>
      intro i hKm hi H locs hP hS ls hl
      refine lv_iload_n hx hb dL_inversions_4 rfl (lv_at hl 3 rfl) ?_
      refine lv_aload_n hx hb dL_inversions_5 rfl (lv_at hl 0 rfl) ?_
      refine lv_iconst (v := nI 0) hx hb dL_inversions_6 (by decide) ?_
      refine wv_iald hx hb hK hP 0 1 rfl rfl (k := 0) (by omega) (by decide) dL_inversions_7 ?_
      refine wv_ti (y := nI n) rfl ?_
      refine wv_icmp_ge (tgt := 54) hx hb (by omega) (by omega) dL_inversions_8 (by decide) (fun c8 => ?_) (fun c8 => ?_)
      · skip
        refine lv_iload_n hx hb dL_inversions_54 rfl (lv_at hl 2 rfl) ?_
        exact wv_iretP hx hb hr hlocks hS (by rw [show i = n by omega]) dL_inversions_55
      · skip
        refine lv_iconst (v := nI 0) hx hb dL_inversions_11 (by decide) ?_
        refine lv_istore (lv' := [(4, .int (nI 0)), (0, .ref g), (1, .ref vv), (2, .int (nI (tin fl v i))), (3, .int (nI i))]) hx hb dL_inversions_12 hl (by decide) rfl (fun ls hl => ?_)
        have el_l2 : tin fl v i + cnt (fun o => ahd fl (v i) (v o)) 0 = tin fl v i := by rfl
        have loop14 : ∀ (K : Nat) (j : Nat), i - j < K → j ≤ i → ∀ (H : Heap) (locs : List Loc), va_P D vwCl ((GvC g cI n b fl me st lk cm) ++ (VvC vv cJ v)) H → va_S (va_A [] s.heap.size) s.heap H locs → ∀ ls : Array Slot, lv_has ls 5 [(0, .ref g), (1, .ref vv), (2, .int (nI (tin fl v i + cnt (fun o => ahd fl (v i) (v o)) j))), (3, .int (nI i)), (4, .int (nI j))] → W p l e ({ frames := 1, cells := 0, slots := 0, locals := 24 } : Room) s m args below meth c H locs 0 0 (ZPi below args s (nI (tin fl v n))) (F0 m 14 ls []) := by
          intro K
          induction K with
          | zero => intro j hK0; exact absurd hK0 (Nat.not_lt_zero _)
          | succ K ih14 =>
            intro j hKm hj H locs hP hS ls hl
            refine lv_iload hx hb dL_inversions_14 (lv_at hl 4 rfl) ?_
            refine lv_iload_n hx hb dL_inversions_16 rfl (lv_at hl 3 rfl) ?_
            refine wv_icmp_ge (tgt := 48) hx hb (by omega) (by omega) dL_inversions_17 (by decide) (fun c17 => ?_) (fun c17 => ?_)
            · skip
              refine lv_iinc (v := nI (i + 1)) (lv' := [(3, .int (nI (i + 1))), (0, .ref g), (1, .ref vv), (2, .int (nI (tin fl v i + cnt (fun o => ahd fl (v i) (v o)) j))), (4, .int (nI j))]) hx hb dL_inversions_48 hl (k := 3) rfl (nI_1 _) (by decide) rfl (fun ls hl => ?_)
              refine lv_goto (tgt := 4) hx hb dL_inversions_51 (by decide) ?_
              have el_l2 : tin fl v (i + 1) = tin fl v i + cnt (fun o => ahd fl (v i) (v o)) j := by rw [tin_s, show j = i by omega]
              exact ih4 (i + 1) (by omega) (by first | assumption | omega) _ _ (by first | (rw [el_l2]; exact hP) | (simp only [el_l2]; exact hP) | exact hP) hS ls (by first | (rw [el_l2]; exact lv_sub hl [1, 2, 3, 0] rfl) | (simp only [el_l2]; exact lv_sub hl [1, 2, 3, 0] rfl) | exact lv_sub hl [1, 2, 3, 0] rfl)
            · skip
              refine lv_iload_n hx hb dL_inversions_20 rfl (lv_at hl 2 rfl) ?_
              refine lv_aload_n hx hb dL_inversions_21 rfl (lv_at hl 0 rfl) ?_
              refine lv_aload_n hx hb dL_inversions_22 rfl (lv_at hl 1 rfl) ?_
              refine lv_iload_n hx hb dL_inversions_23 rfl (lv_at hl 3 rfl) ?_
              refine wv_lald hx hb hK hP 1 0 rfl rfl (k := i) (by omega) (by decide) dL_inversions_24 ?_
              refine lv_aload_n hx hb dL_inversions_25 rfl (lv_at hl 1 rfl) ?_
              refine lv_iload hx hb dL_inversions_26 (lv_at hl 4 rfl) ?_
              refine wv_lald hx hb hK hP 1 0 rfl rfl (k := j) (by omega) (by decide) dL_inversions_28 ?_
              refine wv_callSi (As := [.ref g, .long (v i), .long (v j)]) (rest := [.int (nI (tin fl v i + cnt (fun o => ahd fl (v i) (v o)) j))]) ⟨hx, hb, hml, hown, hts⟩ (kL_ahead l D g cI n b fl me st lk cm (v i) (v j)) (va_cwS 3 hts gL_inversions_L_ahead rfl rfl rfl (by decide +kernel) ⟨Nat.le_of_ble_eq_true rfl, Nat.le_of_ble_eq_true rfl⟩) hK hN hP hS hA [0] [1] rfl rfl rfl hl.1 rfl (Nat.le_of_ble_eq_true rfl) dL_inversions_29 ⟨Nat.zero_le _, Nat.zero_le _⟩ (fun H locs hz9 hP hS => ?_)
              refine wv_ifeqB (tgt := 39) hx hb dL_inversions_32 (by decide) (fun c32 => ?_) (fun c32 => ?_)
              · skip
                refine lv_iconst (v := nI 0) hx hb dL_inversions_39 (by decide) ?_
                refine lv_iadd hx hb dL_inversions_40 ?_
                refine wv_ti (nI_add _ _) ?_
                refine lv_istore_n (lv' := [(2, .int (nI ((tin fl v i + cnt (fun o => ahd fl (v i) (v o)) j) + 0))), (0, .ref g), (1, .ref vv), (3, .int (nI i)), (4, .int (nI j))]) hx hb dL_inversions_41 rfl hl (by decide) rfl (fun ls hl => ?_)
                refine lv_iinc (v := nI (j + 1)) (lv' := [(4, .int (nI (j + 1))), (2, .int (nI ((tin fl v i + cnt (fun o => ahd fl (v i) (v o)) j) + 0))), (0, .ref g), (1, .ref vv), (3, .int (nI i))]) hx hb dL_inversions_42 hl (k := 4) rfl (nI_1 _) (by decide) rfl (fun ls hl => ?_)
                refine lv_goto (tgt := 14) hx hb dL_inversions_45 (by decide) ?_
                have el_l2 : tin fl v i + cnt (fun o => ahd fl (v i) (v o)) (j + 1) = (tin fl v i + cnt (fun o => ahd fl (v i) (v o)) j) + 0 := by first | (rw [cnt_t (p := (fun o => ahd fl (v i) (v o))) c32]; omega) | (rw [cnt_f (p := (fun o => ahd fl (v i) (v o))) c32]; omega)
                exact ih14 (j + 1) (by omega) (by first | assumption | omega) _ _ (by first | (rw [el_l2]; exact hP) | (simp only [el_l2]; exact hP) | exact hP) hS ls (by first | (rw [el_l2]; exact lv_sub hl [2, 3, 1, 4, 0] rfl) | (simp only [el_l2]; exact lv_sub hl [2, 3, 1, 4, 0] rfl) | exact lv_sub hl [2, 3, 1, 4, 0] rfl)
              · skip
                refine lv_iconst (v := nI 1) hx hb dL_inversions_35 (by decide) ?_
                refine lv_goto (tgt := 40) hx hb dL_inversions_36 (by decide) ?_
                refine lv_iadd hx hb dL_inversions_40 ?_
                refine wv_ti (nI_add _ _) ?_
                refine lv_istore_n (lv' := [(2, .int (nI ((tin fl v i + cnt (fun o => ahd fl (v i) (v o)) j) + 1))), (0, .ref g), (1, .ref vv), (3, .int (nI i)), (4, .int (nI j))]) hx hb dL_inversions_41 rfl hl (by decide) rfl (fun ls hl => ?_)
                refine lv_iinc (v := nI (j + 1)) (lv' := [(4, .int (nI (j + 1))), (2, .int (nI ((tin fl v i + cnt (fun o => ahd fl (v i) (v o)) j) + 1))), (0, .ref g), (1, .ref vv), (3, .int (nI i))]) hx hb dL_inversions_42 hl (k := 4) rfl (nI_1 _) (by decide) rfl (fun ls hl => ?_)
                refine lv_goto (tgt := 14) hx hb dL_inversions_45 (by decide) ?_
                have el_l2 : tin fl v i + cnt (fun o => ahd fl (v i) (v o)) (j + 1) = (tin fl v i + cnt (fun o => ahd fl (v i) (v o)) j) + 1 := by first | (rw [cnt_t (p := (fun o => ahd fl (v i) (v o))) c32]; omega) | (rw [cnt_f (p := (fun o => ahd fl (v i) (v o))) c32]; omega)
                exact ih14 (j + 1) (by omega) (by first | assumption | omega) _ _ (by first | (rw [el_l2]; exact hP) | (simp only [el_l2]; exact hP) | exact hP) hS ls (by first | (rw [el_l2]; exact lv_sub hl [2, 3, 1, 4, 0] rfl) | (simp only [el_l2]; exact lv_sub hl [2, 3, 1, 4, 0] rfl) | exact lv_sub hl [2, 3, 1, 4, 0] rfl)
        exact loop14 (i - 0 + 1) 0 (by omega) (by first | assumption | omega) _ _ (by first | (rw [el_l2]; exact hP) | (simp only [el_l2]; exact hP) | exact hP) hS ls (by first | (rw [el_l2]; exact lv_sub hl [1, 2, 3, 4, 0] rfl) | (simp only [el_l2]; exact lv_sub hl [1, 2, 3, 4, 0] rfl) | exact lv_sub hl [1, 2, 3, 4, 0] rfl)
  exact loop4 (n - 0 + 1) 0 (by omega) (by first | assumption | omega) _ _ (by first | (rw [el_l2]; exact hP) | (simp only [el_l2]; exact hP) | exact hP) hS ls (by first | (rw [el_l2]; exact lv_sub hl [2, 3, 1, 0] rfl) | (simp only [el_l2]; exact lv_sub hl [2, 3, 1, 0] rfl) | exact lv_sub hl [2, 3, 1, 0] rfl)

set_option maxHeartbeats 4000000 in
set_option maxRecDepth 100000 in
theorem kL_broken (l : Launch) (D : va_G) (g : Nat) (cI : ClassId) (n : Nat) (b : Nat) (fl : Bool) (me : Bool) (st : Int32) (lk : Int32) (cm : Int32) (vv : Nat) (cJ : ClassId) (v : Nat → Int64) (hn : n ≤ 32) (hb : b ≤ 31) : PMi l yL_broken wsL_broken ({ frames := 3, cells := 0, slots := 0, locals := 71 } : Room) [.ref g, .ref vv] D ((GvC g cI n b fl me st lk cm) ++ (VvC vv cJ v)) [(cJ, .long), (cI, .int)] (nI (cnt (brk fl v n b) n)) := by
  refine PMi_of (cc := cL_broken) (maxL := 4) (ret := some .int) (by decide +kernel) rfl (Nat.le_of_ble_eq_true rfl) ?_
  intro p e s m args below meth c hx hb hr hts hown hlocks hml hP hK hN ls hl
  have hown : s.vm.findClass RL = some m.cls := hown
  have hl : lv_has ls 4 [(0, .ref g), (1, .ref vv)] := hl
  have hS : va_S (va_A [] s.heap.size) s.heap s.heap [] := va_S.rf
  have hA := wk_hA [] s.heap.size
  have hD9 : True := trivial
  refine lv_iconst (v := nI 0) hx hb dL_broken_0 (by decide) ?_
  refine lv_istore_n (lv' := [(2, .int (nI 0)), (0, .ref g), (1, .ref vv)]) hx hb dL_broken_1 rfl hl (by decide) rfl (fun ls hl => ?_)
  refine lv_iconst (v := nI 0) hx hb dL_broken_2 (by decide) ?_
  refine lv_istore_n (lv' := [(3, .int (nI 0)), (2, .int (nI 0)), (0, .ref g), (1, .ref vv)]) hx hb dL_broken_3 rfl hl (by decide) rfl (fun ls hl => ?_)
  have el_l2 : cnt (brk fl v n b) 0 = 0 := by rfl
  have loop4 : ∀ (K : Nat) (i : Nat), n - i < K → i ≤ n → ∀ (H : Heap) (locs : List Loc), va_P D vwCl ((GvC g cI n b fl me st lk cm) ++ (VvC vv cJ v)) H → va_S (va_A [] s.heap.size) s.heap H locs → ∀ ls : Array Slot, lv_has ls 4 [(0, .ref g), (1, .ref vv), (2, .int (nI (cnt (brk fl v n b) i))), (3, .int (nI i))] → W p l e ({ frames := 3, cells := 0, slots := 0, locals := 71 } : Room) s m args below meth c H locs 0 0 (ZPi below args s (nI (cnt (brk fl v n b) n))) (F0 m 4 ls []) := by
    intro K
    induction K with
    | zero => intro i hK0; exact absurd hK0 (Nat.not_lt_zero _)
    | succ K ih4 =>
      intro i hKm hi H locs hP hS ls hl
      refine lv_iload_n hx hb dL_broken_4 rfl (lv_at hl 3 rfl) ?_
      refine lv_aload_n hx hb dL_broken_5 rfl (lv_at hl 0 rfl) ?_
      refine lv_iconst (v := nI 0) hx hb dL_broken_6 (by decide) ?_
      refine wv_iald hx hb hK hP 0 1 rfl rfl (k := 0) (by omega) (by decide) dL_broken_7 ?_
      refine wv_ti (y := nI n) rfl ?_
      refine wv_icmp_ge (tgt := 37) hx hb (by omega) (by omega) dL_broken_8 (by decide) (fun c8 => ?_) (fun c8 => ?_)
      · skip
        refine lv_iload_n hx hb dL_broken_37 rfl (lv_at hl 2 rfl) ?_
        exact wv_iretP hx hb hr hlocks hS (by rw [show i = n by omega]) dL_broken_38
      · skip
        have hfi := far_le (fl := fl) (v := v) (n := n) (k := i) (by omega)
        refine lv_iload_n hx hb dL_broken_11 rfl (lv_at hl 2 rfl) ?_
        refine lv_aload_n hx hb dL_broken_12 rfl (lv_at hl 0 rfl) ?_
        refine lv_aload_n hx hb dL_broken_13 rfl (lv_at hl 1 rfl) ?_
        refine lv_iload_n hx hb dL_broken_14 rfl (lv_at hl 3 rfl) ?_
        refine wv_callSi (As := [.ref g, .ref vv, .int (nI i)]) (rest := [.int (nI (cnt (brk fl v n b) i))]) ⟨hx, hb, hml, hown, hts⟩ (kL_far l D g cI n b fl me st lk cm vv cJ v i (by first | assumption | omega) (by first | assumption | omega)) (va_cwS 3 hts gL_broken_L_far rfl rfl rfl (by decide +kernel) ⟨Nat.le_of_ble_eq_true rfl, Nat.le_of_ble_eq_true rfl⟩) hK hN hP hS hA [0, 1] [0, 1] rfl rfl rfl hl.1 rfl (Nat.le_of_ble_eq_true rfl) dL_broken_15 ⟨Nat.zero_le _, Nat.zero_le _⟩ (fun H locs hz9 hP hS => ?_)
        refine lv_aload_n hx hb dL_broken_18 rfl (lv_at hl 0 rfl) ?_
        refine lv_iconst (v := nI 1) hx hb dL_broken_19 (by decide) ?_
        refine wv_iald hx hb hK hP 0 1 rfl rfl (k := 1) (by omega) (by decide) dL_broken_20 ?_
        refine wv_ti (y := nI b) rfl ?_
        refine wv_icmp_le (tgt := 28) hx hb (by omega) (by omega) dL_broken_21 (by decide) (fun c21 => ?_) (fun c21 => ?_)
        · skip
          refine lv_iconst (v := nI 0) hx hb dL_broken_28 (by decide) ?_
          refine lv_iadd hx hb dL_broken_29 ?_
          refine wv_ti (nI_add _ _) ?_
          refine lv_istore_n (lv' := [(2, .int (nI ((cnt (brk fl v n b) i) + 0))), (0, .ref g), (1, .ref vv), (3, .int (nI i))]) hx hb dL_broken_30 rfl hl (by decide) rfl (fun ls hl => ?_)
          refine lv_iinc (v := nI (i + 1)) (lv' := [(3, .int (nI (i + 1))), (2, .int (nI ((cnt (brk fl v n b) i) + 0))), (0, .ref g), (1, .ref vv)]) hx hb dL_broken_31 hl (k := 3) rfl (nI_1 _) (by decide) rfl (fun ls hl => ?_)
          refine lv_goto (tgt := 4) hx hb dL_broken_34 (by decide) ?_
          have el_l2 : cnt (brk fl v n b) (i + 1) = (cnt (brk fl v n b) i) + 0 := by first | exact cnt_t (decide_eq_true (by omega)) | exact cnt_f (decide_eq_false (by omega))
          exact ih4 (i + 1) (by omega) (by first | assumption | omega) _ _ (by first | (rw [el_l2]; exact hP) | (simp only [el_l2]; exact hP) | exact hP) hS ls (by first | (rw [el_l2]; exact lv_sub hl [2, 3, 1, 0] rfl) | (simp only [el_l2]; exact lv_sub hl [2, 3, 1, 0] rfl) | exact lv_sub hl [2, 3, 1, 0] rfl)
        · skip
          refine lv_iconst (v := nI 1) hx hb dL_broken_24 (by decide) ?_
          refine lv_goto (tgt := 29) hx hb dL_broken_25 (by decide) ?_
          refine lv_iadd hx hb dL_broken_29 ?_
          refine wv_ti (nI_add _ _) ?_
          refine lv_istore_n (lv' := [(2, .int (nI ((cnt (brk fl v n b) i) + 1))), (0, .ref g), (1, .ref vv), (3, .int (nI i))]) hx hb dL_broken_30 rfl hl (by decide) rfl (fun ls hl => ?_)
          refine lv_iinc (v := nI (i + 1)) (lv' := [(3, .int (nI (i + 1))), (2, .int (nI ((cnt (brk fl v n b) i) + 1))), (0, .ref g), (1, .ref vv)]) hx hb dL_broken_31 hl (k := 3) rfl (nI_1 _) (by decide) rfl (fun ls hl => ?_)
          refine lv_goto (tgt := 4) hx hb dL_broken_34 (by decide) ?_
          have el_l2 : cnt (brk fl v n b) (i + 1) = (cnt (brk fl v n b) i) + 1 := by first | exact cnt_t (decide_eq_true (by omega)) | exact cnt_f (decide_eq_false (by omega))
          exact ih4 (i + 1) (by omega) (by first | assumption | omega) _ _ (by first | (rw [el_l2]; exact hP) | (simp only [el_l2]; exact hP) | exact hP) hS ls (by first | (rw [el_l2]; exact lv_sub hl [2, 3, 1, 0] rfl) | (simp only [el_l2]; exact lv_sub hl [2, 3, 1, 0] rfl) | exact lv_sub hl [2, 3, 1, 0] rfl)
  exact loop4 (n - 0 + 1) 0 (by omega) (by first | assumption | omega) _ _ (by first | (rw [el_l2]; exact hP) | (simp only [el_l2]; exact hP) | exact hP) hS ls (by first | (rw [el_l2]; exact lv_sub hl [2, 3, 1, 0] rfl) | (simp only [el_l2]; exact lv_sub hl [2, 3, 1, 0] rfl) | exact lv_sub hl [2, 3, 1, 0] rfl)
set_option maxHeartbeats 4000000 in
/-- the law's reading of its script -/
theorem kL_cell (l : Launch) (bb L : Nat) (xs : Nat → Int32) (k : Nat) (hL : L ≤ 2048) (hk : k < 2048) : SCi l yL_cell wsL_cell ({ frames := 1, cells := 0, slots := 0, locals := 20 } : Room) bb L xs k (clL L xs k) := by
  intro sz
  refine Met.ofW (cc := cL_cell) (maxL := 2) (ret := some .int) (by decide +kernel) rfl ?_
  intro p e s m args below meth c s₁ B hml hv
  obtain ⟨rfl, hsz, hX, hbl⟩ := hv
  subst hsz
  rw [lg_entry_eq]
  have hx := B.exec
  have hb : c.code = cL_cell := B.bytes
  have hr := B.returns
  have hlocks := B.notSynchronized
  have hown : s.vm.findClass RL = some m.cls := findClass_of_methodNamed B.named
  have hts := atoms_spec (ws := wsL_cell) B.pre
  have hl : lv_has _ 2 (lv_args 0 [.ref bb, .int (nI k)]) := lv_entry [.ref bb, .int (nI k)] (Nat.le_of_ble_eq_true rfl)
  have hl : lv_has _ 2 [(0, .ref bb), (1, .int (nI k))] := hl
  have hS : va_S (va_A [] s.heap.size) s.heap s.heap [] := va_S.rf
  have hbA : ¬ va_A [] s.heap.size bb := fun z => absurd (wk_ne z) (by omega)
  refine lv_iload_n hx hb dL_cell_0 rfl (lv_at hl 1 rfl) ?_
  refine lv_aload_n hx hb dL_cell_1 rfl (lv_at hl 0 rfl) ?_
  refine va_slen hx hb hX hbl hbA hS dL_cell_2 ?_
  refine wv_icmp_ge (tgt := 12) hx hb (y := L) (by omega) (by omega) dL_cell_3 (by decide) (fun c3 => ?_) (fun c3 => ?_)
  · refine lv_ldc (v := nI 40503) hx hb hown (hts (.constant RL 7 (40503)) (by decide +kernel)) dL_cell_12 ?_
    refine lv_iload_n hx hb dL_cell_14 rfl (lv_at hl 1 rfl) ?_
    refine lv_iconst (v := nI 3) hx hb dL_cell_15 (by decide) ?_
    refine lv_iadd hx hb dL_cell_16 ?_
    refine wv_ti (nI_add _ _) ?_
    refine lv_imul hx hb dL_cell_17 ?_
    exact wv_iretP hx hb hr hlocks hS (by unfold clL; rw [if_neg (by omega)]) dL_cell_18
  · refine lv_aload_n hx hb dL_cell_6 rfl (lv_at hl 0 rfl) ?_
    refine lv_iload_n hx hb dL_cell_7 rfl (lv_at hl 1 rfl) ?_
    refine wv_sld hx hb hX hbl hbA hS (j := k) c3 hL dL_cell_8 ?_
    refine lv_goto (tgt := 18) hx hb dL_cell_9 (by decide) ?_
    exact wv_iretP hx hb hr hlocks hS (by unfold clL; rw [if_pos c3]) dL_cell_18
section CK
variable {p : Program} {l : Launch} {e : Env} {R : Room} {s : State} {m : MethodId} {args : Array Value} {below : List Frame} {meth : Method} {c : Code} {H : Heap} {locs : List Loc} {cells slots : Nat} {Q : State → Prop}
variable {cc : ByteArray} {pc : Nat} {ls : Array Slot} {rest st0 : List Value} {D : va_G} {A : Nat → Prop} {ws : va_W}
theorem wv_callC {y : MethodName} {bytes : ByteArray} {maxL nL index bb L k : Nat} {xs : Nat → Int32} {ret : Option FieldType} {wy : List Cond} {rm : Room} {Ts : List Cond} {own : String} {ans : Int32} (S : CallFix p m c cc nL s args Ts own) (hM : SCi l y wy rm bb L xs k ans) (cw : CallB R s args own index y bytes maxL ret wy rm 0 0 2 ∧ (Cond.static y).before args s = true)
    (hX : va_X bb L xs s s.heap) (hbl : bb < s.heap.size) (hbA : ¬ A bb) (hP : va_P D vwCl ws H) (hS : va_S A s.heap H locs) (hA : ∀ q, s.heap.size ≤ q → A q)
    (hsize : ls.size = nL) (hst : st0 = .int (nI k) :: .ref bb :: rest) (hW : (rest.map fun v => v.category).sum ≤ 8) (hdg : decode cc pc = .ok (.invokestatic index, 3)) (hf : cells ≤ R.cells ∧ slots ≤ R.slots)
    (kk : ∀ (H1 : Heap) (locs1 : List Loc), H.size ≤ H1.size → va_P D vwCl ws H1 → va_S A s.heap H1 locs1 → W p l e R s m args below meth c H1 locs1 cells slots Q (F0 m (pc + 3) ls (.int ans :: rest))) : W p l e R s m args below meth c H locs cells slots Q (F0 m pc ls st0) := by
  have hfr : ∀ q, va_A [] H.size q → A q := fun q h => hA q (Nat.le_trans hS.1 (wk_ne h))
  have hX1 : va_X bb L xs s H := hX.kept (hS.2.1 bb hbl hbA)
  refine va_calli (va_runS (As := [.ref bb, .int (nI k)]) (rest := rest) (g := F0 m pc ls st0) S (hM H.size) cw ⟨fun a U g mk q => by obtain ⟨q0, q1, qX, qb⟩ := q; exact ⟨q0, q1, va_X.moved (u := U) (U := U.calling g mk a) (Vm.Alike.refl U.vm) qX, qb⟩, fun U hU hW => ⟨rfl, by rw [hU], by rw [hU]; exact va_X.moved hW.alike hX1, by rw [hU]; exact Nat.lt_of_lt_of_le hbl hS.1⟩⟩ rfl rfl hsize hst (lv_room hW) hdg hf) hS (fun q _ h => hfr q h) hfr (fun r u t H1 locs1 _ _ hw _ hz hk hS1 => ?_)
  subst hw
  exact kk H1 locs1 hz (wk_keep hP hk) hS1
end CK
