/-! The model: searches. -/
set_option maxHeartbeats 4000000 in
set_option maxRecDepth 100000 in
theorem kX7_searches (l : Launch) (D : va_G) (mo : Nat) (sa : Nat) (pa : Nat) (ha : Nat) (ta : Nat) (cJ : ClassId) (cI : ClassId) (n : Nat) (b : Nat) (fl : Bool) (me : Bool) (st : Int64) (lk : Int64) (cm : Int64) (v : Nat → Int64) (nu : Nat → Int64) (pt : Nat → Int64) (hd : Nat → Int64) (tx : Nat → Int32) (ps : Nat) (ru : Bool) (ty : Nat) (rf : Nat) (lks : Nat) (lo1 : Int32) (hi1 : Int32) (sp : Nat) (cd : Int32) (pl : Int32) (gv : Int64) (x : Int64) (hn : n ≤ 32) (hb : b ≤ 31) : MMi l yX7_searches wsX7_searches ({ frames := 1, cells := 0, slots := 0, locals := 24 } : Room) [.ref mo, .long x] D (ModC mo sa pa ha ta cJ cI (sM n b fl me st lk cm v nu) pt hd tx ps ru ty rf lks lo1 hi1 sp cd pl gv) [(cJ, .long), (cI, .int)] (oI (sr1 fl v n b x)) (ModC mo sa pa ha ta cJ cI (sM n b fl me st lk cm v nu) pt hd tx ps ru ty rf (sr2 fl v n b x) (sr3 fl v n b x) (sr4 fl v n b x) sp cd pl gv) := by
  refine MMi_of (cc := cX7_searches) (maxL := 7) (ret := some .int) (by decide +kernel) rfl (Nat.le_of_ble_eq_true rfl) ?_
  intro p e s m args below meth c hx hb hr hts hown hlocks hml hP hK hN hD ls hl
  have hown : s.vm.findClass RX7 = some m.cls := hown
  have hl : lv_has ls 7 [(0, .ref mo), (1, .long x)] := hl
  have hS : va_S (va_A (ModC mo sa pa ha ta cJ cI (sM n b fl me st lk cm v nu) pt hd tx ps ru ty rf lks lo1 hi1 sp cd pl gv) s.heap.size) s.heap s.heap [] := va_S.rf
  have hA := wk_hA (ModC mo sa pa ha ta cJ cI (sM n b fl me st lk cm v nu) pt hd tx ps ru ty rf lks lo1 hi1 sp cd pl gv) s.heap.size
  have hD9 : True := trivial
  have hinX7 : ∀ w ∈ wsX70, w ∈ wsX7_searches := by decide +kernel
  refine lv_iconst (v := nI 2) hx hb dX7_searches_0 (by decide) ?_
  refine lv_aload_n hx hb dX7_searches_1 rfl (lv_at hl 0 rfl) ?_
  refine lv_iconst (v := nI 1) hx hb dX7_searches_2 (by decide) ?_
  refine wv_callPi (As := [.int (nI 1)]) (rest := [.int (nI 2)]) ⟨hx, hb, hml, hown, hts⟩ (kX7_of l D mo sa pa ha ta cJ cI n b fl me st lk cm v nu pt hd tx ps ru ty rf lks lo1 hi1 sp cd pl gv 1 (by first | assumption | omega)) (cwV 1 hts gX7_searches_X7_of rfl rfl rfl (by decide +kernel) ⟨Nat.le_of_ble_eq_true rfl, Nat.le_of_ble_eq_true rfl⟩) hK hN hP hS hA [0, 1, 2, 3, 4] [0, 1] rfl rfl 0 5 rfl rfl rfl rfl hl.1 rfl (Nat.le_of_ble_eq_true rfl) dX7_searches_3 ⟨Nat.zero_le _, Nat.zero_le _⟩ (fun H locs hz9 hP hS => ?_)
  refine wv_ti (y := nI b) of_1 ?_
  refine lv_imul hx hb dX7_searches_6 ?_
  refine wv_ti (pk_mul _ _) ?_
  refine lv_istore_n (lv' := [(3, .int (nI (2 * b))), (0, .ref mo), (1, .long x)]) hx hb dX7_searches_7 rfl hl (by decide) rfl (fun ls hl => ?_)
  refine lv_iconst (v := nI 0) hx hb dX7_searches_8 (by decide) ?_
  refine lv_istore (lv' := [(4, .int (nI 0)), (3, .int (nI (2 * b))), (0, .ref mo), (1, .long x)]) hx hb dX7_searches_9 hl (by decide) rfl (fun ls hl => ?_)
  refine lv_aload_n hx hb dX7_searches_11 rfl (lv_at hl 2 rfl) ?_
  refine lv_iconst (v := nI 0) hx hb dX7_searches_12 (by decide) ?_
  refine wv_callPi (As := [.int (nI 0)]) (rest := []) ⟨hx, hb, hml, hown, hts⟩ (kX7_of l D mo sa pa ha ta cJ cI n b fl me st lk cm v nu pt hd tx ps ru ty rf lks lo1 hi1 sp cd pl gv 0 (by first | assumption | omega)) (cwV 1 hts gX7_searches_X7_of rfl rfl rfl (by decide +kernel) ⟨Nat.le_of_ble_eq_true rfl, Nat.le_of_ble_eq_true rfl⟩) hK hN hP hS hA [0, 1, 2, 3, 4] [0, 1] rfl rfl 0 5 rfl rfl rfl rfl hl.1 rfl (Nat.le_of_ble_eq_true rfl) dX7_searches_13 ⟨Nat.zero_le _, Nat.zero_le _⟩ (fun H locs hz9 hP hS => ?_)
  refine wv_ti (y := nI n) of_0 ?_
  refine lv_istore (lv' := [(5, .int (nI n)), (4, .int (nI 0)), (3, .int (nI (2 * b))), (0, .ref mo), (1, .long x)]) hx hb dX7_searches_16 hl (by decide) rfl (fun ls hl => ?_)
  refine lv_aload_n hx hb dX7_searches_18 rfl (lv_at hl 3 rfl) ?_
  refine lv_iconst (v := nI 0) hx hb dX7_searches_19 (by decide) ?_
  refine va_put (D := D) (ci := 5) (v := .int (nI 0)) (ty := .int) (C := RX7) (T := TX7) (N := 15) hx hb hts hinX7 tyX7 tyX7_ok nmX7 hown hK hP hD hS 0 rfl rfl 8 (by decide) (hts (.fieldLink RX7 107 "NearRanksModel" "looks" "I") (by decide +kernel)) (fun _ h9 => h9) rfl (by decide +kernel) rfl rfl (Nat.le_of_ble_eq_true rfl) dX7_searches_20 (fun H locs hP hD hS => ?_)
  have hP : va_P D vwCl (ModC mo sa pa ha ta cJ cI (sM n b fl me st lk cm v nu) pt hd tx ps ru ty rf 0 lo1 hi1 sp cd pl gv) H := hP
  have hD : va_D _ (ModC mo sa pa ha ta cJ cI (sM n b fl me st lk cm v nu) pt hd tx ps ru ty rf 0 lo1 hi1 sp cd pl gv) := hD
  refine lv_aload_n hx hb dX7_searches_23 rfl (lv_at hl 3 rfl) ?_
  refine lv_sipush (v := (-1000)) hx hb dX7_searches_24 (by decide) ?_
  refine va_put (D := D) (ci := 5) (v := .int (-1000)) (ty := .int) (C := RX7) (T := TX7) (N := 15) hx hb hts hinX7 tyX7 tyX7_ok nmX7 hown hK hP hD hS 0 rfl rfl 9 (by decide) (hts (.fieldLink RX7 110 "NearRanksModel" "lowThen" "I") (by decide +kernel)) (fun _ h9 => h9) rfl (by decide +kernel) rfl rfl (Nat.le_of_ble_eq_true rfl) dX7_searches_27 (fun H locs hP hD hS => ?_)
  have hP : va_P D vwCl (ModC mo sa pa ha ta cJ cI (sM n b fl me st lk cm v nu) pt hd tx ps ru ty rf 0 (-1000) hi1 sp cd pl gv) H := hP
  have hD : va_D _ (ModC mo sa pa ha ta cJ cI (sM n b fl me st lk cm v nu) pt hd tx ps ru ty rf 0 (-1000) hi1 sp cd pl gv) := hD
  refine lv_aload_n hx hb dX7_searches_30 rfl (lv_at hl 3 rfl) ?_
  refine lv_sipush (v := (-1000)) hx hb dX7_searches_31 (by decide) ?_
  refine va_put (D := D) (ci := 5) (v := .int (-1000)) (ty := .int) (C := RX7) (T := TX7) (N := 15) hx hb hts hinX7 tyX7 tyX7_ok nmX7 hown hK hP hD hS 0 rfl rfl 10 (by decide) (hts (.fieldLink RX7 113 "NearRanksModel" "highThen" "I") (by decide +kernel)) (fun _ h9 => h9) rfl (by decide +kernel) rfl rfl (Nat.le_of_ble_eq_true rfl) dX7_searches_34 (fun H locs hP hD hS => ?_)
  have hP : va_P D vwCl (ModC mo sa pa ha ta cJ cI (sM n b fl me st lk cm v nu) pt hd tx ps ru ty rf 0 (-1000) (-1000) sp cd pl gv) H := hP
  have hD : va_D _ (ModC mo sa pa ha ta cJ cI (sM n b fl me st lk cm v nu) pt hd tx ps ru ty rf 0 (-1000) (-1000) sp cd pl gv) := hD
  have loop37 : ∀ (K : Nat) (lo : Nat) (hi : Nat) (g : Nat), hi - lo < K → lo ≤ hi → hi ≤ n → g + (hi - lo) ≤ 32 → (srR fl v n b x).1 = (srw fl v (2 * b) x (32 - g) lo hi).1 → (srR fl v n b x).2.1 = g + (srw fl v (2 * b) x (32 - g) lo hi).2.1 → (srR fl v n b x).2.2 = (srw fl v (2 * b) x (32 - g) lo hi).2.2 → ∀ (H : Heap) (locs : List Loc), va_P D vwCl (ModC mo sa pa ha ta cJ cI (sM n b fl me st lk cm v nu) pt hd tx ps ru ty rf g (-1000) (-1000) sp cd pl gv) H → va_D (va_A (ModC mo sa pa ha ta cJ cI (sM n b fl me st lk cm v nu) pt hd tx ps ru ty rf lks lo1 hi1 sp cd pl gv) s.heap.size) (ModC mo sa pa ha ta cJ cI (sM n b fl me st lk cm v nu) pt hd tx ps ru ty rf g (-1000) (-1000) sp cd pl gv) → va_S (va_A (ModC mo sa pa ha ta cJ cI (sM n b fl me st lk cm v nu) pt hd tx ps ru ty rf lks lo1 hi1 sp cd pl gv) s.heap.size) s.heap H locs → ∀ ls : Array Slot, lv_has ls 7 [(0, .ref mo), (1, .long x), (3, .int (nI (2 * b))), (4, .int (nI lo)), (5, .int (nI hi))] → W p l e ({ frames := 1, cells := 0, slots := 0, locals := 24 } : Room) s m args below meth c H locs 0 0 (ZMi below args s D (ModC mo sa pa ha ta cJ cI (sM n b fl me st lk cm v nu) pt hd tx ps ru ty rf lks lo1 hi1 sp cd pl gv) (oI (sr1 fl v n b x)) (ModC mo sa pa ha ta cJ cI (sM n b fl me st lk cm v nu) pt hd tx ps ru ty rf (sr2 fl v n b x) (sr3 fl v n b x) (sr4 fl v n b x) sp cd pl gv)) (F0 m 37 ls []) := by
    intro K
    induction K with
    | zero => intro lo hi g hK0; exact absurd hK0 (Nat.not_lt_zero _)
    | succ K ih37 =>
      intro lo hi g hKm h1 h2 h3 hr1 hr2 hr3 H locs hP hD hS ls hl
      refine lv_iload hx hb dX7_searches_37 (lv_at hl 4 rfl) ?_
      refine lv_iload hx hb dX7_searches_39 (lv_at hl 3 rfl) ?_
      refine lv_isub hx hb dX7_searches_41 ?_
      refine wv_ti (pk_sub (by omega)) ?_
      refine lv_iconst (v := nI 2) hx hb dX7_searches_42 (by decide) ?_
      refine lv_iload_n hx hb dX7_searches_43 rfl (lv_at hl 2 rfl) ?_
      refine lv_imul hx hb dX7_searches_44 ?_
      refine wv_ti (pk_mul _ _) ?_
      refine lv_iconst (v := nI 2) hx hb dX7_searches_45 (by decide) ?_
      refine lv_iadd hx hb dX7_searches_46 ?_
      refine wv_ti (nI_add _ _) ?_
      refine wv_icmp_le (tgt := 155) hx hb (by omega) (by omega) dX7_searches_47 (by decide) (fun c47 => ?_) (fun c47 => ?_)
      · skip
        have hst : (srw fl v (2 * b) x (32 - g) lo hi) = (none, 0, lo, hi) := srw_stop c47
        have hr9 : (srR fl v n b x).1 = none := by rw [hr1, hst]
        have hl1 : (srR fl v n b x).2.2.1 = lo := by rw [hr3, hst]
        have hl2 : (srR fl v n b x).2.2.2 = hi := by rw [hr3, hst]
        have hg9 : (srR fl v n b x).2.1 = g := by rw [hr2, hst]; rfl
        have hO : srO fl v n b x = fnr (eqp v x) lo (hi - lo) := by unfold srO; rw [hl1, hl2]
        refine lv_aload_n hx hb dX7_searches_155 rfl (lv_at hl 0 rfl) ?_
        refine lv_iload hx hb dX7_searches_156 (lv_at hl 3 rfl) ?_
        refine va_put (D := D) (ci := 5) (v := .int (nI lo)) (ty := .int) (C := RX7) (T := TX7) (N := 15) hx hb hts hinX7 tyX7 tyX7_ok nmX7 hown hK hP hD hS 0 rfl rfl 9 (by decide) (hts (.fieldLink RX7 110 "NearRanksModel" "lowThen" "I") (by decide +kernel)) (fun _ h9 => h9) rfl (by decide +kernel) rfl rfl (Nat.le_of_ble_eq_true rfl) dX7_searches_158 (fun H locs hP hD hS => ?_)
        have hP : va_P D vwCl (ModC mo sa pa ha ta cJ cI (sM n b fl me st lk cm v nu) pt hd tx ps ru ty rf g (nI lo) (-1000) sp cd pl gv) H := hP
        have hD : va_D _ (ModC mo sa pa ha ta cJ cI (sM n b fl me st lk cm v nu) pt hd tx ps ru ty rf g (nI lo) (-1000) sp cd pl gv) := hD
        refine lv_aload_n hx hb dX7_searches_161 rfl (lv_at hl 0 rfl) ?_
        refine lv_iload hx hb dX7_searches_162 (lv_at hl 4 rfl) ?_
        refine va_put (D := D) (ci := 5) (v := .int (nI hi)) (ty := .int) (C := RX7) (T := TX7) (N := 15) hx hb hts hinX7 tyX7 tyX7_ok nmX7 hown hK hP hD hS 0 rfl rfl 10 (by decide) (hts (.fieldLink RX7 113 "NearRanksModel" "highThen" "I") (by decide +kernel)) (fun _ h9 => h9) rfl (by decide +kernel) rfl rfl (Nat.le_of_ble_eq_true rfl) dX7_searches_164 (fun H locs hP hD hS => ?_)
        have hP : va_P D vwCl (ModC mo sa pa ha ta cJ cI (sM n b fl me st lk cm v nu) pt hd tx ps ru ty rf g (nI lo) (nI hi) sp cd pl gv) H := hP
        have hD : va_D _ (ModC mo sa pa ha ta cJ cI (sM n b fl me st lk cm v nu) pt hd tx ps ru ty rf g (nI lo) (nI hi) sp cd pl gv) := hD
        refine lv_iload hx hb dX7_searches_167 (lv_at hl 3 rfl) ?_
        refine lv_istore (lv' := [(6, .int (nI lo)), (0, .ref mo), (1, .long x), (3, .int (nI (2 * b))), (4, .int (nI lo)), (5, .int (nI hi))]) hx hb dX7_searches_169 hl (by decide) rfl (fun ls hl => ?_)
        have el_w0_lks : g + (lo - lo) = g := by omega
        have loop171 : ∀ (K : Nat) (j : Nat), hi - j < K → lo ≤ j → j ≤ hi → fnr (eqp v x) lo (hi - lo) = fnr (eqp v x) j (hi - j) → ∀ (H : Heap) (locs : List Loc), va_P D vwCl (ModC mo sa pa ha ta cJ cI (sM n b fl me st lk cm v nu) pt hd tx ps ru ty rf (g + (j - lo)) (nI lo) (nI hi) sp cd pl gv) H → va_D (va_A (ModC mo sa pa ha ta cJ cI (sM n b fl me st lk cm v nu) pt hd tx ps ru ty rf lks lo1 hi1 sp cd pl gv) s.heap.size) (ModC mo sa pa ha ta cJ cI (sM n b fl me st lk cm v nu) pt hd tx ps ru ty rf (g + (j - lo)) (nI lo) (nI hi) sp cd pl gv) → va_S (va_A (ModC mo sa pa ha ta cJ cI (sM n b fl me st lk cm v nu) pt hd tx ps ru ty rf lks lo1 hi1 sp cd pl gv) s.heap.size) s.heap H locs → ∀ ls : Array Slot, lv_has ls 7 [(0, .ref mo), (1, .long x), (5, .int (nI hi)), (6, .int (nI j))] → W p l e ({ frames := 1, cells := 0, slots := 0, locals := 24 } : Room) s m args below meth c H locs 0 0 (ZMi below args s D (ModC mo sa pa ha ta cJ cI (sM n b fl me st lk cm v nu) pt hd tx ps ru ty rf lks lo1 hi1 sp cd pl gv) (oI (sr1 fl v n b x)) (ModC mo sa pa ha ta cJ cI (sM n b fl me st lk cm v nu) pt hd tx ps ru ty rf (sr2 fl v n b x) (sr3 fl v n b x) (sr4 fl v n b x) sp cd pl gv)) (F0 m 171 ls []) := by
          intro K
          induction K with
          | zero => intro j hK0; exact absurd hK0 (Nat.not_lt_zero _)
          | succ K ih171 =>
            intro j hKm hj hj2 hf H locs hP hD hS ls hl
            refine lv_iload hx hb dX7_searches_171 (lv_at hl 3 rfl) ?_
            refine lv_iload hx hb dX7_searches_173 (lv_at hl 2 rfl) ?_
            refine wv_icmp_ge (tgt := 212) hx hb (by omega) (by omega) dX7_searches_175 (by decide) (fun c175 => ?_) (fun c175 => ?_)
            · skip
              have hst2 : fnr (eqp v x) lo (hi - lo) = none := by rw [hf, show hi - j = 0 by omega]; rfl
              refine lv_sipush (v := (-1000)) hx hb dX7_searches_212 (by decide) ?_
              have ew0_lks : sr2 fl v n b x = g + (j - lo) := by rw [sr2_n hr9, hO, hst2, hg9, hl1, hl2]; show g + _ = _; unfold olk; dsimp only; omega
              have ew0_lo1 : sr3 fl v n b x = nI lo := by rw [sr3_n hr9, hl1]
              have ew0_hi1 : sr4 fl v n b x = nI hi := by rw [sr4_n hr9, hl2]
              exact wv_iretM hx hb hr hlocks hP hD hS (by rw [sr1_n hr9, hO, hst2]; rfl) (by rw [ew0_hi1, ew0_lks, ew0_lo1]) dX7_searches_215
            · skip
              have hs2 : hi - j = (hi - (j + 1)) + 1 := by omega
              refine lv_aload_n hx hb dX7_searches_178 rfl (lv_at hl 0 rfl) ?_
              refine lv_dup hx hb dX7_searches_179 rfl ?_
              refine va_get (D := D) (ci := 5) (C := RX7) (T := TX7) (N := 15) hx hb hts hinX7 hown hK hP 0 rfl rfl 8 (by decide) (hts (.fieldLink RX7 107 "NearRanksModel" "looks" "I") (by decide +kernel)) (fun _ h9 => h9) rfl dX7_searches_180 ?_
              refine lv_iconst (v := nI 1) hx hb dX7_searches_183 (by decide) ?_
              refine lv_iadd hx hb dX7_searches_184 ?_
              refine wv_ti (nI_add _ _) ?_
              refine va_put (D := D) (ci := 5) (v := .int (nI ((g + (j - lo)) + 1))) (ty := .int) (C := RX7) (T := TX7) (N := 15) hx hb hts hinX7 tyX7 tyX7_ok nmX7 hown hK hP hD hS 0 rfl rfl 8 (by decide) (hts (.fieldLink RX7 107 "NearRanksModel" "looks" "I") (by decide +kernel)) (fun _ h9 => h9) rfl (by decide +kernel) rfl rfl (Nat.le_of_ble_eq_true rfl) dX7_searches_185 (fun H locs hP hD hS => ?_)
              have hP : va_P D vwCl (ModC mo sa pa ha ta cJ cI (sM n b fl me st lk cm v nu) pt hd tx ps ru ty rf ((g + (j - lo)) + 1) (nI lo) (nI hi) sp cd pl gv) H := hP
              have hD : va_D _ (ModC mo sa pa ha ta cJ cI (sM n b fl me st lk cm v nu) pt hd tx ps ru ty rf ((g + (j - lo)) + 1) (nI lo) (nI hi) sp cd pl gv) := hD
              refine lv_aload_n hx hb dX7_searches_188 rfl (lv_at hl 0 rfl) ?_
              refine va_get (D := D) (ci := 5) (C := RX7) (T := TX7) (N := 15) hx hb hts hinX7 hown hK hP 0 rfl rfl 0 (by decide) (hts (.fieldLink RX7 7 "NearRanksModel" "s" "[J") (by decide +kernel)) (fun _ h9 => h9) rfl dX7_searches_189 ?_
              refine lv_bipush (v := nI 7) hx hb dX7_searches_192 (by decide) ?_
              refine lv_iload hx hb dX7_searches_194 (lv_at hl 3 rfl) ?_
              refine lv_iadd hx hb dX7_searches_196 ?_
              refine wv_ti (nI_add _ _) ?_
              refine wv_lald hx hb hK hP 1 0 rfl rfl (k := 7 + j) (by omega) (by decide) dX7_searches_197 ?_
              refine wv_tl (y := v j) (sM_v (by omega) (by omega)) ?_
              refine lv_lload_n hx hb dX7_searches_198 rfl (lv_at hl 1 rfl) ?_
              refine wv_lc_ne (tgt := 206) hx hb dX7_searches_199 dX7_searches_200 (by decide) (fun c200 => ?_) (fun c200 => ?_)
              · skip
                refine lv_iinc (v := nI (j + 1)) (lv' := [(6, .int (nI (j + 1))), (0, .ref mo), (1, .long x), (5, .int (nI hi))]) hx hb dX7_searches_206 hl (k := 3) rfl (nI_1 _) (by decide) rfl (fun ls hl => ?_)
                refine lv_goto (tgt := 171) hx hb dX7_searches_209 (by decide) ?_
                have el_w0_lks : g + ((j + 1) - lo) = (g + (j - lo)) + 1 := by omega
                exact ih171 (j + 1) (by omega) (by first | assumption | omega) (by first | assumption | omega) (by rw [hf, hs2, fnr_s, if_neg (by unfold eqp; rw [decide_eq_false c200]; decide)]) _ _ (by first | (rw [el_w0_lks]; exact hP) | (simp only [el_w0_lks]; exact hP) | exact hP) (by first | (rw [el_w0_lks]; exact hD) | (simp only [el_w0_lks]; exact hD) | exact hD) hS ls (by first | (rw [el_w0_lks]; exact lv_sub hl [1, 2, 3, 0] rfl) | (simp only [el_w0_lks]; exact lv_sub hl [1, 2, 3, 0] rfl) | exact lv_sub hl [1, 2, 3, 0] rfl)
              · skip
                have hst2 : fnr (eqp v x) lo (hi - lo) = some j := by rw [hf, hs2, fnr_s, if_pos (by unfold eqp; exact decide_eq_true c200)]
                refine lv_iload hx hb dX7_searches_203 (lv_at hl 3 rfl) ?_
                have ew0_lks : sr2 fl v n b x = (g + (j - lo)) + 1 := by rw [sr2_n hr9, hO, hst2, hg9, hl1, hl2]; show g + _ = _; unfold olk; dsimp only; omega
                have ew0_lo1 : sr3 fl v n b x = nI lo := by rw [sr3_n hr9, hl1]
                have ew0_hi1 : sr4 fl v n b x = nI hi := by rw [sr4_n hr9, hl2]
                exact wv_iretM hx hb hr hlocks hP hD hS (by rw [sr1_n hr9, hO, hst2]; rfl) (by rw [ew0_hi1, ew0_lks, ew0_lo1]) dX7_searches_205
        exact loop171 (hi - lo + 1) lo (by omega) (by first | assumption | omega) (by first | assumption | omega) (by rfl) _ _ (by first | (rw [el_w0_lks]; exact hP) | (simp only [el_w0_lks]; exact hP) | exact hP) (by first | (rw [el_w0_lks]; exact hD) | (simp only [el_w0_lks]; exact hD) | exact hD) hS ls (by first | (rw [el_w0_lks]; exact lv_sub hl [1, 2, 5, 0] rfl) | (simp only [el_w0_lks]; exact lv_sub hl [1, 2, 5, 0] rfl) | exact lv_sub hl [1, 2, 5, 0] rfl)
      · skip
        have hw2 : ¬ hi - lo ≤ 2 * (2 * b) + 2 := by omega
        have hs : 32 - g = (32 - (g + 1)) + 1 := by omega
        refine lv_iload hx hb dX7_searches_50 (lv_at hl 3 rfl) ?_
        refine lv_iload hx hb dX7_searches_52 (lv_at hl 4 rfl) ?_
        refine lv_iadd hx hb dX7_searches_54 ?_
        refine wv_ti (nI_add _ _) ?_
        refine lv_iconst (v := nI 2) hx hb dX7_searches_55 (by decide) ?_
        refine lv_idiv hx hb dX7_searches_56 (by decide) ?_
        refine wv_ti (pk_div (by omega) (by omega) (by omega)) ?_
        refine lv_istore (lv' := [(6, .int (nI ((lo + hi) / 2))), (0, .ref mo), (1, .long x), (3, .int (nI (2 * b))), (4, .int (nI lo)), (5, .int (nI hi))]) hx hb dX7_searches_57 hl (by decide) rfl (fun ls hl => ?_)
        refine lv_aload_n hx hb dX7_searches_59 rfl (lv_at hl 1 rfl) ?_
        refine lv_dup hx hb dX7_searches_60 rfl ?_
        refine va_get (D := D) (ci := 5) (C := RX7) (T := TX7) (N := 15) hx hb hts hinX7 hown hK hP 0 rfl rfl 8 (by decide) (hts (.fieldLink RX7 107 "NearRanksModel" "looks" "I") (by decide +kernel)) (fun _ h9 => h9) rfl dX7_searches_61 ?_
        refine lv_iconst (v := nI 1) hx hb dX7_searches_64 (by decide) ?_
        refine lv_iadd hx hb dX7_searches_65 ?_
        refine wv_ti (nI_add _ _) ?_
        refine va_put (D := D) (ci := 5) (v := .int (nI (g + 1))) (ty := .int) (C := RX7) (T := TX7) (N := 15) hx hb hts hinX7 tyX7 tyX7_ok nmX7 hown hK hP hD hS 0 rfl rfl 8 (by decide) (hts (.fieldLink RX7 107 "NearRanksModel" "looks" "I") (by decide +kernel)) (fun _ h9 => h9) rfl (by decide +kernel) rfl rfl (Nat.le_of_ble_eq_true rfl) dX7_searches_66 (fun H locs hP hD hS => ?_)
        have hP : va_P D vwCl (ModC mo sa pa ha ta cJ cI (sM n b fl me st lk cm v nu) pt hd tx ps ru ty rf (g + 1) (-1000) (-1000) sp cd pl gv) H := hP
        have hD : va_D _ (ModC mo sa pa ha ta cJ cI (sM n b fl me st lk cm v nu) pt hd tx ps ru ty rf (g + 1) (-1000) (-1000) sp cd pl gv) := hD
        refine lv_aload_n hx hb dX7_searches_69 rfl (lv_at hl 1 rfl) ?_
        refine va_get (D := D) (ci := 5) (C := RX7) (T := TX7) (N := 15) hx hb hts hinX7 hown hK hP 0 rfl rfl 0 (by decide) (hts (.fieldLink RX7 7 "NearRanksModel" "s" "[J") (by decide +kernel)) (fun _ h9 => h9) rfl dX7_searches_70 ?_
        refine lv_bipush (v := nI 7) hx hb dX7_searches_73 (by decide) ?_
        refine lv_iload hx hb dX7_searches_75 (lv_at hl 0 rfl) ?_
        refine lv_iadd hx hb dX7_searches_77 ?_
        refine wv_ti (nI_add _ _) ?_
        refine wv_lald hx hb hK hP 1 0 rfl rfl (k := 7 + ((lo + hi) / 2)) (by omega) (by decide) dX7_searches_78 ?_
        refine wv_tl (y := v ((lo + hi) / 2)) (sM_v (by omega) (by omega)) ?_
        refine lv_lload_n hx hb dX7_searches_79 rfl (lv_at hl 2 rfl) ?_
        refine wv_lc_ne (tgt := 87) hx hb dX7_searches_80 dX7_searches_81 (by decide) (fun c81 => ?_) (fun c81 => ?_)
        · skip
          refine lv_aload_n hx hb dX7_searches_87 rfl (lv_at hl 1 rfl) ?_
          refine lv_aload_n hx hb dX7_searches_88 rfl (lv_at hl 1 rfl) ?_
          refine va_get (D := D) (ci := 5) (C := RX7) (T := TX7) (N := 15) hx hb hts hinX7 hown hK hP 0 rfl rfl 0 (by decide) (hts (.fieldLink RX7 7 "NearRanksModel" "s" "[J") (by decide +kernel)) (fun _ h9 => h9) rfl dX7_searches_89 ?_
          refine lv_bipush (v := nI 7) hx hb dX7_searches_92 (by decide) ?_
          refine lv_iload hx hb dX7_searches_94 (lv_at hl 0 rfl) ?_
          refine lv_iadd hx hb dX7_searches_96 ?_
          refine wv_ti (nI_add _ _) ?_
          refine wv_lald hx hb hK hP 1 0 rfl rfl (k := 7 + ((lo + hi) / 2)) (by omega) (by decide) dX7_searches_97 ?_
          refine wv_tl (y := v ((lo + hi) / 2)) (sM_v (by omega) (by omega)) ?_
          refine lv_lload_n hx hb dX7_searches_98 rfl (lv_at hl 2 rfl) ?_
          refine wv_callPi (As := [.long (v ((lo + hi) / 2)), .long x]) (rest := []) ⟨hx, hb, hml, hown, hts⟩ (kX7_isAhead l D mo sa pa ha ta cJ cI n b fl me st lk cm v nu pt hd tx ps ru ty rf (g + 1) (-1000) (-1000) sp cd pl gv (v ((lo + hi) / 2)) x) (cwV 2 hts gX7_searches_X7_isAhead rfl rfl rfl (by decide +kernel) ⟨Nat.le_of_ble_eq_true rfl, Nat.le_of_ble_eq_true rfl⟩) hK hN hP hS hA [0, 1, 2, 3, 4] [0, 1] rfl rfl 0 5 rfl rfl rfl rfl hl.1 rfl (Nat.le_of_ble_eq_true rfl) dX7_searches_99 ⟨Nat.zero_le _, Nat.zero_le _⟩ (fun H locs hz9 hP hS => ?_)
          refine wv_ifeqB (tgt := 128) hx hb dX7_searches_102 (by decide) (fun c102 => ?_) (fun c102 => ?_)
          · skip
            refine lv_iload hx hb dX7_searches_128 (lv_at hl 0 rfl) ?_
            refine lv_iload_n hx hb dX7_searches_130 rfl (lv_at hl 3 rfl) ?_
            refine lv_iadd hx hb dX7_searches_131 ?_
            refine wv_ti (nI_add _ _) ?_
            refine lv_iconst (v := nI 1) hx hb dX7_searches_132 (by decide) ?_
            refine lv_iadd hx hb dX7_searches_133 ?_
            refine wv_ti (nI_add _ _) ?_
            refine lv_iload hx hb dX7_searches_134 (lv_at hl 5 rfl) ?_
            refine wv_icmp_ge (tgt := 148) hx hb (by omega) (by omega) dX7_searches_136 (by decide) (fun c136 => by exfalso; omega) (fun c136 => ?_)
            refine lv_iload hx hb dX7_searches_139 (lv_at hl 0 rfl) ?_
            refine lv_iload_n hx hb dX7_searches_141 rfl (lv_at hl 3 rfl) ?_
            refine lv_iadd hx hb dX7_searches_142 ?_
            refine wv_ti (nI_add _ _) ?_
            refine lv_iconst (v := nI 1) hx hb dX7_searches_143 (by decide) ?_
            refine lv_iadd hx hb dX7_searches_144 ?_
            refine wv_ti (nI_add _ _) ?_
            refine lv_goto (tgt := 150) hx hb dX7_searches_145 (by decide) ?_
            refine lv_istore (lv' := [(5, .int (nI ((((lo + hi) / 2) + (2 * b)) + 1))), (6, .int (nI ((lo + hi) / 2))), (0, .ref mo), (1, .long x), (3, .int (nI (2 * b))), (4, .int (nI lo))]) hx hb dX7_searches_150 hl (by decide) rfl (fun ls hl => ?_)
            refine lv_goto (tgt := 37) hx hb dX7_searches_152 (by decide) ?_
            exact ih37 lo ((((lo + hi) / 2) + (2 * b)) + 1) (g + 1) (by omega) (by first | assumption | omega) (by first | assumption | omega) (by first | assumption | omega) (by first | rw [hr1, hs, srw_up hw2 c81 c102] | rw [hr1, hs, srw_dn hw2 c81 c102]) (by first | (rw [hr2, hs, srw_up hw2 c81 c102]; show g + (_ + 1) = _; omega) | (rw [hr2, hs, srw_dn hw2 c81 c102]; show g + (_ + 1) = _; omega)) (by first | rw [hr3, hs, srw_up hw2 c81 c102] | rw [hr3, hs, srw_dn hw2 c81 c102]) _ _ hP hD hS ls (lv_sub hl [2, 3, 4, 5, 0] rfl)
          · skip
            refine lv_iload hx hb dX7_searches_105 (lv_at hl 0 rfl) ?_
            refine lv_iload_n hx hb dX7_searches_107 rfl (lv_at hl 3 rfl) ?_
            refine lv_isub hx hb dX7_searches_108 ?_
            refine wv_ti (pk_sub (by omega)) ?_
            refine lv_iload hx hb dX7_searches_109 (lv_at hl 4 rfl) ?_
            refine wv_icmp_le (tgt := 121) hx hb (by omega) (by omega) dX7_searches_111 (by decide) (fun c111 => by exfalso; omega) (fun c111 => ?_)
            refine lv_iload hx hb dX7_searches_114 (lv_at hl 0 rfl) ?_
            refine lv_iload_n hx hb dX7_searches_116 rfl (lv_at hl 3 rfl) ?_
            refine lv_isub hx hb dX7_searches_117 ?_
            refine wv_ti (pk_sub (by omega)) ?_
            refine lv_goto (tgt := 123) hx hb dX7_searches_118 (by decide) ?_
            refine lv_istore (lv' := [(4, .int (nI (((lo + hi) / 2) - (2 * b)))), (6, .int (nI ((lo + hi) / 2))), (0, .ref mo), (1, .long x), (3, .int (nI (2 * b))), (5, .int (nI hi))]) hx hb dX7_searches_123 hl (by decide) rfl (fun ls hl => ?_)
            refine lv_goto (tgt := 152) hx hb dX7_searches_125 (by decide) ?_
            refine lv_goto (tgt := 37) hx hb dX7_searches_152 (by decide) ?_
            exact ih37 (((lo + hi) / 2) - (2 * b)) hi (g + 1) (by omega) (by first | assumption | omega) (by first | assumption | omega) (by first | assumption | omega) (by first | rw [hr1, hs, srw_up hw2 c81 c102] | rw [hr1, hs, srw_dn hw2 c81 c102]) (by first | (rw [hr2, hs, srw_up hw2 c81 c102]; show g + (_ + 1) = _; omega) | (rw [hr2, hs, srw_dn hw2 c81 c102]; show g + (_ + 1) = _; omega)) (by first | rw [hr3, hs, srw_up hw2 c81 c102] | rw [hr3, hs, srw_dn hw2 c81 c102]) _ _ hP hD hS ls (lv_sub hl [2, 3, 4, 0, 5] rfl)
        · skip
          have hst : (srw fl v (2 * b) x (32 - g) lo hi) = (some ((lo + hi) / 2), 1, lo, hi) := by rw [hs]; exact srw_hit hw2 c81
          have hr9 : (srR fl v n b x).1 = some ((lo + hi) / 2) := by rw [hr1, hst]
          refine lv_iload hx hb dX7_searches_84 (lv_at hl 0 rfl) ?_
          have ew0_lks : sr2 fl v n b x = g + 1 := by first | (rw [sr2_s hr9, hr2, hst]; done) | (rw [sr2_s hr9, hr2, hst]; rfl)
          have ew0_lo1 : sr3 fl v n b x = (-1000) := by rw [sr3_s hr9]
          have ew0_hi1 : sr4 fl v n b x = (-1000) := by rw [sr4_s hr9]
          exact wv_iretM hx hb hr hlocks hP hD hS (by rw [sr1_s hr9]; rfl) (by rw [ew0_hi1, ew0_lks, ew0_lo1]) dX7_searches_86
  exact loop37 (n - 0 + 1) 0 n 0 (by omega) (by first | assumption | omega) (by first | assumption | omega) (by first | assumption | omega) (by rfl) (by rw [Nat.zero_add]; rfl) (by rfl) _ _ hP hD hS ls (lv_sub hl [3, 4, 2, 1, 0] rfl)
