/-! The model: the methods that change it. -/
set_option maxHeartbeats 4000000 in
set_option maxRecDepth 100000 in
theorem kX7_swaps (l : Launch) (D : va_G) (mo : Nat) (sa : Nat) (pa : Nat) (ha : Nat) (ta : Nat) (cJ : ClassId) (cI : ClassId) (n : Nat) (b : Nat) (fl : Bool) (me : Bool) (st : Int64) (lk : Int64) (cm : Int64) (v : Nat → Int64) (nu : Nat → Int64) (pt : Nat → Int64) (hd : Nat → Int64) (tx : Nat → Int32) (ps : Nat) (ru : Bool) (ty : Nat) (rf : Nat) (lks : Nat) (lo1 : Int32) (hi1 : Int32) (sp : Nat) (cd : Int32) (pl : Int32) (gv : Int64) (k : Nat) (hn : n ≤ 32) (hk1 : k + 1 < n) : MMv l yX7_swaps wsX7_swaps ({ frames := 0, cells := 0, slots := 0, locals := 0 } : Room) [.ref mo, .int (nI k)] D (ModC mo sa pa ha ta cJ cI (sM n b fl me st lk cm v nu) pt hd tx ps ru ty rf lks lo1 hi1 sp cd pl gv) [(cJ, .long), (cI, .int)] (ModC mo sa pa ha ta cJ cI (sM n b fl me st lk cm (swa v k) (swa nu k)) pt hd tx ps ru ty rf lks lo1 hi1 sp cd pl gv) := by
  refine MMv_of (cc := cX7_swaps) (maxL := 6) (ret := none) (by decide +kernel) rfl (Nat.le_of_ble_eq_true rfl) ?_
  intro p e s m args below meth c hx hb hr hts hown hlocks hml hP hK hN hD ls hl
  have hown : s.vm.findClass RX7 = some m.cls := hown
  have hl : lv_has ls 6 [(0, .ref mo), (1, .int (nI k))] := hl
  have hS : va_S (va_A (ModC mo sa pa ha ta cJ cI (sM n b fl me st lk cm v nu) pt hd tx ps ru ty rf lks lo1 hi1 sp cd pl gv) s.heap.size) s.heap s.heap [] := va_S.rf
  have hA := wk_hA (ModC mo sa pa ha ta cJ cI (sM n b fl me st lk cm v nu) pt hd tx ps ru ty rf lks lo1 hi1 sp cd pl gv) s.heap.size
  have hD9 : True := trivial
  have hinX7 : ∀ w ∈ wsX70, w ∈ wsX7_swaps := by decide +kernel
  refine lv_aload_n hx hb dX7_swaps_0 rfl (lv_at hl 0 rfl) ?_
  refine va_get (D := D) (ci := 5) (C := RX7) (T := TX7) (N := 15) hx hb hts hinX7 hown hK hP 0 rfl rfl 0 (by decide) (hts (.fieldLink RX7 7 "NearRanksModel" "s" "[J") (by decide +kernel)) (fun _ h9 => h9) rfl dX7_swaps_1 ?_
  refine lv_bipush (v := nI 7) hx hb dX7_swaps_4 (by decide) ?_
  refine lv_iload_n hx hb dX7_swaps_6 rfl (lv_at hl 1 rfl) ?_
  refine lv_iadd hx hb dX7_swaps_7 ?_
  refine wv_ti (nI_add _ _) ?_
  refine wv_lald hx hb hK hP 1 0 rfl rfl (k := 7 + k) (by omega) (by decide) dX7_swaps_8 ?_
  refine wv_tl (y := v k) (sM_v (by omega) (by omega)) ?_
  refine lv_lstore_n (lv' := [(2, .long (v k)), (0, .ref mo), (1, .int (nI k))]) hx hb dX7_swaps_9 rfl hl (by decide) rfl (fun ls hl => ?_)
  refine lv_aload_n hx hb dX7_swaps_10 rfl (lv_at hl 1 rfl) ?_
  refine va_get (D := D) (ci := 5) (C := RX7) (T := TX7) (N := 15) hx hb hts hinX7 hown hK hP 0 rfl rfl 0 (by decide) (hts (.fieldLink RX7 7 "NearRanksModel" "s" "[J") (by decide +kernel)) (fun _ h9 => h9) rfl dX7_swaps_11 ?_
  refine lv_bipush (v := nI 7) hx hb dX7_swaps_14 (by decide) ?_
  refine lv_iload_n hx hb dX7_swaps_16 rfl (lv_at hl 2 rfl) ?_
  refine lv_iadd hx hb dX7_swaps_17 ?_
  refine wv_ti (nI_add _ _) ?_
  refine lv_aload_n hx hb dX7_swaps_18 rfl (lv_at hl 1 rfl) ?_
  refine va_get (D := D) (ci := 5) (C := RX7) (T := TX7) (N := 15) hx hb hts hinX7 hown hK hP 0 rfl rfl 0 (by decide) (hts (.fieldLink RX7 7 "NearRanksModel" "s" "[J") (by decide +kernel)) (fun _ h9 => h9) rfl dX7_swaps_19 ?_
  refine lv_bipush (v := nI 7) hx hb dX7_swaps_22 (by decide) ?_
  refine lv_iload_n hx hb dX7_swaps_24 rfl (lv_at hl 2 rfl) ?_
  refine lv_iadd hx hb dX7_swaps_25 ?_
  refine wv_ti (nI_add _ _) ?_
  refine lv_iconst (v := nI 1) hx hb dX7_swaps_26 (by decide) ?_
  refine lv_iadd hx hb dX7_swaps_27 ?_
  refine wv_ti (nI_add _ _) ?_
  refine wv_lald hx hb hK hP 1 0 rfl rfl (k := (7 + k) + 1) (by omega) (by decide) dX7_swaps_28 ?_
  refine wv_tl (y := v (k + 1)) (sM_v (by omega) (by omega)) ?_
  refine wv_last hx hb hK hP hD hS 1 0 rfl rfl (k := 7 + k) (by omega) (by decide) dX7_swaps_29 (fun H locs hP hD hS => ?_)
  rw [show vp_updL (sM n b fl me st lk cm v nu) (7 + k) (v (k + 1)) = sM n b fl me st lk cm (vp_updL v k (v (k + 1))) nu from sM_uv _ (by omega) (by omega)] at hP hD
  have hP : va_P D vwCl (ModC mo sa pa ha ta cJ cI (sM n b fl me st lk cm (vp_updL v k (v (k + 1))) nu) pt hd tx ps ru ty rf lks lo1 hi1 sp cd pl gv) H := hP
  have hD : va_D _ (ModC mo sa pa ha ta cJ cI (sM n b fl me st lk cm (vp_updL v k (v (k + 1))) nu) pt hd tx ps ru ty rf lks lo1 hi1 sp cd pl gv) := hD
  refine lv_aload_n hx hb dX7_swaps_30 rfl (lv_at hl 1 rfl) ?_
  refine va_get (D := D) (ci := 5) (C := RX7) (T := TX7) (N := 15) hx hb hts hinX7 hown hK hP 0 rfl rfl 0 (by decide) (hts (.fieldLink RX7 7 "NearRanksModel" "s" "[J") (by decide +kernel)) (fun _ h9 => h9) rfl dX7_swaps_31 ?_
  refine lv_bipush (v := nI 7) hx hb dX7_swaps_34 (by decide) ?_
  refine lv_iload_n hx hb dX7_swaps_36 rfl (lv_at hl 2 rfl) ?_
  refine lv_iadd hx hb dX7_swaps_37 ?_
  refine wv_ti (nI_add _ _) ?_
  refine lv_iconst (v := nI 1) hx hb dX7_swaps_38 (by decide) ?_
  refine lv_iadd hx hb dX7_swaps_39 ?_
  refine wv_ti (nI_add _ _) ?_
  refine lv_lload_n hx hb dX7_swaps_40 rfl (lv_at hl 0 rfl) ?_
  refine wv_last hx hb hK hP hD hS 1 0 rfl rfl (k := (7 + k) + 1) (by omega) (by decide) dX7_swaps_41 (fun H locs hP hD hS => ?_)
  rw [show vp_updL (sM n b fl me st lk cm (vp_updL v k (v (k + 1))) nu) ((7 + k) + 1) (v k) = sM n b fl me st lk cm (vp_updL (vp_updL v k (v (k + 1))) (k + 1) (v k)) nu from sM_uv _ (by omega) (by omega)] at hP hD
  have hP : va_P D vwCl (ModC mo sa pa ha ta cJ cI (sM n b fl me st lk cm (vp_updL (vp_updL v k (v (k + 1))) (k + 1) (v k)) nu) pt hd tx ps ru ty rf lks lo1 hi1 sp cd pl gv) H := hP
  have hD : va_D _ (ModC mo sa pa ha ta cJ cI (sM n b fl me st lk cm (vp_updL (vp_updL v k (v (k + 1))) (k + 1) (v k)) nu) pt hd tx ps ru ty rf lks lo1 hi1 sp cd pl gv) := hD
  refine lv_aload_n hx hb dX7_swaps_42 rfl (lv_at hl 1 rfl) ?_
  refine va_get (D := D) (ci := 5) (C := RX7) (T := TX7) (N := 15) hx hb hts hinX7 hown hK hP 0 rfl rfl 0 (by decide) (hts (.fieldLink RX7 7 "NearRanksModel" "s" "[J") (by decide +kernel)) (fun _ h9 => h9) rfl dX7_swaps_43 ?_
  refine lv_bipush (v := nI 39) hx hb dX7_swaps_46 (by decide) ?_
  refine lv_iload_n hx hb dX7_swaps_48 rfl (lv_at hl 2 rfl) ?_
  refine lv_iadd hx hb dX7_swaps_49 ?_
  refine wv_ti (nI_add _ _) ?_
  refine wv_lald hx hb hK hP 1 0 rfl rfl (k := 39 + k) (by omega) (by decide) dX7_swaps_50 ?_
  refine wv_tl (y := nu k) (sM_n (by omega) (by omega)) ?_
  refine lv_lstore (lv' := [(4, .long (nu k)), (2, .long (v k)), (0, .ref mo), (1, .int (nI k))]) hx hb dX7_swaps_51 hl (by decide) rfl (fun ls hl => ?_)
  refine lv_aload_n hx hb dX7_swaps_53 rfl (lv_at hl 2 rfl) ?_
  refine va_get (D := D) (ci := 5) (C := RX7) (T := TX7) (N := 15) hx hb hts hinX7 hown hK hP 0 rfl rfl 0 (by decide) (hts (.fieldLink RX7 7 "NearRanksModel" "s" "[J") (by decide +kernel)) (fun _ h9 => h9) rfl dX7_swaps_54 ?_
  refine lv_bipush (v := nI 39) hx hb dX7_swaps_57 (by decide) ?_
  refine lv_iload_n hx hb dX7_swaps_59 rfl (lv_at hl 3 rfl) ?_
  refine lv_iadd hx hb dX7_swaps_60 ?_
  refine wv_ti (nI_add _ _) ?_
  refine lv_aload_n hx hb dX7_swaps_61 rfl (lv_at hl 2 rfl) ?_
  refine va_get (D := D) (ci := 5) (C := RX7) (T := TX7) (N := 15) hx hb hts hinX7 hown hK hP 0 rfl rfl 0 (by decide) (hts (.fieldLink RX7 7 "NearRanksModel" "s" "[J") (by decide +kernel)) (fun _ h9 => h9) rfl dX7_swaps_62 ?_
  refine lv_bipush (v := nI 39) hx hb dX7_swaps_65 (by decide) ?_
  refine lv_iload_n hx hb dX7_swaps_67 rfl (lv_at hl 3 rfl) ?_
  refine lv_iadd hx hb dX7_swaps_68 ?_
  refine wv_ti (nI_add _ _) ?_
  refine lv_iconst (v := nI 1) hx hb dX7_swaps_69 (by decide) ?_
  refine lv_iadd hx hb dX7_swaps_70 ?_
  refine wv_ti (nI_add _ _) ?_
  refine wv_lald hx hb hK hP 1 0 rfl rfl (k := (39 + k) + 1) (by omega) (by decide) dX7_swaps_71 ?_
  refine wv_tl (y := nu (k + 1)) (sM_n (by omega) (by omega)) ?_
  refine wv_last hx hb hK hP hD hS 1 0 rfl rfl (k := 39 + k) (by omega) (by decide) dX7_swaps_72 (fun H locs hP hD hS => ?_)
  rw [show vp_updL (sM n b fl me st lk cm (vp_updL (vp_updL v k (v (k + 1))) (k + 1) (v k)) nu) (39 + k) (nu (k + 1)) = sM n b fl me st lk cm (vp_updL (vp_updL v k (v (k + 1))) (k + 1) (v k)) (vp_updL nu k (nu (k + 1))) from sM_un _ (by omega) (by omega)] at hP hD
  have hP : va_P D vwCl (ModC mo sa pa ha ta cJ cI (sM n b fl me st lk cm (vp_updL (vp_updL v k (v (k + 1))) (k + 1) (v k)) (vp_updL nu k (nu (k + 1)))) pt hd tx ps ru ty rf lks lo1 hi1 sp cd pl gv) H := hP
  have hD : va_D _ (ModC mo sa pa ha ta cJ cI (sM n b fl me st lk cm (vp_updL (vp_updL v k (v (k + 1))) (k + 1) (v k)) (vp_updL nu k (nu (k + 1)))) pt hd tx ps ru ty rf lks lo1 hi1 sp cd pl gv) := hD
  refine lv_aload_n hx hb dX7_swaps_73 rfl (lv_at hl 2 rfl) ?_
  refine va_get (D := D) (ci := 5) (C := RX7) (T := TX7) (N := 15) hx hb hts hinX7 hown hK hP 0 rfl rfl 0 (by decide) (hts (.fieldLink RX7 7 "NearRanksModel" "s" "[J") (by decide +kernel)) (fun _ h9 => h9) rfl dX7_swaps_74 ?_
  refine lv_bipush (v := nI 39) hx hb dX7_swaps_77 (by decide) ?_
  refine lv_iload_n hx hb dX7_swaps_79 rfl (lv_at hl 3 rfl) ?_
  refine lv_iadd hx hb dX7_swaps_80 ?_
  refine wv_ti (nI_add _ _) ?_
  refine lv_iconst (v := nI 1) hx hb dX7_swaps_81 (by decide) ?_
  refine lv_iadd hx hb dX7_swaps_82 ?_
  refine wv_ti (nI_add _ _) ?_
  refine lv_lload hx hb dX7_swaps_83 (lv_at hl 0 rfl) ?_
  refine wv_last hx hb hK hP hD hS 1 0 rfl rfl (k := (39 + k) + 1) (by omega) (by decide) dX7_swaps_85 (fun H locs hP hD hS => ?_)
  rw [show vp_updL (sM n b fl me st lk cm (vp_updL (vp_updL v k (v (k + 1))) (k + 1) (v k)) (vp_updL nu k (nu (k + 1)))) ((39 + k) + 1) (nu k) = sM n b fl me st lk cm (vp_updL (vp_updL v k (v (k + 1))) (k + 1) (v k)) (vp_updL (vp_updL nu k (nu (k + 1))) (k + 1) (nu k)) from sM_un _ (by omega) (by omega)] at hP hD
  have hP : va_P D vwCl (ModC mo sa pa ha ta cJ cI (sM n b fl me st lk cm (vp_updL (vp_updL v k (v (k + 1))) (k + 1) (v k)) (vp_updL (vp_updL nu k (nu (k + 1))) (k + 1) (nu k))) pt hd tx ps ru ty rf lks lo1 hi1 sp cd pl gv) H := hP
  have hD : va_D _ (ModC mo sa pa ha ta cJ cI (sM n b fl me st lk cm (vp_updL (vp_updL v k (v (k + 1))) (k + 1) (v k)) (vp_updL (vp_updL nu k (nu (k + 1))) (k + 1) (nu k))) pt hd tx ps ru ty rf lks lo1 hi1 sp cd pl gv) := hD
  have ew0_v : (swa v k) = (vp_updL (vp_updL v k (v (k + 1))) (k + 1) (v k)) := by exact (swa_L v k).symm
  have ew0_nu : (swa nu k) = (vp_updL (vp_updL nu k (nu (k + 1))) (k + 1) (nu k)) := by exact (swa_L nu k).symm
  exact wv_vretM hx hb hr hlocks hP hD hS (by rw [ew0_nu, ew0_v]) dX7_swaps_86

set_option maxHeartbeats 4000000 in
set_option maxRecDepth 100000 in
theorem kX7_puts (l : Launch) (D : va_G) (mo : Nat) (sa : Nat) (pa : Nat) (ha : Nat) (ta : Nat) (cJ : ClassId) (cI : ClassId) (n : Nat) (b : Nat) (fl : Bool) (me : Bool) (st : Int64) (lk : Int64) (cm : Int64) (v : Nat → Int64) (nu : Nat → Int64) (pt : Nat → Int64) (hd : Nat → Int64) (tx : Nat → Int32) (ps : Nat) (ru : Bool) (ty : Nat) (rf : Nat) (lks : Nat) (lo1 : Int32) (hi1 : Int32) (sp : Nat) (cd : Int32) (pl : Int32) (gv : Int64) (k : Nat) (x : Int64) (hn : n < 32) (hk : k ≤ n) : MMv l yX7_puts wsX7_puts ({ frames := 1, cells := 0, slots := 0, locals := 21 } : Room) [.ref mo, .int (nI k), .long x] D (ModC mo sa pa ha ta cJ cI (sM n b fl me st lk cm v nu) pt hd tx ps ru ty rf lks lo1 hi1 sp cd pl gv) [(cJ, .long), (cI, .int)] (ModC mo sa pa ha ta cJ cI (sM (n + 1) b fl me st lk (cm + (lN 1)) (insA v n k x) (insA nu n k cm)) pt hd tx ps ru ty rf lks lo1 hi1 sp cd pl gv) := by
  refine MMv_of (cc := cX7_puts) (maxL := 5) (ret := none) (by decide +kernel) rfl (Nat.le_of_ble_eq_true rfl) ?_
  intro p e s m args below meth c hx hb hr hts hown hlocks hml hP hK hN hD ls hl
  have hown : s.vm.findClass RX7 = some m.cls := hown
  have hl : lv_has ls 5 [(0, .ref mo), (1, .int (nI k)), (2, .long x)] := hl
  have hS : va_S (va_A (ModC mo sa pa ha ta cJ cI (sM n b fl me st lk cm v nu) pt hd tx ps ru ty rf lks lo1 hi1 sp cd pl gv) s.heap.size) s.heap s.heap [] := va_S.rf
  have hA := wk_hA (ModC mo sa pa ha ta cJ cI (sM n b fl me st lk cm v nu) pt hd tx ps ru ty rf lks lo1 hi1 sp cd pl gv) s.heap.size
  have hD9 : True := trivial
  have hinX7 : ∀ w ∈ wsX70, w ∈ wsX7_puts := by decide +kernel
  refine lv_aload_n hx hb dX7_puts_0 rfl (lv_at hl 0 rfl) ?_
  refine lv_iconst (v := nI 0) hx hb dX7_puts_1 (by decide) ?_
  refine wv_callPi (As := [.int (nI 0)]) (rest := []) ⟨hx, hb, hml, hown, hts⟩ (kX7_of l D mo sa pa ha ta cJ cI n b fl me st lk cm v nu pt hd tx ps ru ty rf lks lo1 hi1 sp cd pl gv 0 (by first | assumption | omega)) (cwV 1 hts gX7_puts_X7_of rfl rfl rfl (by decide +kernel) ⟨Nat.le_of_ble_eq_true rfl, Nat.le_of_ble_eq_true rfl⟩) hK hN hP hS hA [0, 1, 2, 3, 4] [0, 1] rfl rfl 0 5 rfl rfl rfl rfl hl.1 rfl (Nat.le_of_ble_eq_true rfl) dX7_puts_2 ⟨Nat.zero_le _, Nat.zero_le _⟩ (fun H locs hz9 hP hS => ?_)
  refine wv_ti (y := nI n) of_0 ?_
  refine lv_istore (lv' := [(4, .int (nI n)), (0, .ref mo), (1, .int (nI k)), (2, .long x)]) hx hb dX7_puts_5 hl (by decide) rfl (fun ls hl => ?_)
  have el_w0_v : (opa v n n) = v := by exact opa_n v n
  have el_w0_nu : (opa nu n n) = nu := by exact opa_n nu n
  have loop7 : ∀ (K : Nat) (i : Nat), i < K → k ≤ i → i ≤ n → ∀ (H : Heap) (locs : List Loc), va_P D vwCl (ModC mo sa pa ha ta cJ cI (sM n b fl me st lk cm (opa v n i) (opa nu n i)) pt hd tx ps ru ty rf lks lo1 hi1 sp cd pl gv) H → va_D (va_A (ModC mo sa pa ha ta cJ cI (sM n b fl me st lk cm v nu) pt hd tx ps ru ty rf lks lo1 hi1 sp cd pl gv) s.heap.size) (ModC mo sa pa ha ta cJ cI (sM n b fl me st lk cm (opa v n i) (opa nu n i)) pt hd tx ps ru ty rf lks lo1 hi1 sp cd pl gv) → va_S (va_A (ModC mo sa pa ha ta cJ cI (sM n b fl me st lk cm v nu) pt hd tx ps ru ty rf lks lo1 hi1 sp cd pl gv) s.heap.size) s.heap H locs → ∀ ls : Array Slot, lv_has ls 5 [(0, .ref mo), (1, .int (nI k)), (2, .long x), (4, .int (nI i))] → W p l e ({ frames := 1, cells := 0, slots := 0, locals := 21 } : Room) s m args below meth c H locs 0 0 (ZMv below args s D (ModC mo sa pa ha ta cJ cI (sM n b fl me st lk cm v nu) pt hd tx ps ru ty rf lks lo1 hi1 sp cd pl gv) (ModC mo sa pa ha ta cJ cI (sM (n + 1) b fl me st lk (cm + (lN 1)) (insA v n k x) (insA nu n k cm)) pt hd tx ps ru ty rf lks lo1 hi1 sp cd pl gv)) (F0 m 7 ls []) := by
    intro K
    induction K with
    | zero => intro i hK0; exact absurd hK0 (Nat.not_lt_zero _)
    | succ K ih7 =>
      intro i hKm hki hin H locs hP hD hS ls hl
      refine lv_iload hx hb dX7_puts_7 (lv_at hl 3 rfl) ?_
      refine lv_iload_n hx hb dX7_puts_9 rfl (lv_at hl 1 rfl) ?_
      refine wv_icmp_le (tgt := 63) hx hb (by omega) (by omega) dX7_puts_10 (by decide) (fun c10 => ?_) (fun c10 => ?_)
      · skip
        have ei : i = k := by omega
        rw [ei] at hP hD
        have hP : va_P D vwCl (ModC mo sa pa ha ta cJ cI (sM n b fl me st lk cm (opa v n k) (opa nu n k)) pt hd tx ps ru ty rf lks lo1 hi1 sp cd pl gv) _ := hP
        have hD : va_D _ (ModC mo sa pa ha ta cJ cI (sM n b fl me st lk cm (opa v n k) (opa nu n k)) pt hd tx ps ru ty rf lks lo1 hi1 sp cd pl gv) := hD
        refine lv_aload_n hx hb dX7_puts_63 rfl (lv_at hl 0 rfl) ?_
        refine va_get (D := D) (ci := 5) (C := RX7) (T := TX7) (N := 15) hx hb hts hinX7 hown hK hP 0 rfl rfl 0 (by decide) (hts (.fieldLink RX7 7 "NearRanksModel" "s" "[J") (by decide +kernel)) (fun _ h9 => h9) rfl dX7_puts_64 ?_
        refine lv_bipush (v := nI 7) hx hb dX7_puts_67 (by decide) ?_
        refine lv_iload_n hx hb dX7_puts_69 rfl (lv_at hl 1 rfl) ?_
        refine lv_iadd hx hb dX7_puts_70 ?_
        refine wv_ti (nI_add _ _) ?_
        refine lv_lload_n hx hb dX7_puts_71 rfl (lv_at hl 2 rfl) ?_
        refine wv_last hx hb hK hP hD hS 1 0 rfl rfl (k := 7 + k) (by omega) (by decide) dX7_puts_72 (fun H locs hP hD hS => ?_)
        rw [show vp_updL (sM n b fl me st lk cm (opa v n k) (opa nu n k)) (7 + k) x = sM n b fl me st lk cm (vp_updL (opa v n k) k x) (opa nu n k) from sM_uv _ (by omega) (by omega)] at hP hD
        have hP : va_P D vwCl (ModC mo sa pa ha ta cJ cI (sM n b fl me st lk cm (vp_updL (opa v n k) k x) (opa nu n k)) pt hd tx ps ru ty rf lks lo1 hi1 sp cd pl gv) H := hP
        have hD : va_D _ (ModC mo sa pa ha ta cJ cI (sM n b fl me st lk cm (vp_updL (opa v n k) k x) (opa nu n k)) pt hd tx ps ru ty rf lks lo1 hi1 sp cd pl gv) := hD
        refine lv_aload_n hx hb dX7_puts_73 rfl (lv_at hl 0 rfl) ?_
        refine va_get (D := D) (ci := 5) (C := RX7) (T := TX7) (N := 15) hx hb hts hinX7 hown hK hP 0 rfl rfl 0 (by decide) (hts (.fieldLink RX7 7 "NearRanksModel" "s" "[J") (by decide +kernel)) (fun _ h9 => h9) rfl dX7_puts_74 ?_
        refine lv_bipush (v := nI 39) hx hb dX7_puts_77 (by decide) ?_
        refine lv_iload_n hx hb dX7_puts_79 rfl (lv_at hl 1 rfl) ?_
        refine lv_iadd hx hb dX7_puts_80 ?_
        refine wv_ti (nI_add _ _) ?_
        refine lv_aload_n hx hb dX7_puts_81 rfl (lv_at hl 0 rfl) ?_
        refine va_get (D := D) (ci := 5) (C := RX7) (T := TX7) (N := 15) hx hb hts hinX7 hown hK hP 0 rfl rfl 0 (by decide) (hts (.fieldLink RX7 7 "NearRanksModel" "s" "[J") (by decide +kernel)) (fun _ h9 => h9) rfl dX7_puts_82 ?_
        refine lv_bipush (v := nI 6) hx hb dX7_puts_85 (by decide) ?_
        refine wv_lald hx hb hK hP 1 0 rfl rfl (k := 6) (by omega) (by decide) dX7_puts_87 ?_
        refine wv_tl (y := cm) sM_6 ?_
        refine wv_last hx hb hK hP hD hS 1 0 rfl rfl (k := 39 + k) (by omega) (by decide) dX7_puts_88 (fun H locs hP hD hS => ?_)
        rw [show vp_updL (sM n b fl me st lk cm (vp_updL (opa v n k) k x) (opa nu n k)) (39 + k) cm = sM n b fl me st lk cm (vp_updL (opa v n k) k x) (vp_updL (opa nu n k) k cm) from sM_un _ (by omega) (by omega)] at hP hD
        have hP : va_P D vwCl (ModC mo sa pa ha ta cJ cI (sM n b fl me st lk cm (vp_updL (opa v n k) k x) (vp_updL (opa nu n k) k cm)) pt hd tx ps ru ty rf lks lo1 hi1 sp cd pl gv) H := hP
        have hD : va_D _ (ModC mo sa pa ha ta cJ cI (sM n b fl me st lk cm (vp_updL (opa v n k) k x) (vp_updL (opa nu n k) k cm)) pt hd tx ps ru ty rf lks lo1 hi1 sp cd pl gv) := hD
        refine lv_aload_n hx hb dX7_puts_89 rfl (lv_at hl 0 rfl) ?_
        refine va_get (D := D) (ci := 5) (C := RX7) (T := TX7) (N := 15) hx hb hts hinX7 hown hK hP 0 rfl rfl 0 (by decide) (hts (.fieldLink RX7 7 "NearRanksModel" "s" "[J") (by decide +kernel)) (fun _ h9 => h9) rfl dX7_puts_90 ?_
        refine lv_bipush (v := nI 6) hx hb dX7_puts_93 (by decide) ?_
        refine lv_dup2_11 hx hb dX7_puts_95 rfl rfl ?_
        refine wv_lald hx hb hK hP 1 0 rfl rfl (k := 6) (by omega) (by decide) dX7_puts_96 ?_
        refine wv_tl (y := cm) sM_6 ?_
        refine lv_lconst (v := lN 1) hx hb dX7_puts_97 rfl ?_
        refine lv_ladd hx hb dX7_puts_98 ?_
        refine wv_last hx hb hK hP hD hS 1 0 rfl rfl (k := 6) (by omega) (by decide) dX7_puts_99 (fun H locs hP hD hS => ?_)
        rw [show vp_updL (sM n b fl me st lk cm (vp_updL (opa v n k) k x) (vp_updL (opa nu n k) k cm)) 6 (cm + (lN 1)) = sM n b fl me st lk (cm + (lN 1)) (vp_updL (opa v n k) k x) (vp_updL (opa nu n k) k cm) from sM_u6 _] at hP hD
        have hP : va_P D vwCl (ModC mo sa pa ha ta cJ cI (sM n b fl me st lk (cm + (lN 1)) (vp_updL (opa v n k) k x) (vp_updL (opa nu n k) k cm)) pt hd tx ps ru ty rf lks lo1 hi1 sp cd pl gv) H := hP
        have hD : va_D _ (ModC mo sa pa ha ta cJ cI (sM n b fl me st lk (cm + (lN 1)) (vp_updL (opa v n k) k x) (vp_updL (opa nu n k) k cm)) pt hd tx ps ru ty rf lks lo1 hi1 sp cd pl gv) := hD
        refine lv_aload_n hx hb dX7_puts_100 rfl (lv_at hl 0 rfl) ?_
        refine va_get (D := D) (ci := 5) (C := RX7) (T := TX7) (N := 15) hx hb hts hinX7 hown hK hP 0 rfl rfl 0 (by decide) (hts (.fieldLink RX7 7 "NearRanksModel" "s" "[J") (by decide +kernel)) (fun _ h9 => h9) rfl dX7_puts_101 ?_
        refine lv_iconst (v := nI 0) hx hb dX7_puts_104 (by decide) ?_
        refine lv_dup2_11 hx hb dX7_puts_105 rfl rfl ?_
        refine wv_lald hx hb hK hP 1 0 rfl rfl (k := 0) (by omega) (by decide) dX7_puts_106 ?_
        refine wv_tl (y := lN n) sM_0 ?_
        refine lv_lconst (v := lN 1) hx hb dX7_puts_107 rfl ?_
        refine lv_ladd hx hb dX7_puts_108 ?_
        refine wv_tl (lN_add _ _) ?_
        refine wv_last hx hb hK hP hD hS 1 0 rfl rfl (k := 0) (by omega) (by decide) dX7_puts_109 (fun H locs hP hD hS => ?_)
        rw [show vp_updL (sM n b fl me st lk (cm + (lN 1)) (vp_updL (opa v n k) k x) (vp_updL (opa nu n k) k cm)) 0 (lN (n + 1)) = sM (n + 1) b fl me st lk (cm + (lN 1)) (vp_updL (opa v n k) k x) (vp_updL (opa nu n k) k cm) from sM_u0 _] at hP hD
        have hP : va_P D vwCl (ModC mo sa pa ha ta cJ cI (sM (n + 1) b fl me st lk (cm + (lN 1)) (vp_updL (opa v n k) k x) (vp_updL (opa nu n k) k cm)) pt hd tx ps ru ty rf lks lo1 hi1 sp cd pl gv) H := hP
        have hD : va_D _ (ModC mo sa pa ha ta cJ cI (sM (n + 1) b fl me st lk (cm + (lN 1)) (vp_updL (opa v n k) k x) (vp_updL (opa nu n k) k cm)) pt hd tx ps ru ty rf lks lo1 hi1 sp cd pl gv) := hD
        have ew0_v : (insA v n k x) = (vp_updL (opa v n k) k x) := by exact (insA_L v n k x).symm
        have ew0_nu : (insA nu n k cm) = (vp_updL (opa nu n k) k cm) := by exact (insA_L nu n k cm).symm
        exact wv_vretM hx hb hr hlocks hP hD hS (by rw [ew0_nu, ew0_v]) dX7_puts_110
      · skip
        refine lv_aload_n hx hb dX7_puts_13 rfl (lv_at hl 0 rfl) ?_
        refine va_get (D := D) (ci := 5) (C := RX7) (T := TX7) (N := 15) hx hb hts hinX7 hown hK hP 0 rfl rfl 0 (by decide) (hts (.fieldLink RX7 7 "NearRanksModel" "s" "[J") (by decide +kernel)) (fun _ h9 => h9) rfl dX7_puts_14 ?_
        refine lv_bipush (v := nI 7) hx hb dX7_puts_17 (by decide) ?_
        refine lv_iload hx hb dX7_puts_19 (lv_at hl 3 rfl) ?_
        refine lv_iadd hx hb dX7_puts_21 ?_
        refine wv_ti (nI_add _ _) ?_
        refine lv_aload_n hx hb dX7_puts_22 rfl (lv_at hl 0 rfl) ?_
        refine va_get (D := D) (ci := 5) (C := RX7) (T := TX7) (N := 15) hx hb hts hinX7 hown hK hP 0 rfl rfl 0 (by decide) (hts (.fieldLink RX7 7 "NearRanksModel" "s" "[J") (by decide +kernel)) (fun _ h9 => h9) rfl dX7_puts_23 ?_
        refine lv_bipush (v := nI 7) hx hb dX7_puts_26 (by decide) ?_
        refine lv_iload hx hb dX7_puts_28 (lv_at hl 3 rfl) ?_
        refine lv_iadd hx hb dX7_puts_30 ?_
        refine wv_ti (nI_add _ _) ?_
        refine lv_iconst (v := nI 1) hx hb dX7_puts_31 (by decide) ?_
        refine lv_isub hx hb dX7_puts_32 ?_
        refine wv_ti (pk_sub (by omega)) ?_
        refine wv_lald hx hb hK hP 1 0 rfl rfl (k := (7 + i) - 1) (by omega) (by decide) dX7_puts_33 ?_
        refine wv_tl (y := (opa v n i) (i - 1)) (sM_v (by omega) (by omega)) ?_
        refine wv_last hx hb hK hP hD hS 1 0 rfl rfl (k := 7 + i) (by omega) (by decide) dX7_puts_34 (fun H locs hP hD hS => ?_)
        rw [show vp_updL (sM n b fl me st lk cm (opa v n i) (opa nu n i)) (7 + i) ((opa v n i) (i - 1)) = sM n b fl me st lk cm (vp_updL (opa v n i) i ((opa v n i) (i - 1))) (opa nu n i) from sM_uv _ (by omega) (by omega)] at hP hD
        have hP : va_P D vwCl (ModC mo sa pa ha ta cJ cI (sM n b fl me st lk cm (vp_updL (opa v n i) i ((opa v n i) (i - 1))) (opa nu n i)) pt hd tx ps ru ty rf lks lo1 hi1 sp cd pl gv) H := hP
        have hD : va_D _ (ModC mo sa pa ha ta cJ cI (sM n b fl me st lk cm (vp_updL (opa v n i) i ((opa v n i) (i - 1))) (opa nu n i)) pt hd tx ps ru ty rf lks lo1 hi1 sp cd pl gv) := hD
        refine lv_aload_n hx hb dX7_puts_35 rfl (lv_at hl 0 rfl) ?_
        refine va_get (D := D) (ci := 5) (C := RX7) (T := TX7) (N := 15) hx hb hts hinX7 hown hK hP 0 rfl rfl 0 (by decide) (hts (.fieldLink RX7 7 "NearRanksModel" "s" "[J") (by decide +kernel)) (fun _ h9 => h9) rfl dX7_puts_36 ?_
        refine lv_bipush (v := nI 39) hx hb dX7_puts_39 (by decide) ?_
        refine lv_iload hx hb dX7_puts_41 (lv_at hl 3 rfl) ?_
        refine lv_iadd hx hb dX7_puts_43 ?_
        refine wv_ti (nI_add _ _) ?_
        refine lv_aload_n hx hb dX7_puts_44 rfl (lv_at hl 0 rfl) ?_
        refine va_get (D := D) (ci := 5) (C := RX7) (T := TX7) (N := 15) hx hb hts hinX7 hown hK hP 0 rfl rfl 0 (by decide) (hts (.fieldLink RX7 7 "NearRanksModel" "s" "[J") (by decide +kernel)) (fun _ h9 => h9) rfl dX7_puts_45 ?_
        refine lv_bipush (v := nI 39) hx hb dX7_puts_48 (by decide) ?_
        refine lv_iload hx hb dX7_puts_50 (lv_at hl 3 rfl) ?_
        refine lv_iadd hx hb dX7_puts_52 ?_
        refine wv_ti (nI_add _ _) ?_
        refine lv_iconst (v := nI 1) hx hb dX7_puts_53 (by decide) ?_
        refine lv_isub hx hb dX7_puts_54 ?_
        refine wv_ti (pk_sub (by omega)) ?_
        refine wv_lald hx hb hK hP 1 0 rfl rfl (k := (39 + i) - 1) (by omega) (by decide) dX7_puts_55 ?_
        refine wv_tl (y := (opa nu n i) (i - 1)) (sM_n (by omega) (by omega)) ?_
        refine wv_last hx hb hK hP hD hS 1 0 rfl rfl (k := 39 + i) (by omega) (by decide) dX7_puts_56 (fun H locs hP hD hS => ?_)
        rw [show vp_updL (sM n b fl me st lk cm (vp_updL (opa v n i) i ((opa v n i) (i - 1))) (opa nu n i)) (39 + i) ((opa nu n i) (i - 1)) = sM n b fl me st lk cm (vp_updL (opa v n i) i ((opa v n i) (i - 1))) (vp_updL (opa nu n i) i ((opa nu n i) (i - 1))) from sM_un _ (by omega) (by omega)] at hP hD
        have hP : va_P D vwCl (ModC mo sa pa ha ta cJ cI (sM n b fl me st lk cm (vp_updL (opa v n i) i ((opa v n i) (i - 1))) (vp_updL (opa nu n i) i ((opa nu n i) (i - 1)))) pt hd tx ps ru ty rf lks lo1 hi1 sp cd pl gv) H := hP
        have hD : va_D _ (ModC mo sa pa ha ta cJ cI (sM n b fl me st lk cm (vp_updL (opa v n i) i ((opa v n i) (i - 1))) (vp_updL (opa nu n i) i ((opa nu n i) (i - 1)))) pt hd tx ps ru ty rf lks lo1 hi1 sp cd pl gv) := hD
        refine lv_iinc (v := nI (i - 1)) (lv' := [(4, .int (nI (i - 1))), (0, .ref mo), (1, .int (nI k)), (2, .long x)]) hx hb dX7_puts_57 hl (k := 3) rfl (sb_m1 (by omega)) (by decide) rfl (fun ls hl => ?_)
        refine lv_goto (tgt := 7) hx hb dX7_puts_60 (by decide) ?_
        have el_w0_v : (opa v n (i - 1)) = (vp_updL (opa v n i) i ((opa v n i) (i - 1))) := by exact opa_sL v (by omega) hin
        have el_w0_nu : (opa nu n (i - 1)) = (vp_updL (opa nu n i) i ((opa nu n i) (i - 1))) := by exact opa_sL nu (by omega) hin
        exact ih7 (i - 1) (by omega) (by first | assumption | omega) (by first | assumption | omega) _ _ (by first | (rw [el_w0_nu, el_w0_v]; exact hP) | (simp only [el_w0_nu, el_w0_v]; exact hP) | exact hP) (by first | (rw [el_w0_nu, el_w0_v]; exact hD) | (simp only [el_w0_nu, el_w0_v]; exact hD) | exact hD) hS ls (by first | (rw [el_w0_nu, el_w0_v]; exact lv_sub hl [1, 2, 3, 0] rfl) | (simp only [el_w0_nu, el_w0_v]; exact lv_sub hl [1, 2, 3, 0] rfl) | exact lv_sub hl [1, 2, 3, 0] rfl)
  exact loop7 (n + 1) n (by omega) (by first | assumption | omega) (by first | assumption | omega) _ _ (by first | (rw [el_w0_nu, el_w0_v]; exact hP) | (simp only [el_w0_nu, el_w0_v]; exact hP) | exact hP) (by first | (rw [el_w0_nu, el_w0_v]; exact hD) | (simp only [el_w0_nu, el_w0_v]; exact hD) | exact hD) hS ls (by first | (rw [el_w0_nu, el_w0_v]; exact lv_sub hl [1, 2, 3, 0] rfl) | (simp only [el_w0_nu, el_w0_v]; exact lv_sub hl [1, 2, 3, 0] rfl) | exact lv_sub hl [1, 2, 3, 0] rfl)

set_option maxHeartbeats 4000000 in
set_option maxRecDepth 100000 in
theorem kX7_takes (l : Launch) (D : va_G) (mo : Nat) (sa : Nat) (pa : Nat) (ha : Nat) (ta : Nat) (cJ : ClassId) (cI : ClassId) (n : Nat) (b : Nat) (fl : Bool) (me : Bool) (st : Int64) (lk : Int64) (cm : Int64) (v : Nat → Int64) (nu : Nat → Int64) (pt : Nat → Int64) (hd : Nat → Int64) (tx : Nat → Int32) (ps : Nat) (ru : Bool) (ty : Nat) (rf : Nat) (lks : Nat) (lo1 : Int32) (hi1 : Int32) (sp : Nat) (cd : Int32) (pl : Int32) (gv : Int64) (k : Nat) (hn : n ≤ 32) (hk : k < n) : MMv l yX7_takes wsX7_takes ({ frames := 1, cells := 0, slots := 0, locals := 21 } : Room) [.ref mo, .int (nI k)] D (ModC mo sa pa ha ta cJ cI (sM n b fl me st lk cm v nu) pt hd tx ps ru ty rf lks lo1 hi1 sp cd pl gv) [(cJ, .long), (cI, .int)] (ModC mo sa pa ha ta cJ cI (sM (n - 1) b fl me st lk cm (cla v k (n - 1)) (cla nu k (n - 1))) pt hd tx ps ru ty rf lks lo1 hi1 sp cd pl gv) := by
  refine MMv_of (cc := cX7_takes) (maxL := 3) (ret := none) (by decide +kernel) rfl (Nat.le_of_ble_eq_true rfl) ?_
  intro p e s m args below meth c hx hb hr hts hown hlocks hml hP hK hN hD ls hl
  have hown : s.vm.findClass RX7 = some m.cls := hown
  have hl : lv_has ls 3 [(0, .ref mo), (1, .int (nI k))] := hl
  have hS : va_S (va_A (ModC mo sa pa ha ta cJ cI (sM n b fl me st lk cm v nu) pt hd tx ps ru ty rf lks lo1 hi1 sp cd pl gv) s.heap.size) s.heap s.heap [] := va_S.rf
  have hA := wk_hA (ModC mo sa pa ha ta cJ cI (sM n b fl me st lk cm v nu) pt hd tx ps ru ty rf lks lo1 hi1 sp cd pl gv) s.heap.size
  have hD9 : True := trivial
  have hinX7 : ∀ w ∈ wsX70, w ∈ wsX7_takes := by decide +kernel
  refine lv_aload_n hx hb dX7_takes_0 rfl (lv_at hl 0 rfl) ?_
  refine va_get (D := D) (ci := 5) (C := RX7) (T := TX7) (N := 15) hx hb hts hinX7 hown hK hP 0 rfl rfl 0 (by decide) (hts (.fieldLink RX7 7 "NearRanksModel" "s" "[J") (by decide +kernel)) (fun _ h9 => h9) rfl dX7_takes_1 ?_
  refine lv_iconst (v := nI 0) hx hb dX7_takes_4 (by decide) ?_
  refine lv_dup2_11 hx hb dX7_takes_5 rfl rfl ?_
  refine wv_lald hx hb hK hP 1 0 rfl rfl (k := 0) (by omega) (by decide) dX7_takes_6 ?_
  refine wv_tl (y := lN n) sM_0 ?_
  refine lv_lconst (v := lN 1) hx hb dX7_takes_7 rfl ?_
  refine lv_lsub hx hb dX7_takes_8 ?_
  refine wv_tl (lN_sub (by omega)) ?_
  refine wv_last hx hb hK hP hD hS 1 0 rfl rfl (k := 0) (by omega) (by decide) dX7_takes_9 (fun H locs hP hD hS => ?_)
  rw [show vp_updL (sM n b fl me st lk cm v nu) 0 (lN (n - 1)) = sM (n - 1) b fl me st lk cm v nu from sM_u0 _] at hP hD
  have hP : va_P D vwCl (ModC mo sa pa ha ta cJ cI (sM (n - 1) b fl me st lk cm v nu) pt hd tx ps ru ty rf lks lo1 hi1 sp cd pl gv) H := hP
  have hD : va_D _ (ModC mo sa pa ha ta cJ cI (sM (n - 1) b fl me st lk cm v nu) pt hd tx ps ru ty rf lks lo1 hi1 sp cd pl gv) := hD
  refine lv_iload_n hx hb dX7_takes_10 rfl (lv_at hl 1 rfl) ?_
  refine lv_istore_n (lv' := [(2, .int (nI k)), (0, .ref mo), (1, .int (nI k))]) hx hb dX7_takes_11 rfl hl (by decide) rfl (fun ls hl => ?_)
  have el_w0_v : (cla v k k) = v := by exact cla_0 v k
  have el_w0_nu : (cla nu k k) = nu := by exact cla_0 nu k
  have loop12 : ∀ (K : Nat) (i : Nat), n - i < K → k ≤ i → i ≤ n - 1 → ∀ (H : Heap) (locs : List Loc), va_P D vwCl (ModC mo sa pa ha ta cJ cI (sM (n - 1) b fl me st lk cm (cla v k i) (cla nu k i)) pt hd tx ps ru ty rf lks lo1 hi1 sp cd pl gv) H → va_D (va_A (ModC mo sa pa ha ta cJ cI (sM n b fl me st lk cm v nu) pt hd tx ps ru ty rf lks lo1 hi1 sp cd pl gv) s.heap.size) (ModC mo sa pa ha ta cJ cI (sM (n - 1) b fl me st lk cm (cla v k i) (cla nu k i)) pt hd tx ps ru ty rf lks lo1 hi1 sp cd pl gv) → va_S (va_A (ModC mo sa pa ha ta cJ cI (sM n b fl me st lk cm v nu) pt hd tx ps ru ty rf lks lo1 hi1 sp cd pl gv) s.heap.size) s.heap H locs → ∀ ls : Array Slot, lv_has ls 3 [(0, .ref mo), (1, .int (nI k)), (2, .int (nI i))] → W p l e ({ frames := 1, cells := 0, slots := 0, locals := 21 } : Room) s m args below meth c H locs 0 0 (ZMv below args s D (ModC mo sa pa ha ta cJ cI (sM n b fl me st lk cm v nu) pt hd tx ps ru ty rf lks lo1 hi1 sp cd pl gv) (ModC mo sa pa ha ta cJ cI (sM (n - 1) b fl me st lk cm (cla v k (n - 1)) (cla nu k (n - 1))) pt hd tx ps ru ty rf lks lo1 hi1 sp cd pl gv)) (F0 m 12 ls []) := by
    intro K
    induction K with
    | zero => intro i hK0; exact absurd hK0 (Nat.not_lt_zero _)
    | succ K ih12 =>
      intro i hKm hki hin H locs hP hD hS ls hl
      refine lv_iload_n hx hb dX7_takes_12 rfl (lv_at hl 2 rfl) ?_
      refine lv_aload_n hx hb dX7_takes_13 rfl (lv_at hl 0 rfl) ?_
      refine lv_iconst (v := nI 0) hx hb dX7_takes_14 (by decide) ?_
      refine wv_callPi (As := [.int (nI 0)]) (rest := [.int (nI i)]) ⟨hx, hb, hml, hown, hts⟩ (kX7_of l D mo sa pa ha ta cJ cI (n - 1) b fl me st lk cm (cla v k i) (cla nu k i) pt hd tx ps ru ty rf lks lo1 hi1 sp cd pl gv 0 (by first | assumption | omega)) (cwV 1 hts gX7_takes_X7_of rfl rfl rfl (by decide +kernel) ⟨Nat.le_of_ble_eq_true rfl, Nat.le_of_ble_eq_true rfl⟩) hK hN hP hS hA [0, 1, 2, 3, 4] [0, 1] rfl rfl 0 5 rfl rfl rfl rfl hl.1 rfl (Nat.le_of_ble_eq_true rfl) dX7_takes_15 ⟨Nat.zero_le _, Nat.zero_le _⟩ (fun H locs hz9 hP hS => ?_)
      refine wv_ti (y := nI (n - 1)) of_0 ?_
      refine wv_icmp_ge (tgt := 67) hx hb (by omega) (by omega) dX7_takes_18 (by decide) (fun c18 => ?_) (fun c18 => ?_)
      · skip
        have ew0_v : (cla v k (n - 1)) = (cla v k i) := by rw [show i = n - 1 by omega]
        have ew0_nu : (cla nu k (n - 1)) = (cla nu k i) := by rw [show i = n - 1 by omega]
        exact wv_vretM hx hb hr hlocks hP hD hS (by rw [ew0_nu, ew0_v]) dX7_takes_67
      · skip
        refine lv_aload_n hx hb dX7_takes_21 rfl (lv_at hl 0 rfl) ?_
        refine va_get (D := D) (ci := 5) (C := RX7) (T := TX7) (N := 15) hx hb hts hinX7 hown hK hP 0 rfl rfl 0 (by decide) (hts (.fieldLink RX7 7 "NearRanksModel" "s" "[J") (by decide +kernel)) (fun _ h9 => h9) rfl dX7_takes_22 ?_
        refine lv_bipush (v := nI 7) hx hb dX7_takes_25 (by decide) ?_
        refine lv_iload_n hx hb dX7_takes_27 rfl (lv_at hl 2 rfl) ?_
        refine lv_iadd hx hb dX7_takes_28 ?_
        refine wv_ti (nI_add _ _) ?_
        refine lv_aload_n hx hb dX7_takes_29 rfl (lv_at hl 0 rfl) ?_
        refine va_get (D := D) (ci := 5) (C := RX7) (T := TX7) (N := 15) hx hb hts hinX7 hown hK hP 0 rfl rfl 0 (by decide) (hts (.fieldLink RX7 7 "NearRanksModel" "s" "[J") (by decide +kernel)) (fun _ h9 => h9) rfl dX7_takes_30 ?_
        refine lv_bipush (v := nI 7) hx hb dX7_takes_33 (by decide) ?_
        refine lv_iload_n hx hb dX7_takes_35 rfl (lv_at hl 2 rfl) ?_
        refine lv_iadd hx hb dX7_takes_36 ?_
        refine wv_ti (nI_add _ _) ?_
        refine lv_iconst (v := nI 1) hx hb dX7_takes_37 (by decide) ?_
        refine lv_iadd hx hb dX7_takes_38 ?_
        refine wv_ti (nI_add _ _) ?_
        refine wv_lald hx hb hK hP 1 0 rfl rfl (k := (7 + i) + 1) (by omega) (by decide) dX7_takes_39 ?_
        refine wv_tl (y := (cla v k i) (i + 1)) (sM_v (by omega) (by omega)) ?_
        refine wv_last hx hb hK hP hD hS 1 0 rfl rfl (k := 7 + i) (by omega) (by decide) dX7_takes_40 (fun H locs hP hD hS => ?_)
        rw [show vp_updL (sM (n - 1) b fl me st lk cm (cla v k i) (cla nu k i)) (7 + i) ((cla v k i) (i + 1)) = sM (n - 1) b fl me st lk cm (vp_updL (cla v k i) i ((cla v k i) (i + 1))) (cla nu k i) from sM_uv _ (by omega) (by omega)] at hP hD
        have hP : va_P D vwCl (ModC mo sa pa ha ta cJ cI (sM (n - 1) b fl me st lk cm (vp_updL (cla v k i) i ((cla v k i) (i + 1))) (cla nu k i)) pt hd tx ps ru ty rf lks lo1 hi1 sp cd pl gv) H := hP
        have hD : va_D _ (ModC mo sa pa ha ta cJ cI (sM (n - 1) b fl me st lk cm (vp_updL (cla v k i) i ((cla v k i) (i + 1))) (cla nu k i)) pt hd tx ps ru ty rf lks lo1 hi1 sp cd pl gv) := hD
        refine lv_aload_n hx hb dX7_takes_41 rfl (lv_at hl 0 rfl) ?_
        refine va_get (D := D) (ci := 5) (C := RX7) (T := TX7) (N := 15) hx hb hts hinX7 hown hK hP 0 rfl rfl 0 (by decide) (hts (.fieldLink RX7 7 "NearRanksModel" "s" "[J") (by decide +kernel)) (fun _ h9 => h9) rfl dX7_takes_42 ?_
        refine lv_bipush (v := nI 39) hx hb dX7_takes_45 (by decide) ?_
        refine lv_iload_n hx hb dX7_takes_47 rfl (lv_at hl 2 rfl) ?_
        refine lv_iadd hx hb dX7_takes_48 ?_
        refine wv_ti (nI_add _ _) ?_
        refine lv_aload_n hx hb dX7_takes_49 rfl (lv_at hl 0 rfl) ?_
        refine va_get (D := D) (ci := 5) (C := RX7) (T := TX7) (N := 15) hx hb hts hinX7 hown hK hP 0 rfl rfl 0 (by decide) (hts (.fieldLink RX7 7 "NearRanksModel" "s" "[J") (by decide +kernel)) (fun _ h9 => h9) rfl dX7_takes_50 ?_
        refine lv_bipush (v := nI 39) hx hb dX7_takes_53 (by decide) ?_
        refine lv_iload_n hx hb dX7_takes_55 rfl (lv_at hl 2 rfl) ?_
        refine lv_iadd hx hb dX7_takes_56 ?_
        refine wv_ti (nI_add _ _) ?_
        refine lv_iconst (v := nI 1) hx hb dX7_takes_57 (by decide) ?_
        refine lv_iadd hx hb dX7_takes_58 ?_
        refine wv_ti (nI_add _ _) ?_
        refine wv_lald hx hb hK hP 1 0 rfl rfl (k := (39 + i) + 1) (by omega) (by decide) dX7_takes_59 ?_
        refine wv_tl (y := (cla nu k i) (i + 1)) (sM_n (by omega) (by omega)) ?_
        refine wv_last hx hb hK hP hD hS 1 0 rfl rfl (k := 39 + i) (by omega) (by decide) dX7_takes_60 (fun H locs hP hD hS => ?_)
        rw [show vp_updL (sM (n - 1) b fl me st lk cm (vp_updL (cla v k i) i ((cla v k i) (i + 1))) (cla nu k i)) (39 + i) ((cla nu k i) (i + 1)) = sM (n - 1) b fl me st lk cm (vp_updL (cla v k i) i ((cla v k i) (i + 1))) (vp_updL (cla nu k i) i ((cla nu k i) (i + 1))) from sM_un _ (by omega) (by omega)] at hP hD
        have hP : va_P D vwCl (ModC mo sa pa ha ta cJ cI (sM (n - 1) b fl me st lk cm (vp_updL (cla v k i) i ((cla v k i) (i + 1))) (vp_updL (cla nu k i) i ((cla nu k i) (i + 1)))) pt hd tx ps ru ty rf lks lo1 hi1 sp cd pl gv) H := hP
        have hD : va_D _ (ModC mo sa pa ha ta cJ cI (sM (n - 1) b fl me st lk cm (vp_updL (cla v k i) i ((cla v k i) (i + 1))) (vp_updL (cla nu k i) i ((cla nu k i) (i + 1)))) pt hd tx ps ru ty rf lks lo1 hi1 sp cd pl gv) := hD
        refine lv_iinc (v := nI (i + 1)) (lv' := [(2, .int (nI (i + 1))), (0, .ref mo), (1, .int (nI k))]) hx hb dX7_takes_61 hl (k := 2) rfl (nI_1 _) (by decide) rfl (fun ls hl => ?_)
        refine lv_goto (tgt := 12) hx hb dX7_takes_64 (by decide) ?_
        have el_w0_v : (cla v k (i + 1)) = (vp_updL (cla v k i) i ((cla v k i) (i + 1))) := by exact cla_sL v hki
        have el_w0_nu : (cla nu k (i + 1)) = (vp_updL (cla nu k i) i ((cla nu k i) (i + 1))) := by exact cla_sL nu hki
        exact ih12 (i + 1) (by omega) (by first | assumption | omega) (by first | assumption | omega) _ _ (by first | (rw [el_w0_nu, el_w0_v]; exact hP) | (simp only [el_w0_nu, el_w0_v]; exact hP) | exact hP) (by first | (rw [el_w0_nu, el_w0_v]; exact hD) | (simp only [el_w0_nu, el_w0_v]; exact hD) | exact hD) hS ls (by first | (rw [el_w0_nu, el_w0_v]; exact lv_sub hl [1, 2, 0] rfl) | (simp only [el_w0_nu, el_w0_v]; exact lv_sub hl [1, 2, 0] rfl) | exact lv_sub hl [1, 2, 0] rfl)
  exact loop12 (n - k + 1) k (by omega) (by first | assumption | omega) (by first | assumption | omega) _ _ (by first | (rw [el_w0_nu, el_w0_v]; exact hP) | (simp only [el_w0_nu, el_w0_v]; exact hP) | exact hP) (by first | (rw [el_w0_nu, el_w0_v]; exact hD) | (simp only [el_w0_nu, el_w0_v]; exact hD) | exact hD) hS ls (by first | (rw [el_w0_nu, el_w0_v]; exact lv_sub hl [1, 2, 0] rfl) | (simp only [el_w0_nu, el_w0_v]; exact lv_sub hl [1, 2, 0] rfl) | exact lv_sub hl [1, 2, 0] rfl)

set_option maxHeartbeats 4000000 in
set_option maxRecDepth 100000 in
theorem kX7_steps_no (l : Launch) (D : va_G) (mo : Nat) (sa : Nat) (pa : Nat) (ha : Nat) (ta : Nat) (cJ : ClassId) (cI : ClassId) (n : Nat) (b : Nat) (fl : Bool) (me : Bool) (st : Int64) (lk : Int64) (cm : Int64) (v : Nat → Int64) (nu : Nat → Int64) (pt : Nat → Int64) (hd : Nat → Int64) (tx : Nat → Int32) (ps : Nat) (ru : Bool) (ty : Nat) (rf : Nat) (lks : Nat) (lo1 : Int32) (hi1 : Int32) (sp : Nat) (cd : Int32) (pl : Int32) (gv : Int64) (hn : n ≤ 32) (hb : b ≤ 31) (hw : (wpl (far fl v n) b n).2 = none) : PMi l yX7_steps wsX7_steps ({ frames := 4, cells := 0, slots := 0, locals := 90 } : Room) [.ref mo] D (ModC mo sa pa ha ta cJ cI (sM n b fl me st lk cm v nu) pt hd tx ps ru ty rf lks lo1 hi1 sp cd pl gv) [(cJ, .long), (cI, .int)] ((-1000)) := by
  refine PMi_of (cc := cX7_steps) (maxL := 4) (ret := some .int) (by decide +kernel) rfl (Nat.le_of_ble_eq_true rfl) ?_
  intro p e s m args below meth c hx hb hr hts hown hlocks hml hP hK hN ls hl
  have hown : s.vm.findClass RX7 = some m.cls := hown
  have hl : lv_has ls 4 [(0, .ref mo)] := hl
  have hS : va_S (va_A [] s.heap.size) s.heap s.heap [] := va_S.rf
  have hA := wk_hA [] s.heap.size
  have hD9 : True := trivial
  refine lv_sipush (v := (-1000)) hx hb dX7_steps_0 (by decide) ?_
  refine lv_istore_n (lv' := [(1, .int (-1000)), (0, .ref mo)]) hx hb dX7_steps_3 rfl hl (by decide) rfl (fun ls hl => ?_)
  refine lv_iconst (v := nI 0) hx hb dX7_steps_4 (by decide) ?_
  refine lv_istore_n (lv' := [(2, .int (nI 0)), (1, .int (-1000)), (0, .ref mo)]) hx hb dX7_steps_5 rfl hl (by decide) rfl (fun ls hl => ?_)
  have el_l1 : oI (wpl (far fl v n) b 0).2 = (-1000) := by rfl
  have loop6 : ∀ (K : Nat) (i : Nat), n - i < K → i ≤ n → ∀ (H : Heap) (locs : List Loc), va_P D vwCl (ModC mo sa pa ha ta cJ cI (sM n b fl me st lk cm v nu) pt hd tx ps ru ty rf lks lo1 hi1 sp cd pl gv) H → va_S (va_A [] s.heap.size) s.heap H locs → ∀ ls : Array Slot, lv_has ls 4 [(0, .ref mo), (1, .int (oI (wpl (far fl v n) b i).2)), (2, .int (nI i))] → W p l e ({ frames := 4, cells := 0, slots := 0, locals := 90 } : Room) s m args below meth c H locs 0 0 (ZPi below args s ((-1000))) (F0 m 6 ls []) := by
    intro K
    induction K with
    | zero => intro i hK0; exact absurd hK0 (Nat.not_lt_zero _)
    | succ K ih6 =>
      intro i hKm hi H locs hP hS ls hl
      refine lv_iload_n hx hb dX7_steps_6 rfl (lv_at hl 2 rfl) ?_
      refine lv_aload_n hx hb dX7_steps_7 rfl (lv_at hl 0 rfl) ?_
      refine lv_iconst (v := nI 0) hx hb dX7_steps_8 (by decide) ?_
      refine wv_callPi (As := [.int (nI 0)]) (rest := [.int (nI i)]) ⟨hx, hb, hml, hown, hts⟩ (kX7_of l D mo sa pa ha ta cJ cI n b fl me st lk cm v nu pt hd tx ps ru ty rf lks lo1 hi1 sp cd pl gv 0 (by first | assumption | omega)) (cwV 1 hts gX7_steps_X7_of rfl rfl rfl (by decide +kernel) ⟨Nat.le_of_ble_eq_true rfl, Nat.le_of_ble_eq_true rfl⟩) hK hN hP hS hA [0, 1, 2, 3, 4] [0, 1] rfl rfl 0 5 rfl rfl rfl rfl hl.1 rfl (Nat.le_of_ble_eq_true rfl) dX7_steps_9 ⟨Nat.zero_le _, Nat.zero_le _⟩ (fun H locs hz9 hP hS => ?_)
      refine wv_ti (y := nI n) of_0 ?_
      refine wv_icmp_ge (tgt := 68) hx hb (by omega) (by omega) dX7_steps_12 (by decide) (fun c12 => ?_) (fun c12 => ?_)
      · skip
        have ei : i = n := by omega
        rw [ei, hw] at hl
        refine lv_iload_n hx hb dX7_steps_68 rfl (lv_at hl 1 rfl) ?_
        refine lv_if_ge (tgt := 76) hx hb dX7_steps_69 (by decide) (fun c69 => by exfalso; exact absurd c69 (by decide)) (fun c69 => ?_)
        refine lv_sipush (v := (-1000)) hx hb dX7_steps_72 (by decide) ?_
        exact wv_iretP hx hb hr hlocks hS rfl dX7_steps_75
      · skip
        refine lv_aload_n hx hb dX7_steps_15 rfl (lv_at hl 0 rfl) ?_
        refine lv_iload_n hx hb dX7_steps_16 rfl (lv_at hl 2 rfl) ?_
        refine wv_callPi (As := [.int (nI i)]) (rest := []) ⟨hx, hb, hml, hown, hts⟩ (kX7_isBroken l D mo sa pa ha ta cJ cI n b fl me st lk cm v nu pt hd tx ps ru ty rf lks lo1 hi1 sp cd pl gv i (by first | assumption | omega) (by first | assumption | omega) (by first | assumption | omega)) (cwV 1 hts gX7_steps_X7_isBroken rfl rfl rfl (by decide +kernel) ⟨Nat.le_of_ble_eq_true rfl, Nat.le_of_ble_eq_true rfl⟩) hK hN hP hS hA [0, 1, 2, 3, 4] [0, 1] rfl rfl 0 5 rfl rfl rfl rfl hl.1 rfl (Nat.le_of_ble_eq_true rfl) dX7_steps_17 ⟨Nat.zero_le _, Nat.zero_le _⟩ (fun H locs hz9 hP hS => ?_)
        refine wv_ifeqB (tgt := 50) hx hb dX7_steps_20 (by decide) (fun c20 => ?_) (fun c20 => ?_)
        · skip
          have c20b : ¬ b < far fl v n i := of_decide_eq_false c20
          have hge := wpl_ge (far fl v n) b i
          refine lv_iconst (v := nI 0) hx hb dX7_steps_50 (by decide) ?_
          refine lv_istore_n (lv' := [(3, .int (nI 0)), (0, .ref mo), (1, .int (oI (wpl (far fl v n) b i).2)), (2, .int (nI i))]) hx hb dX7_steps_51 rfl hl (by decide) rfl (fun ls hl => ?_)
          refine lv_iload_n hx hb dX7_steps_52 rfl (lv_at hl 0 rfl) ?_
          refine lv_if_eq (tgt := 60) hx hb dX7_steps_53 (by decide) (fun _ => ?_) (fun h => absurd h (by decide))
          refine lv_iload_n hx hb dX7_steps_60 rfl (lv_at hl 2 rfl) ?_
          refine lv_istore_n (lv' := [(1, .int (oI (wpl (far fl v n) b i).2)), (3, .int (nI 0)), (0, .ref mo), (2, .int (nI i))]) hx hb dX7_steps_61 rfl hl (by decide) rfl (fun ls hl => ?_)
          refine lv_iinc (v := nI (i + 1)) (lv' := [(2, .int (nI (i + 1))), (1, .int (oI (wpl (far fl v n) b i).2)), (3, .int (nI 0)), (0, .ref mo)]) hx hb dX7_steps_62 hl (k := 3) rfl (nI_1 _) (by decide) rfl (fun ls hl => ?_)
          refine lv_goto (tgt := 6) hx hb dX7_steps_65 (by decide) ?_
          have el_l1 : oI (wpl (far fl v n) b (i + 1)).2 = oI (wpl (far fl v n) b i).2 := by first | (rw [wpl_s, if_pos (by omega)]; rfl) | (rw [wpl_s, if_neg (by omega)]; done) | (rw [wpl_s, if_neg (by omega), hwi]; rfl)
          exact ih6 (i + 1) (by omega) (by first | assumption | omega) _ _ (by first | (rw [el_l1]; exact hP) | (simp only [el_l1]; exact hP) | exact hP) hS ls (by first | (rw [el_l1]; exact lv_sub hl [3, 1, 0] rfl) | (simp only [el_l1]; exact lv_sub hl [3, 1, 0] rfl) | exact lv_sub hl [3, 1, 0] rfl)
        · skip
          have c20b : b < far fl v n i := of_decide_eq_true c20
          have hfi := far_le (fl := fl) (v := v) (n := n) (k := i) (by omega)
          rcases hwi : (wpl (far fl v n) b i).2 with _ | k0
          · skip
            have hw1 := wpl_none hwi
            rw [hwi] at hl
            refine lv_iload_n hx hb dX7_steps_23 rfl (lv_at hl 1 rfl) ?_
            refine lv_if_lt (tgt := 46) hx hb dX7_steps_24 (by decide) (fun c24 => ?_) (fun c24 => by exfalso; exact c24 (by decide))
            refine lv_iconst (v := nI 1) hx hb dX7_steps_46 (by decide) ?_
            refine lv_goto (tgt := 51) hx hb dX7_steps_47 (by decide) ?_
            refine lv_istore_n (lv' := [(3, .int (nI 1)), (0, .ref mo), (1, .int (-1000)), (2, .int (nI i))]) hx hb dX7_steps_51 rfl hl (by decide) rfl (fun ls hl => ?_)
            refine lv_iload_n hx hb dX7_steps_52 rfl (lv_at hl 0 rfl) ?_
            refine lv_if_eq (tgt := 60) hx hb dX7_steps_53 (by decide) (fun h => absurd h (by decide)) (fun _ => ?_)
            refine lv_iload_n hx hb dX7_steps_56 rfl (lv_at hl 3 rfl) ?_
            refine lv_goto (tgt := 61) hx hb dX7_steps_57 (by decide) ?_
            refine lv_istore_n (lv' := [(1, .int (nI i)), (3, .int (nI 1)), (0, .ref mo), (2, .int (nI i))]) hx hb dX7_steps_61 rfl hl (by decide) rfl (fun ls hl => ?_)
            refine lv_iinc (v := nI (i + 1)) (lv' := [(2, .int (nI (i + 1))), (1, .int (nI i)), (3, .int (nI 1)), (0, .ref mo)]) hx hb dX7_steps_62 hl (k := 3) rfl (nI_1 _) (by decide) rfl (fun ls hl => ?_)
            refine lv_goto (tgt := 6) hx hb dX7_steps_65 (by decide) ?_
            have el_l1 : oI (wpl (far fl v n) b (i + 1)).2 = nI i := by first | (rw [wpl_s, if_pos (by omega)]; rfl) | (rw [wpl_s, if_neg (by omega)]; done) | (rw [wpl_s, if_neg (by omega), hwi]; rfl)
            exact ih6 (i + 1) (by omega) (by first | assumption | omega) _ _ (by first | (rw [el_l1]; exact hP) | (simp only [el_l1]; exact hP) | exact hP) hS ls (by first | (rw [el_l1]; exact lv_sub hl [3, 1, 0] rfl) | (simp only [el_l1]; exact lv_sub hl [3, 1, 0] rfl) | exact lv_sub hl [3, 1, 0] rfl)
          · skip
            have hw1 := (wpl_some hwi).2.2
            have hk0 := (wpl_some hwi).1
            have hf0 := far_le (fl := fl) (v := v) (n := n) (k := k0) (by omega)
            rw [hwi] at hl
            refine lv_iload_n hx hb dX7_steps_23 rfl (lv_at hl 1 rfl) ?_
            refine wv_if_lt hx hb (by omega) dX7_steps_24 (tgt := 46) (by decide) ?_
            refine lv_aload_n hx hb dX7_steps_27 rfl (lv_at hl 0 rfl) ?_
            refine lv_iload_n hx hb dX7_steps_28 rfl (lv_at hl 2 rfl) ?_
            refine wv_callPi (As := [.int (nI i)]) (rest := []) ⟨hx, hb, hml, hown, hts⟩ (kX7_distance l D mo sa pa ha ta cJ cI n b fl me st lk cm v nu pt hd tx ps ru ty rf lks lo1 hi1 sp cd pl gv i (by first | assumption | omega) (by first | assumption | omega)) (cwV 1 hts gX7_steps_X7_distance rfl rfl rfl (by decide +kernel) ⟨Nat.le_of_ble_eq_true rfl, Nat.le_of_ble_eq_true rfl⟩) hK hN hP hS hA [0, 1, 2, 3, 4] [0, 1] rfl rfl 0 5 rfl rfl rfl rfl hl.1 rfl (Nat.le_of_ble_eq_true rfl) dX7_steps_29 ⟨Nat.zero_le _, Nat.zero_le _⟩ (fun H locs hz9 hP hS => ?_)
            refine wv_callSi (As := [.int (dst fl v n i)]) (rest := []) ⟨hx, hb, hml, hown, hts⟩ (kX7_size l D (dst fl v n i)) (va_cwS 1 hts gX7_steps_X7_size rfl rfl rfl (by decide +kernel) ⟨Nat.le_of_ble_eq_true rfl, Nat.le_of_ble_eq_true rfl⟩) hK hN hP hS hA [] [] rfl rfl rfl hl.1 rfl (Nat.le_of_ble_eq_true rfl) dX7_steps_32 ⟨Nat.zero_le _, Nat.zero_le _⟩ (fun H locs hz9 hP hS => ?_)
            refine wv_ti (y := nI (far fl v n i)) (dst_sz (by omega) hn) ?_
            refine lv_aload_n hx hb dX7_steps_35 rfl (lv_at hl 0 rfl) ?_
            refine lv_iload_n hx hb dX7_steps_36 rfl (lv_at hl 1 rfl) ?_
            refine wv_callPi (As := [.int (nI k0)]) (rest := [.int (nI (far fl v n i))]) ⟨hx, hb, hml, hown, hts⟩ (kX7_distance l D mo sa pa ha ta cJ cI n b fl me st lk cm v nu pt hd tx ps ru ty rf lks lo1 hi1 sp cd pl gv k0 (by first | assumption | omega) (by first | assumption | omega)) (cwV 1 hts gX7_steps_X7_distance rfl rfl rfl (by decide +kernel) ⟨Nat.le_of_ble_eq_true rfl, Nat.le_of_ble_eq_true rfl⟩) hK hN hP hS hA [0, 1, 2, 3, 4] [0, 1] rfl rfl 0 5 rfl rfl rfl rfl hl.1 rfl (Nat.le_of_ble_eq_true rfl) dX7_steps_37 ⟨Nat.zero_le _, Nat.zero_le _⟩ (fun H locs hz9 hP hS => ?_)
            refine wv_callSi (As := [.int (dst fl v n k0)]) (rest := [.int (nI (far fl v n i))]) ⟨hx, hb, hml, hown, hts⟩ (kX7_size l D (dst fl v n k0)) (va_cwS 1 hts gX7_steps_X7_size rfl rfl rfl (by decide +kernel) ⟨Nat.le_of_ble_eq_true rfl, Nat.le_of_ble_eq_true rfl⟩) hK hN hP hS hA [] [] rfl rfl rfl hl.1 rfl (Nat.le_of_ble_eq_true rfl) dX7_steps_40 ⟨Nat.zero_le _, Nat.zero_le _⟩ (fun H locs hz9 hP hS => ?_)
            refine wv_ti (y := nI (far fl v n k0)) (dst_sz (by omega) hn) ?_
            refine wv_icmp_le (tgt := 50) hx hb (by omega) (by omega) dX7_steps_43 (by decide) (fun c43 => ?_) (fun c43 => ?_)
            · skip
              refine lv_iconst (v := nI 0) hx hb dX7_steps_50 (by decide) ?_
              refine lv_istore_n (lv' := [(3, .int (nI 0)), (0, .ref mo), (1, .int (nI k0)), (2, .int (nI i))]) hx hb dX7_steps_51 rfl hl (by decide) rfl (fun ls hl => ?_)
              refine lv_iload_n hx hb dX7_steps_52 rfl (lv_at hl 0 rfl) ?_
              refine lv_if_eq (tgt := 60) hx hb dX7_steps_53 (by decide) (fun _ => ?_) (fun h => absurd h (by decide))
              refine lv_iload_n hx hb dX7_steps_60 rfl (lv_at hl 2 rfl) ?_
              refine lv_istore_n (lv' := [(1, .int (nI k0)), (3, .int (nI 0)), (0, .ref mo), (2, .int (nI i))]) hx hb dX7_steps_61 rfl hl (by decide) rfl (fun ls hl => ?_)
              refine lv_iinc (v := nI (i + 1)) (lv' := [(2, .int (nI (i + 1))), (1, .int (nI k0)), (3, .int (nI 0)), (0, .ref mo)]) hx hb dX7_steps_62 hl (k := 3) rfl (nI_1 _) (by decide) rfl (fun ls hl => ?_)
              refine lv_goto (tgt := 6) hx hb dX7_steps_65 (by decide) ?_
              have el_l1 : oI (wpl (far fl v n) b (i + 1)).2 = nI k0 := by first | (rw [wpl_s, if_pos (by omega)]; rfl) | (rw [wpl_s, if_neg (by omega)]; done) | (rw [wpl_s, if_neg (by omega), hwi]; rfl)
              exact ih6 (i + 1) (by omega) (by first | assumption | omega) _ _ (by first | (rw [el_l1]; exact hP) | (simp only [el_l1]; exact hP) | exact hP) hS ls (by first | (rw [el_l1]; exact lv_sub hl [3, 1, 0] rfl) | (simp only [el_l1]; exact lv_sub hl [3, 1, 0] rfl) | exact lv_sub hl [3, 1, 0] rfl)
            · skip
              refine lv_iconst (v := nI 1) hx hb dX7_steps_46 (by decide) ?_
              refine lv_goto (tgt := 51) hx hb dX7_steps_47 (by decide) ?_
              refine lv_istore_n (lv' := [(3, .int (nI 1)), (0, .ref mo), (1, .int (nI k0)), (2, .int (nI i))]) hx hb dX7_steps_51 rfl hl (by decide) rfl (fun ls hl => ?_)
              refine lv_iload_n hx hb dX7_steps_52 rfl (lv_at hl 0 rfl) ?_
              refine lv_if_eq (tgt := 60) hx hb dX7_steps_53 (by decide) (fun h => absurd h (by decide)) (fun _ => ?_)
              refine lv_iload_n hx hb dX7_steps_56 rfl (lv_at hl 3 rfl) ?_
              refine lv_goto (tgt := 61) hx hb dX7_steps_57 (by decide) ?_
              refine lv_istore_n (lv' := [(1, .int (nI i)), (3, .int (nI 1)), (0, .ref mo), (2, .int (nI i))]) hx hb dX7_steps_61 rfl hl (by decide) rfl (fun ls hl => ?_)
              refine lv_iinc (v := nI (i + 1)) (lv' := [(2, .int (nI (i + 1))), (1, .int (nI i)), (3, .int (nI 1)), (0, .ref mo)]) hx hb dX7_steps_62 hl (k := 3) rfl (nI_1 _) (by decide) rfl (fun ls hl => ?_)
              refine lv_goto (tgt := 6) hx hb dX7_steps_65 (by decide) ?_
              have el_l1 : oI (wpl (far fl v n) b (i + 1)).2 = nI i := by first | (rw [wpl_s, if_pos (by omega)]; rfl) | (rw [wpl_s, if_neg (by omega)]; done) | (rw [wpl_s, if_neg (by omega), hwi]; rfl)
              exact ih6 (i + 1) (by omega) (by first | assumption | omega) _ _ (by first | (rw [el_l1]; exact hP) | (simp only [el_l1]; exact hP) | exact hP) hS ls (by first | (rw [el_l1]; exact lv_sub hl [3, 1, 0] rfl) | (simp only [el_l1]; exact lv_sub hl [3, 1, 0] rfl) | exact lv_sub hl [3, 1, 0] rfl)
  exact loop6 (n - 0 + 1) 0 (by omega) (by first | assumption | omega) _ _ (by first | (rw [el_l1]; exact hP) | (simp only [el_l1]; exact hP) | exact hP) hS ls (by first | (rw [el_l1]; exact lv_sub hl [2, 1, 0] rfl) | (simp only [el_l1]; exact lv_sub hl [2, 1, 0] rfl) | exact lv_sub hl [2, 1, 0] rfl)

set_option maxHeartbeats 4000000 in
set_option maxRecDepth 100000 in
theorem kX7_steps_ok (l : Launch) (D : va_G) (mo : Nat) (sa : Nat) (pa : Nat) (ha : Nat) (ta : Nat) (cJ : ClassId) (cI : ClassId) (n : Nat) (b : Nat) (fl : Bool) (me : Bool) (st : Int64) (lk : Int64) (cm : Int64) (v : Nat → Int64) (nu : Nat → Int64) (pt : Nat → Int64) (hd : Nat → Int64) (tx : Nat → Int32) (ps : Nat) (ru : Bool) (ty : Nat) (rf : Nat) (lks : Nat) (lo1 : Int32) (hi1 : Int32) (sp : Nat) (cd : Int32) (pl : Int32) (gv : Int64) (k : Nat) (q : Nat) (hn : n ≤ 32) (hb : b ≤ 31) (hw : (wpl (far fl v n) b n).2 = some k) (hq : fno fl v n k = some q) : MMi l yX7_steps wsX7_steps ({ frames := 4, cells := 0, slots := 0, locals := 90 } : Room) [.ref mo] D (ModC mo sa pa ha ta cJ cI (sM n b fl me st lk cm v nu) pt hd tx ps ru ty rf lks lo1 hi1 sp cd pl gv) [(cJ, .long), (cI, .int)] (nI q) (ModC mo sa pa ha ta cJ cI (sM n b fl me (st + (lN 1)) lk cm (swa v q) (swa nu q)) pt hd tx ps ru ty rf lks lo1 hi1 sp cd pl gv) := by
  refine MMi_of (cc := cX7_steps) (maxL := 4) (ret := some .int) (by decide +kernel) rfl (Nat.le_of_ble_eq_true rfl) ?_
  intro p e s m args below meth c hx hb hr hts hown hlocks hml hP hK hN hD ls hl
  have hown : s.vm.findClass RX7 = some m.cls := hown
  have hl : lv_has ls 4 [(0, .ref mo)] := hl
  have hS : va_S (va_A (ModC mo sa pa ha ta cJ cI (sM n b fl me st lk cm v nu) pt hd tx ps ru ty rf lks lo1 hi1 sp cd pl gv) s.heap.size) s.heap s.heap [] := va_S.rf
  have hA := wk_hA (ModC mo sa pa ha ta cJ cI (sM n b fl me st lk cm v nu) pt hd tx ps ru ty rf lks lo1 hi1 sp cd pl gv) s.heap.size
  have hD9 : True := trivial
  have hinX7 : ∀ w ∈ wsX70, w ∈ wsX7_steps := by decide +kernel
  have hk := (wpl_some hw).1
  have hq1 := fal_lt (fno_fal hq)
  refine lv_sipush (v := (-1000)) hx hb dX7_steps_0 (by decide) ?_
  refine lv_istore_n (lv' := [(1, .int (-1000)), (0, .ref mo)]) hx hb dX7_steps_3 rfl hl (by decide) rfl (fun ls hl => ?_)
  refine lv_iconst (v := nI 0) hx hb dX7_steps_4 (by decide) ?_
  refine lv_istore_n (lv' := [(2, .int (nI 0)), (1, .int (-1000)), (0, .ref mo)]) hx hb dX7_steps_5 rfl hl (by decide) rfl (fun ls hl => ?_)
  have el_l1 : oI (wpl (far fl v n) b 0).2 = (-1000) := by rfl
  have loop6 : ∀ (K : Nat) (i : Nat), n - i < K → i ≤ n → ∀ (H : Heap) (locs : List Loc), va_P D vwCl (ModC mo sa pa ha ta cJ cI (sM n b fl me st lk cm v nu) pt hd tx ps ru ty rf lks lo1 hi1 sp cd pl gv) H → va_D (va_A (ModC mo sa pa ha ta cJ cI (sM n b fl me st lk cm v nu) pt hd tx ps ru ty rf lks lo1 hi1 sp cd pl gv) s.heap.size) (ModC mo sa pa ha ta cJ cI (sM n b fl me st lk cm v nu) pt hd tx ps ru ty rf lks lo1 hi1 sp cd pl gv) → va_S (va_A (ModC mo sa pa ha ta cJ cI (sM n b fl me st lk cm v nu) pt hd tx ps ru ty rf lks lo1 hi1 sp cd pl gv) s.heap.size) s.heap H locs → ∀ ls : Array Slot, lv_has ls 4 [(0, .ref mo), (1, .int (oI (wpl (far fl v n) b i).2)), (2, .int (nI i))] → W p l e ({ frames := 4, cells := 0, slots := 0, locals := 90 } : Room) s m args below meth c H locs 0 0 (ZMi below args s D (ModC mo sa pa ha ta cJ cI (sM n b fl me st lk cm v nu) pt hd tx ps ru ty rf lks lo1 hi1 sp cd pl gv) (nI q) (ModC mo sa pa ha ta cJ cI (sM n b fl me (st + (lN 1)) lk cm (swa v q) (swa nu q)) pt hd tx ps ru ty rf lks lo1 hi1 sp cd pl gv)) (F0 m 6 ls []) := by
    intro K
    induction K with
    | zero => intro i hK0; exact absurd hK0 (Nat.not_lt_zero _)
    | succ K ih6 =>
      intro i hKm hi H locs hP hD hS ls hl
      refine lv_iload_n hx hb dX7_steps_6 rfl (lv_at hl 2 rfl) ?_
      refine lv_aload_n hx hb dX7_steps_7 rfl (lv_at hl 0 rfl) ?_
      refine lv_iconst (v := nI 0) hx hb dX7_steps_8 (by decide) ?_
      refine wv_callPi (As := [.int (nI 0)]) (rest := [.int (nI i)]) ⟨hx, hb, hml, hown, hts⟩ (kX7_of l D mo sa pa ha ta cJ cI n b fl me st lk cm v nu pt hd tx ps ru ty rf lks lo1 hi1 sp cd pl gv 0 (by first | assumption | omega)) (cwV 1 hts gX7_steps_X7_of rfl rfl rfl (by decide +kernel) ⟨Nat.le_of_ble_eq_true rfl, Nat.le_of_ble_eq_true rfl⟩) hK hN hP hS hA [0, 1, 2, 3, 4] [0, 1] rfl rfl 0 5 rfl rfl rfl rfl hl.1 rfl (Nat.le_of_ble_eq_true rfl) dX7_steps_9 ⟨Nat.zero_le _, Nat.zero_le _⟩ (fun H locs hz9 hP hS => ?_)
      refine wv_ti (y := nI n) of_0 ?_
      refine wv_icmp_ge (tgt := 68) hx hb (by omega) (by omega) dX7_steps_12 (by decide) (fun c12 => ?_) (fun c12 => ?_)
      · skip
        have ei : i = n := by omega
        rw [ei, hw] at hl
        refine lv_iload_n hx hb dX7_steps_68 rfl (lv_at hl 1 rfl) ?_
        refine wv_if_ge hx hb (by omega) dX7_steps_69 (tgt := 76) (by decide) ?_
        refine lv_iload_n hx hb dX7_steps_76 rfl (lv_at hl 1 rfl) ?_
        refine lv_istore_n (lv' := [(2, .int (nI k)), (0, .ref mo), (1, .int (nI k))]) hx hb dX7_steps_77 rfl hl (by decide) rfl (fun ls hl => ?_)
        refine lv_aload_n hx hb dX7_steps_78 rfl (lv_at hl 1 rfl) ?_
        refine lv_iload_n hx hb dX7_steps_79 rfl (lv_at hl 2 rfl) ?_
        refine wv_callPi (As := [.int (nI k)]) (rest := []) ⟨hx, hb, hml, hown, hts⟩ (kX7_distance l D mo sa pa ha ta cJ cI n b fl me st lk cm v nu pt hd tx ps ru ty rf lks lo1 hi1 sp cd pl gv k (by first | assumption | omega) (by first | assumption | omega)) (cwV 1 hts gX7_steps_X7_distance rfl rfl rfl (by decide +kernel) ⟨Nat.le_of_ble_eq_true rfl, Nat.le_of_ble_eq_true rfl⟩) hK hN hP hS hA [0, 1, 2, 3, 4] [0, 1] rfl rfl 0 5 rfl rfl rfl rfl hl.1 rfl (Nat.le_of_ble_eq_true rfl) dX7_steps_80 ⟨Nat.zero_le _, Nat.zero_le _⟩ (fun H locs hz9 hP hS => ?_)
        refine lv_if_le (tgt := 103) hx hb dX7_steps_83 (by decide) (fun c83 => ?_) (fun c83 => ?_)
        · skip
          have c83b : ¬ rk0 fl v n k < k := fun z => Int32.not_lt.mpr c83 ((dst_pos hk hn).mpr z)
          have hf0 : fnr (fal fl v n) k (n - k) = some q := by rw [← hq]; exact (if_neg c83b).symm
          have loop103 : ∀ (K : Nat) (j : Nat), n - j < K → k ≤ j → j < n → fnr (fal fl v n) j (n - j) = some q → ∀ (H : Heap) (locs : List Loc), va_P D vwCl (ModC mo sa pa ha ta cJ cI (sM n b fl me st lk cm v nu) pt hd tx ps ru ty rf lks lo1 hi1 sp cd pl gv) H → va_D (va_A (ModC mo sa pa ha ta cJ cI (sM n b fl me st lk cm v nu) pt hd tx ps ru ty rf lks lo1 hi1 sp cd pl gv) s.heap.size) (ModC mo sa pa ha ta cJ cI (sM n b fl me st lk cm v nu) pt hd tx ps ru ty rf lks lo1 hi1 sp cd pl gv) → va_S (va_A (ModC mo sa pa ha ta cJ cI (sM n b fl me st lk cm v nu) pt hd tx ps ru ty rf lks lo1 hi1 sp cd pl gv) s.heap.size) s.heap H locs → ∀ ls : Array Slot, lv_has ls 4 [(0, .ref mo), (1, .int (nI k)), (2, .int (nI j))] → W p l e ({ frames := 4, cells := 0, slots := 0, locals := 90 } : Room) s m args below meth c H locs 0 0 (ZMi below args s D (ModC mo sa pa ha ta cJ cI (sM n b fl me st lk cm v nu) pt hd tx ps ru ty rf lks lo1 hi1 sp cd pl gv) (nI q) (ModC mo sa pa ha ta cJ cI (sM n b fl me (st + (lN 1)) lk cm (swa v q) (swa nu q)) pt hd tx ps ru ty rf lks lo1 hi1 sp cd pl gv)) (F0 m 103 ls []) := by
            intro K
            induction K with
            | zero => intro j hK0; exact absurd hK0 (Nat.not_lt_zero _)
            | succ K ih103 =>
              intro j hKm hjk hjn hf H locs hP hD hS ls hl
              refine lv_aload_n hx hb dX7_steps_103 rfl (lv_at hl 0 rfl) ?_
              refine lv_iload_n hx hb dX7_steps_104 rfl (lv_at hl 2 rfl) ?_
              refine wv_callPi (As := [.int (nI j)]) (rest := []) ⟨hx, hb, hml, hown, hts⟩ (kX7_isFall l D mo sa pa ha ta cJ cI n b fl me st lk cm v nu pt hd tx ps ru ty rf lks lo1 hi1 sp cd pl gv j (by first | assumption | omega) (by first | assumption | omega)) (cwV 1 hts gX7_steps_X7_isFall rfl rfl rfl (by decide +kernel) ⟨Nat.le_of_ble_eq_true rfl, Nat.le_of_ble_eq_true rfl⟩) hK hN hP hS hA [0, 1, 2, 3, 4] [0, 1] rfl rfl 0 5 rfl rfl rfl rfl hl.1 rfl (Nat.le_of_ble_eq_true rfl) dX7_steps_105 ⟨Nat.zero_le _, Nat.zero_le _⟩ (fun H locs hz9 hP hS => ?_)
              refine wv_ifneB (tgt := 117) hx hb dX7_steps_108 (by decide) (fun c108 => ?_) (fun c108 => ?_)
              · skip
                have eq1 : j = q := by rw [show n - j = (n - (j + 1)) + 1 by omega, fnr_s, if_pos c108] at hf; exact Option.some.inj hf
                rw [eq1] at hl
                refine lv_aload_n hx hb dX7_steps_117 rfl (lv_at hl 0 rfl) ?_
                refine lv_iload_n hx hb dX7_steps_118 rfl (lv_at hl 2 rfl) ?_
                refine wv_callMv (As := [.int (nI q)]) (rest := []) (wr := []) (ws1 := ModC mo sa pa ha ta cJ cI (sM n b fl me st lk cm (swa v q) (swa nu q)) pt hd tx ps ru ty rf lks lo1 hi1 sp cd pl gv) ⟨hx, hb, hml, hown, hts⟩ (kX7_swaps l D mo sa pa ha ta cJ cI n b fl me st lk cm v nu pt hd tx ps ru ty rf lks lo1 hi1 sp cd pl gv q (by first | assumption | omega) (by first | assumption | omega)) (cwV 1 hts gX7_steps_X7_swaps rfl rfl rfl (by decide +kernel) ⟨Nat.le_of_ble_eq_true rfl, Nat.le_of_ble_eq_true rfl⟩) hK hN hP hD hS hA [0, 1, 2, 3, 4] [] [0, 1] [0, 1, 2, 3, 4] rfl rfl (by decide) rfl (by decide) (by decide) rfl (by decide) rfl 0 5 rfl rfl rfl rfl hl.1 rfl (Nat.le_of_ble_eq_true rfl) dX7_steps_119 ⟨Nat.zero_le _, Nat.zero_le _⟩ (fun H locs hz9 hP hD hS => ?_)
                refine lv_aload_n hx hb dX7_steps_122 rfl (lv_at hl 0 rfl) ?_
                refine va_get (D := D) (ci := 5) (C := RX7) (T := TX7) (N := 15) hx hb hts hinX7 hown hK hP 0 rfl rfl 0 (by decide) (hts (.fieldLink RX7 7 "NearRanksModel" "s" "[J") (by decide +kernel)) (fun _ h9 => h9) rfl dX7_steps_123 ?_
                refine lv_iconst (v := nI 4) hx hb dX7_steps_126 (by decide) ?_
                refine lv_dup2_11 hx hb dX7_steps_127 rfl rfl ?_
                refine wv_lald hx hb hK hP 1 0 rfl rfl (k := 4) (by omega) (by decide) dX7_steps_128 ?_
                refine wv_tl (y := st) sM_4 ?_
                refine lv_lconst (v := lN 1) hx hb dX7_steps_129 rfl ?_
                refine lv_ladd hx hb dX7_steps_130 ?_
                refine wv_last hx hb hK hP hD hS 1 0 rfl rfl (k := 4) (by omega) (by decide) dX7_steps_131 (fun H locs hP hD hS => ?_)
                rw [show vp_updL (sM n b fl me st lk cm (swa v q) (swa nu q)) 4 (st + (lN 1)) = sM n b fl me (st + (lN 1)) lk cm (swa v q) (swa nu q) from sM_u4 _] at hP hD
                have hP : va_P D vwCl (ModC mo sa pa ha ta cJ cI (sM n b fl me (st + (lN 1)) lk cm (swa v q) (swa nu q)) pt hd tx ps ru ty rf lks lo1 hi1 sp cd pl gv) H := hP
                have hD : va_D _ (ModC mo sa pa ha ta cJ cI (sM n b fl me (st + (lN 1)) lk cm (swa v q) (swa nu q)) pt hd tx ps ru ty rf lks lo1 hi1 sp cd pl gv) := hD
                refine lv_iload_n hx hb dX7_steps_132 rfl (lv_at hl 2 rfl) ?_
                exact wv_iretM hx hb hr hlocks hP hD hS rfl rfl dX7_steps_133
              · skip
                have hf2 : fnr (fal fl v n) (j + 1) (n - (j + 1)) = some q := by rw [show n - j = (n - (j + 1)) + 1 by omega, fnr_s, if_neg (by rw [c108]; decide)] at hf; exact hf
                refine lv_iinc (v := nI (j + 1)) (lv' := [(2, .int (nI (j + 1))), (0, .ref mo), (1, .int (nI k))]) hx hb dX7_steps_111 hl (k := 2) rfl (nI_1 _) (by decide) rfl (fun ls hl => ?_)
                refine lv_goto (tgt := 103) hx hb dX7_steps_114 (by decide) ?_
                exact ih103 (j + 1) (by omega) (by first | assumption | omega) (by have := fnr_le hf2; omega) (by exact hf2) _ _ hP hD hS ls (lv_sub hl [1, 2, 0] rfl)
          exact loop103 (n - k + 1) k (by omega) (by first | assumption | omega) (by omega) (by exact hf0) _ _ hP hD hS ls (lv_sub hl [1, 2, 0] rfl)
        · skip
          have c83b : rk0 fl v n k < k := (dst_pos hk hn).mp (Int32.not_le.mp c83)
          have hf0 : fnl (fal fl v n) k = some q := by rw [← hq]; exact (if_pos c83b).symm
          refine lv_iinc (v := nI (k - 1)) (lv' := [(2, .int (nI (k - 1))), (0, .ref mo), (1, .int (nI k))]) hx hb dX7_steps_86 hl (k := 0) rfl (sb_m1 (by omega)) (by decide) rfl (fun ls hl => ?_)
          have loop89 : ∀ (K : Nat) (j : Nat), j < K → j < k → fnl (fal fl v n) (j + 1) = some q → ∀ (H : Heap) (locs : List Loc), va_P D vwCl (ModC mo sa pa ha ta cJ cI (sM n b fl me st lk cm v nu) pt hd tx ps ru ty rf lks lo1 hi1 sp cd pl gv) H → va_D (va_A (ModC mo sa pa ha ta cJ cI (sM n b fl me st lk cm v nu) pt hd tx ps ru ty rf lks lo1 hi1 sp cd pl gv) s.heap.size) (ModC mo sa pa ha ta cJ cI (sM n b fl me st lk cm v nu) pt hd tx ps ru ty rf lks lo1 hi1 sp cd pl gv) → va_S (va_A (ModC mo sa pa ha ta cJ cI (sM n b fl me st lk cm v nu) pt hd tx ps ru ty rf lks lo1 hi1 sp cd pl gv) s.heap.size) s.heap H locs → ∀ ls : Array Slot, lv_has ls 4 [(0, .ref mo), (1, .int (nI k)), (2, .int (nI j))] → W p l e ({ frames := 4, cells := 0, slots := 0, locals := 90 } : Room) s m args below meth c H locs 0 0 (ZMi below args s D (ModC mo sa pa ha ta cJ cI (sM n b fl me st lk cm v nu) pt hd tx ps ru ty rf lks lo1 hi1 sp cd pl gv) (nI q) (ModC mo sa pa ha ta cJ cI (sM n b fl me (st + (lN 1)) lk cm (swa v q) (swa nu q)) pt hd tx ps ru ty rf lks lo1 hi1 sp cd pl gv)) (F0 m 89 ls []) := by
            intro K
            induction K with
            | zero => intro j hK0; exact absurd hK0 (Nat.not_lt_zero _)
            | succ K ih89 =>
              intro j hKm hjk hf H locs hP hD hS ls hl
              refine lv_aload_n hx hb dX7_steps_89 rfl (lv_at hl 0 rfl) ?_
              refine lv_iload_n hx hb dX7_steps_90 rfl (lv_at hl 2 rfl) ?_
              refine wv_callPi (As := [.int (nI j)]) (rest := []) ⟨hx, hb, hml, hown, hts⟩ (kX7_isFall l D mo sa pa ha ta cJ cI n b fl me st lk cm v nu pt hd tx ps ru ty rf lks lo1 hi1 sp cd pl gv j (by first | assumption | omega) (by first | assumption | omega)) (cwV 1 hts gX7_steps_X7_isFall rfl rfl rfl (by decide +kernel) ⟨Nat.le_of_ble_eq_true rfl, Nat.le_of_ble_eq_true rfl⟩) hK hN hP hS hA [0, 1, 2, 3, 4] [0, 1] rfl rfl 0 5 rfl rfl rfl rfl hl.1 rfl (Nat.le_of_ble_eq_true rfl) dX7_steps_91 ⟨Nat.zero_le _, Nat.zero_le _⟩ (fun H locs hz9 hP hS => ?_)
              refine wv_ifneB (tgt := 117) hx hb dX7_steps_94 (by decide) (fun c94 => ?_) (fun c94 => ?_)
              · skip
                have eq1 : j = q := by rw [fnl_s, if_pos c94] at hf; exact Option.some.inj hf
                rw [eq1] at hl
                refine lv_aload_n hx hb dX7_steps_117 rfl (lv_at hl 0 rfl) ?_
                refine lv_iload_n hx hb dX7_steps_118 rfl (lv_at hl 2 rfl) ?_
                refine wv_callMv (As := [.int (nI q)]) (rest := []) (wr := []) (ws1 := ModC mo sa pa ha ta cJ cI (sM n b fl me st lk cm (swa v q) (swa nu q)) pt hd tx ps ru ty rf lks lo1 hi1 sp cd pl gv) ⟨hx, hb, hml, hown, hts⟩ (kX7_swaps l D mo sa pa ha ta cJ cI n b fl me st lk cm v nu pt hd tx ps ru ty rf lks lo1 hi1 sp cd pl gv q (by first | assumption | omega) (by first | assumption | omega)) (cwV 1 hts gX7_steps_X7_swaps rfl rfl rfl (by decide +kernel) ⟨Nat.le_of_ble_eq_true rfl, Nat.le_of_ble_eq_true rfl⟩) hK hN hP hD hS hA [0, 1, 2, 3, 4] [] [0, 1] [0, 1, 2, 3, 4] rfl rfl (by decide) rfl (by decide) (by decide) rfl (by decide) rfl 0 5 rfl rfl rfl rfl hl.1 rfl (Nat.le_of_ble_eq_true rfl) dX7_steps_119 ⟨Nat.zero_le _, Nat.zero_le _⟩ (fun H locs hz9 hP hD hS => ?_)
                refine lv_aload_n hx hb dX7_steps_122 rfl (lv_at hl 0 rfl) ?_
                refine va_get (D := D) (ci := 5) (C := RX7) (T := TX7) (N := 15) hx hb hts hinX7 hown hK hP 0 rfl rfl 0 (by decide) (hts (.fieldLink RX7 7 "NearRanksModel" "s" "[J") (by decide +kernel)) (fun _ h9 => h9) rfl dX7_steps_123 ?_
                refine lv_iconst (v := nI 4) hx hb dX7_steps_126 (by decide) ?_
                refine lv_dup2_11 hx hb dX7_steps_127 rfl rfl ?_
                refine wv_lald hx hb hK hP 1 0 rfl rfl (k := 4) (by omega) (by decide) dX7_steps_128 ?_
                refine wv_tl (y := st) sM_4 ?_
                refine lv_lconst (v := lN 1) hx hb dX7_steps_129 rfl ?_
                refine lv_ladd hx hb dX7_steps_130 ?_
                refine wv_last hx hb hK hP hD hS 1 0 rfl rfl (k := 4) (by omega) (by decide) dX7_steps_131 (fun H locs hP hD hS => ?_)
                rw [show vp_updL (sM n b fl me st lk cm (swa v q) (swa nu q)) 4 (st + (lN 1)) = sM n b fl me (st + (lN 1)) lk cm (swa v q) (swa nu q) from sM_u4 _] at hP hD
                have hP : va_P D vwCl (ModC mo sa pa ha ta cJ cI (sM n b fl me (st + (lN 1)) lk cm (swa v q) (swa nu q)) pt hd tx ps ru ty rf lks lo1 hi1 sp cd pl gv) H := hP
                have hD : va_D _ (ModC mo sa pa ha ta cJ cI (sM n b fl me (st + (lN 1)) lk cm (swa v q) (swa nu q)) pt hd tx ps ru ty rf lks lo1 hi1 sp cd pl gv) := hD
                refine lv_iload_n hx hb dX7_steps_132 rfl (lv_at hl 2 rfl) ?_
                exact wv_iretM hx hb hr hlocks hP hD hS rfl rfl dX7_steps_133
              · skip
                have hf2 : fnl (fal fl v n) j = some q := by rw [fnl_s, if_neg (by rw [c94]; decide)] at hf; exact hf
                have hj1 := (fnl_le hf2).1
                refine lv_iinc (v := nI (j - 1)) (lv' := [(2, .int (nI (j - 1))), (0, .ref mo), (1, .int (nI k))]) hx hb dX7_steps_97 hl (k := 2) rfl (sb_m1 (by omega)) (by decide) rfl (fun ls hl => ?_)
                refine lv_goto (tgt := 89) hx hb dX7_steps_100 (by decide) ?_
                exact ih89 (j - 1) (by omega) (by first | assumption | omega) (by rw [show j - 1 + 1 = j by omega]; exact hf2) _ _ hP hD hS ls (lv_sub hl [1, 2, 0] rfl)
          exact loop89 ((k - 1) + 1) (k - 1) (by omega) (by first | assumption | omega) (by rw [show k - 1 + 1 = k by omega]; exact hf0) _ _ hP hD hS ls (lv_sub hl [1, 2, 0] rfl)
      · skip
        refine lv_aload_n hx hb dX7_steps_15 rfl (lv_at hl 0 rfl) ?_
        refine lv_iload_n hx hb dX7_steps_16 rfl (lv_at hl 2 rfl) ?_
        refine wv_callPi (As := [.int (nI i)]) (rest := []) ⟨hx, hb, hml, hown, hts⟩ (kX7_isBroken l D mo sa pa ha ta cJ cI n b fl me st lk cm v nu pt hd tx ps ru ty rf lks lo1 hi1 sp cd pl gv i (by first | assumption | omega) (by first | assumption | omega) (by first | assumption | omega)) (cwV 1 hts gX7_steps_X7_isBroken rfl rfl rfl (by decide +kernel) ⟨Nat.le_of_ble_eq_true rfl, Nat.le_of_ble_eq_true rfl⟩) hK hN hP hS hA [0, 1, 2, 3, 4] [0, 1] rfl rfl 0 5 rfl rfl rfl rfl hl.1 rfl (Nat.le_of_ble_eq_true rfl) dX7_steps_17 ⟨Nat.zero_le _, Nat.zero_le _⟩ (fun H locs hz9 hP hS => ?_)
        refine wv_ifeqB (tgt := 50) hx hb dX7_steps_20 (by decide) (fun c20 => ?_) (fun c20 => ?_)
        · skip
          have c20b : ¬ b < far fl v n i := of_decide_eq_false c20
          have hge := wpl_ge (far fl v n) b i
          refine lv_iconst (v := nI 0) hx hb dX7_steps_50 (by decide) ?_
          refine lv_istore_n (lv' := [(3, .int (nI 0)), (0, .ref mo), (1, .int (oI (wpl (far fl v n) b i).2)), (2, .int (nI i))]) hx hb dX7_steps_51 rfl hl (by decide) rfl (fun ls hl => ?_)
          refine lv_iload_n hx hb dX7_steps_52 rfl (lv_at hl 0 rfl) ?_
          refine lv_if_eq (tgt := 60) hx hb dX7_steps_53 (by decide) (fun _ => ?_) (fun h => absurd h (by decide))
          refine lv_iload_n hx hb dX7_steps_60 rfl (lv_at hl 2 rfl) ?_
          refine lv_istore_n (lv' := [(1, .int (oI (wpl (far fl v n) b i).2)), (3, .int (nI 0)), (0, .ref mo), (2, .int (nI i))]) hx hb dX7_steps_61 rfl hl (by decide) rfl (fun ls hl => ?_)
          refine lv_iinc (v := nI (i + 1)) (lv' := [(2, .int (nI (i + 1))), (1, .int (oI (wpl (far fl v n) b i).2)), (3, .int (nI 0)), (0, .ref mo)]) hx hb dX7_steps_62 hl (k := 3) rfl (nI_1 _) (by decide) rfl (fun ls hl => ?_)
          refine lv_goto (tgt := 6) hx hb dX7_steps_65 (by decide) ?_
          have el_l1 : oI (wpl (far fl v n) b (i + 1)).2 = oI (wpl (far fl v n) b i).2 := by first | (rw [wpl_s, if_pos (by omega)]; rfl) | (rw [wpl_s, if_neg (by omega)]; done) | (rw [wpl_s, if_neg (by omega), hwi]; rfl)
          exact ih6 (i + 1) (by omega) (by first | assumption | omega) _ _ (by first | (rw [el_l1]; exact hP) | (simp only [el_l1]; exact hP) | exact hP) (by first | (rw [el_l1]; exact hD) | (simp only [el_l1]; exact hD) | exact hD) hS ls (by first | (rw [el_l1]; exact lv_sub hl [3, 1, 0] rfl) | (simp only [el_l1]; exact lv_sub hl [3, 1, 0] rfl) | exact lv_sub hl [3, 1, 0] rfl)
        · skip
          have c20b : b < far fl v n i := of_decide_eq_true c20
          have hfi := far_le (fl := fl) (v := v) (n := n) (k := i) (by omega)
          rcases hwi : (wpl (far fl v n) b i).2 with _ | k0
          · skip
            have hw1 := wpl_none hwi
            rw [hwi] at hl
            refine lv_iload_n hx hb dX7_steps_23 rfl (lv_at hl 1 rfl) ?_
            refine lv_if_lt (tgt := 46) hx hb dX7_steps_24 (by decide) (fun c24 => ?_) (fun c24 => by exfalso; exact c24 (by decide))
            refine lv_iconst (v := nI 1) hx hb dX7_steps_46 (by decide) ?_
            refine lv_goto (tgt := 51) hx hb dX7_steps_47 (by decide) ?_
            refine lv_istore_n (lv' := [(3, .int (nI 1)), (0, .ref mo), (1, .int (-1000)), (2, .int (nI i))]) hx hb dX7_steps_51 rfl hl (by decide) rfl (fun ls hl => ?_)
            refine lv_iload_n hx hb dX7_steps_52 rfl (lv_at hl 0 rfl) ?_
            refine lv_if_eq (tgt := 60) hx hb dX7_steps_53 (by decide) (fun h => absurd h (by decide)) (fun _ => ?_)
            refine lv_iload_n hx hb dX7_steps_56 rfl (lv_at hl 3 rfl) ?_
            refine lv_goto (tgt := 61) hx hb dX7_steps_57 (by decide) ?_
            refine lv_istore_n (lv' := [(1, .int (nI i)), (3, .int (nI 1)), (0, .ref mo), (2, .int (nI i))]) hx hb dX7_steps_61 rfl hl (by decide) rfl (fun ls hl => ?_)
            refine lv_iinc (v := nI (i + 1)) (lv' := [(2, .int (nI (i + 1))), (1, .int (nI i)), (3, .int (nI 1)), (0, .ref mo)]) hx hb dX7_steps_62 hl (k := 3) rfl (nI_1 _) (by decide) rfl (fun ls hl => ?_)
            refine lv_goto (tgt := 6) hx hb dX7_steps_65 (by decide) ?_
            have el_l1 : oI (wpl (far fl v n) b (i + 1)).2 = nI i := by first | (rw [wpl_s, if_pos (by omega)]; rfl) | (rw [wpl_s, if_neg (by omega)]; done) | (rw [wpl_s, if_neg (by omega), hwi]; rfl)
            exact ih6 (i + 1) (by omega) (by first | assumption | omega) _ _ (by first | (rw [el_l1]; exact hP) | (simp only [el_l1]; exact hP) | exact hP) (by first | (rw [el_l1]; exact hD) | (simp only [el_l1]; exact hD) | exact hD) hS ls (by first | (rw [el_l1]; exact lv_sub hl [3, 1, 0] rfl) | (simp only [el_l1]; exact lv_sub hl [3, 1, 0] rfl) | exact lv_sub hl [3, 1, 0] rfl)
          · skip
            have hw1 := (wpl_some hwi).2.2
            have hk0 := (wpl_some hwi).1
            have hf0 := far_le (fl := fl) (v := v) (n := n) (k := k0) (by omega)
            rw [hwi] at hl
            refine lv_iload_n hx hb dX7_steps_23 rfl (lv_at hl 1 rfl) ?_
            refine wv_if_lt hx hb (by omega) dX7_steps_24 (tgt := 46) (by decide) ?_
            refine lv_aload_n hx hb dX7_steps_27 rfl (lv_at hl 0 rfl) ?_
            refine lv_iload_n hx hb dX7_steps_28 rfl (lv_at hl 2 rfl) ?_
            refine wv_callPi (As := [.int (nI i)]) (rest := []) ⟨hx, hb, hml, hown, hts⟩ (kX7_distance l D mo sa pa ha ta cJ cI n b fl me st lk cm v nu pt hd tx ps ru ty rf lks lo1 hi1 sp cd pl gv i (by first | assumption | omega) (by first | assumption | omega)) (cwV 1 hts gX7_steps_X7_distance rfl rfl rfl (by decide +kernel) ⟨Nat.le_of_ble_eq_true rfl, Nat.le_of_ble_eq_true rfl⟩) hK hN hP hS hA [0, 1, 2, 3, 4] [0, 1] rfl rfl 0 5 rfl rfl rfl rfl hl.1 rfl (Nat.le_of_ble_eq_true rfl) dX7_steps_29 ⟨Nat.zero_le _, Nat.zero_le _⟩ (fun H locs hz9 hP hS => ?_)
            refine wv_callSi (As := [.int (dst fl v n i)]) (rest := []) ⟨hx, hb, hml, hown, hts⟩ (kX7_size l D (dst fl v n i)) (va_cwS 1 hts gX7_steps_X7_size rfl rfl rfl (by decide +kernel) ⟨Nat.le_of_ble_eq_true rfl, Nat.le_of_ble_eq_true rfl⟩) hK hN hP hS hA [] [] rfl rfl rfl hl.1 rfl (Nat.le_of_ble_eq_true rfl) dX7_steps_32 ⟨Nat.zero_le _, Nat.zero_le _⟩ (fun H locs hz9 hP hS => ?_)
            refine wv_ti (y := nI (far fl v n i)) (dst_sz (by omega) hn) ?_
            refine lv_aload_n hx hb dX7_steps_35 rfl (lv_at hl 0 rfl) ?_
            refine lv_iload_n hx hb dX7_steps_36 rfl (lv_at hl 1 rfl) ?_
            refine wv_callPi (As := [.int (nI k0)]) (rest := [.int (nI (far fl v n i))]) ⟨hx, hb, hml, hown, hts⟩ (kX7_distance l D mo sa pa ha ta cJ cI n b fl me st lk cm v nu pt hd tx ps ru ty rf lks lo1 hi1 sp cd pl gv k0 (by first | assumption | omega) (by first | assumption | omega)) (cwV 1 hts gX7_steps_X7_distance rfl rfl rfl (by decide +kernel) ⟨Nat.le_of_ble_eq_true rfl, Nat.le_of_ble_eq_true rfl⟩) hK hN hP hS hA [0, 1, 2, 3, 4] [0, 1] rfl rfl 0 5 rfl rfl rfl rfl hl.1 rfl (Nat.le_of_ble_eq_true rfl) dX7_steps_37 ⟨Nat.zero_le _, Nat.zero_le _⟩ (fun H locs hz9 hP hS => ?_)
            refine wv_callSi (As := [.int (dst fl v n k0)]) (rest := [.int (nI (far fl v n i))]) ⟨hx, hb, hml, hown, hts⟩ (kX7_size l D (dst fl v n k0)) (va_cwS 1 hts gX7_steps_X7_size rfl rfl rfl (by decide +kernel) ⟨Nat.le_of_ble_eq_true rfl, Nat.le_of_ble_eq_true rfl⟩) hK hN hP hS hA [] [] rfl rfl rfl hl.1 rfl (Nat.le_of_ble_eq_true rfl) dX7_steps_40 ⟨Nat.zero_le _, Nat.zero_le _⟩ (fun H locs hz9 hP hS => ?_)
            refine wv_ti (y := nI (far fl v n k0)) (dst_sz (by omega) hn) ?_
            refine wv_icmp_le (tgt := 50) hx hb (by omega) (by omega) dX7_steps_43 (by decide) (fun c43 => ?_) (fun c43 => ?_)
            · skip
              refine lv_iconst (v := nI 0) hx hb dX7_steps_50 (by decide) ?_
              refine lv_istore_n (lv' := [(3, .int (nI 0)), (0, .ref mo), (1, .int (nI k0)), (2, .int (nI i))]) hx hb dX7_steps_51 rfl hl (by decide) rfl (fun ls hl => ?_)
              refine lv_iload_n hx hb dX7_steps_52 rfl (lv_at hl 0 rfl) ?_
              refine lv_if_eq (tgt := 60) hx hb dX7_steps_53 (by decide) (fun _ => ?_) (fun h => absurd h (by decide))
              refine lv_iload_n hx hb dX7_steps_60 rfl (lv_at hl 2 rfl) ?_
              refine lv_istore_n (lv' := [(1, .int (nI k0)), (3, .int (nI 0)), (0, .ref mo), (2, .int (nI i))]) hx hb dX7_steps_61 rfl hl (by decide) rfl (fun ls hl => ?_)
              refine lv_iinc (v := nI (i + 1)) (lv' := [(2, .int (nI (i + 1))), (1, .int (nI k0)), (3, .int (nI 0)), (0, .ref mo)]) hx hb dX7_steps_62 hl (k := 3) rfl (nI_1 _) (by decide) rfl (fun ls hl => ?_)
              refine lv_goto (tgt := 6) hx hb dX7_steps_65 (by decide) ?_
              have el_l1 : oI (wpl (far fl v n) b (i + 1)).2 = nI k0 := by first | (rw [wpl_s, if_pos (by omega)]; rfl) | (rw [wpl_s, if_neg (by omega)]; done) | (rw [wpl_s, if_neg (by omega), hwi]; rfl)
              exact ih6 (i + 1) (by omega) (by first | assumption | omega) _ _ (by first | (rw [el_l1]; exact hP) | (simp only [el_l1]; exact hP) | exact hP) (by first | (rw [el_l1]; exact hD) | (simp only [el_l1]; exact hD) | exact hD) hS ls (by first | (rw [el_l1]; exact lv_sub hl [3, 1, 0] rfl) | (simp only [el_l1]; exact lv_sub hl [3, 1, 0] rfl) | exact lv_sub hl [3, 1, 0] rfl)
            · skip
              refine lv_iconst (v := nI 1) hx hb dX7_steps_46 (by decide) ?_
              refine lv_goto (tgt := 51) hx hb dX7_steps_47 (by decide) ?_
              refine lv_istore_n (lv' := [(3, .int (nI 1)), (0, .ref mo), (1, .int (nI k0)), (2, .int (nI i))]) hx hb dX7_steps_51 rfl hl (by decide) rfl (fun ls hl => ?_)
              refine lv_iload_n hx hb dX7_steps_52 rfl (lv_at hl 0 rfl) ?_
              refine lv_if_eq (tgt := 60) hx hb dX7_steps_53 (by decide) (fun h => absurd h (by decide)) (fun _ => ?_)
              refine lv_iload_n hx hb dX7_steps_56 rfl (lv_at hl 3 rfl) ?_
              refine lv_goto (tgt := 61) hx hb dX7_steps_57 (by decide) ?_
              refine lv_istore_n (lv' := [(1, .int (nI i)), (3, .int (nI 1)), (0, .ref mo), (2, .int (nI i))]) hx hb dX7_steps_61 rfl hl (by decide) rfl (fun ls hl => ?_)
              refine lv_iinc (v := nI (i + 1)) (lv' := [(2, .int (nI (i + 1))), (1, .int (nI i)), (3, .int (nI 1)), (0, .ref mo)]) hx hb dX7_steps_62 hl (k := 3) rfl (nI_1 _) (by decide) rfl (fun ls hl => ?_)
              refine lv_goto (tgt := 6) hx hb dX7_steps_65 (by decide) ?_
              have el_l1 : oI (wpl (far fl v n) b (i + 1)).2 = nI i := by first | (rw [wpl_s, if_pos (by omega)]; rfl) | (rw [wpl_s, if_neg (by omega)]; done) | (rw [wpl_s, if_neg (by omega), hwi]; rfl)
              exact ih6 (i + 1) (by omega) (by first | assumption | omega) _ _ (by first | (rw [el_l1]; exact hP) | (simp only [el_l1]; exact hP) | exact hP) (by first | (rw [el_l1]; exact hD) | (simp only [el_l1]; exact hD) | exact hD) hS ls (by first | (rw [el_l1]; exact lv_sub hl [3, 1, 0] rfl) | (simp only [el_l1]; exact lv_sub hl [3, 1, 0] rfl) | exact lv_sub hl [3, 1, 0] rfl)
  exact loop6 (n - 0 + 1) 0 (by omega) (by first | assumption | omega) _ _ (by first | (rw [el_l1]; exact hP) | (simp only [el_l1]; exact hP) | exact hP) (by first | (rw [el_l1]; exact hD) | (simp only [el_l1]; exact hD) | exact hD) hS ls (by first | (rw [el_l1]; exact lv_sub hl [2, 1, 0] rfl) | (simp only [el_l1]; exact lv_sub hl [2, 1, 0] rfl) | exact lv_sub hl [2, 1, 0] rfl)

set_option maxHeartbeats 4000000 in
set_option maxRecDepth 100000 in
theorem kX7_mends (l : Launch) (D : va_G) (mo : Nat) (sa : Nat) (pa : Nat) (ha : Nat) (ta : Nat) (cJ : ClassId) (cI : ClassId) (n : Nat) (b : Nat) (fl : Bool) (me : Bool) (st : Int64) (lk : Int64) (cm : Int64) (v : Nat → Int64) (nu : Nat → Int64) (pt : Nat → Int64) (hd : Nat → Int64) (tx : Nat → Int32) (ps : Nat) (ru : Bool) (ty : Nat) (rf : Nat) (lks : Nat) (lo1 : Int32) (hi1 : Int32) (sp : Nat) (cd : Int32) (pl : Int32) (gv : Int64) (hn : n ≤ 32) (hb : b ≤ 31) : MMi l yX7_mends wsX7_mends ({ frames := 5, cells := 0, slots := 0, locals := 113 } : Room) [.ref mo] D (ModC mo sa pa ha ta cJ cI (sM n b fl me st lk cm v nu) pt hd tx ps ru ty rf lks lo1 hi1 sp cd pl gv) [(cJ, .long), (cI, .int)] (nI ((mL fl n b 1000 v).length)) (ModC mo sa pa ha ta cJ cI (sM n b fl me (st + (lN (mL fl n b 1000 v).length)) lk cm (sws v (mL fl n b 1000 v)) (sws nu (mL fl n b 1000 v))) pt hd tx ps ru ty rf lks lo1 hi1 sp cd pl gv) := by
  refine MMi_of (cc := cX7_mends) (maxL := 2) (ret := some .int) (by decide +kernel) rfl (Nat.le_of_ble_eq_true rfl) ?_
  intro p e s m args below meth c hx hb hr hts hown hlocks hml hP hK hN hD ls hl
  have hown : s.vm.findClass RX7 = some m.cls := hown
  have hl : lv_has ls 2 [(0, .ref mo)] := hl
  have hS : va_S (va_A (ModC mo sa pa ha ta cJ cI (sM n b fl me st lk cm v nu) pt hd tx ps ru ty rf lks lo1 hi1 sp cd pl gv) s.heap.size) s.heap s.heap [] := va_S.rf
  have hA := wk_hA (ModC mo sa pa ha ta cJ cI (sM n b fl me st lk cm v nu) pt hd tx ps ru ty rf lks lo1 hi1 sp cd pl gv) s.heap.size
  have hD9 : True := trivial
  refine lv_iconst (v := nI 0) hx hb dX7_mends_0 (by decide) ?_
  refine lv_istore_n (lv' := [(1, .int (nI 0)), (0, .ref mo)]) hx hb dX7_mends_1 rfl hl (by decide) rfl (fun ls hl => ?_)
  have loop2 : ∀ (K : Nat) (v1 : Nat → Int64) (nu1 : Nat → Int64) (st1 : Int64) (i : Nat), tin fl v1 n < K → i + tin fl v1 n ≤ 496 → (mL fl n b 1000 v).length = i + (mL fl n b 1000 v1).length → sws v (mL fl n b 1000 v) = sws v1 (mL fl n b 1000 v1) → sws nu (mL fl n b 1000 v) = sws nu1 (mL fl n b 1000 v1) → st1 = st + lN i → ∀ (H : Heap) (locs : List Loc), va_P D vwCl (ModC mo sa pa ha ta cJ cI (sM n b fl me st1 lk cm v1 nu1) pt hd tx ps ru ty rf lks lo1 hi1 sp cd pl gv) H → va_D (va_A (ModC mo sa pa ha ta cJ cI (sM n b fl me st lk cm v nu) pt hd tx ps ru ty rf lks lo1 hi1 sp cd pl gv) s.heap.size) (ModC mo sa pa ha ta cJ cI (sM n b fl me st1 lk cm v1 nu1) pt hd tx ps ru ty rf lks lo1 hi1 sp cd pl gv) → va_S (va_A (ModC mo sa pa ha ta cJ cI (sM n b fl me st lk cm v nu) pt hd tx ps ru ty rf lks lo1 hi1 sp cd pl gv) s.heap.size) s.heap H locs → ∀ ls : Array Slot, lv_has ls 2 [(0, .ref mo), (1, .int (nI i))] → W p l e ({ frames := 5, cells := 0, slots := 0, locals := 113 } : Room) s m args below meth c H locs 0 0 (ZMi below args s D (ModC mo sa pa ha ta cJ cI (sM n b fl me st lk cm v nu) pt hd tx ps ru ty rf lks lo1 hi1 sp cd pl gv) (nI ((mL fl n b 1000 v).length)) (ModC mo sa pa ha ta cJ cI (sM n b fl me (st + (lN (mL fl n b 1000 v).length)) lk cm (sws v (mL fl n b 1000 v)) (sws nu (mL fl n b 1000 v))) pt hd tx ps ru ty rf lks lo1 hi1 sp cd pl gv)) (F0 m 2 ls []) := by
    intro K
    induction K with
    | zero => intro v1 nu1 st1 i hK0; exact absurd hK0 (Nat.not_lt_zero _)
    | succ K ih2 =>
      intro v1 nu1 st1 i hKm hi hLn hV hU hT H locs hP hD hS ls hl
      refine lv_aload_n hx hb dX7_mends_2 rfl (lv_at hl 0 rfl) ?_
      rcases hw : (wpl (far fl v1 n) b n).2 with _ | k
      · skip
        have hm : mq fl n b v1 = none := by unfold mq; rw [hw]
        refine wv_callPi (As := []) (rest := []) ⟨hx, hb, hml, hown, hts⟩ (kX7_steps_no l D mo sa pa ha ta cJ cI n b fl me st1 lk cm v1 nu1 pt hd tx ps ru ty rf lks lo1 hi1 sp cd pl gv (by first | assumption | omega) (by first | assumption | omega) (by first | assumption | omega)) (cwV 0 hts gX7_mends_X7_steps rfl rfl rfl (by decide +kernel) ⟨Nat.le_of_ble_eq_true rfl, Nat.le_of_ble_eq_true rfl⟩) hK hN hP hS hA [0, 1, 2, 3, 4] [0, 1] rfl rfl 0 5 rfl rfl rfl rfl hl.1 rfl (Nat.le_of_ble_eq_true rfl) dX7_mends_3 ⟨Nat.zero_le _, Nat.zero_le _⟩ (fun H locs hz9 hP hS => ?_)
        refine lv_sipush (v := (-1000)) hx hb dX7_mends_6 (by decide) ?_
        refine lv_icmp_eq (tgt := 18) hx hb dX7_mends_9 (by decide) (fun c9 => ?_) (fun c9 => by exfalso; exact c9 rfl)
        refine lv_iload_n hx hb dX7_mends_18 rfl (lv_at hl 1 rfl) ?_
        have ew0_st : (st + (lN (mL fl n b 1000 v).length)) = st1 := by rw [hT, hLn, mL_n hm]; rfl
        have ew0_v : (sws v (mL fl n b 1000 v)) = v1 := by rw [hV, mL_n hm]; rfl
        have ew0_nu : (sws nu (mL fl n b 1000 v)) = nu1 := by rw [hU, mL_n hm]; rfl
        exact wv_iretM hx hb hr hlocks hP hD hS (by rw [hLn, mL_n hm]; rfl) (by rw [ew0_st, ew0_nu, ew0_v]) dX7_mends_19
      · skip
        obtain ⟨q, hq⟩ := fno_ex (v := v1) hw
        have hm : mq fl n b v1 = some q := by unfold mq; rw [hw]; exact hq
        have hq1 := fal_lt (mq_fal hm)
        have hts2 := tin_sw (mq_fal hm)
        have hs := mL_1 hn hm
        refine wv_callMi (As := []) (rest := []) (wr := []) (ws1 := ModC mo sa pa ha ta cJ cI (sM n b fl me (st1 + (lN 1)) lk cm (swa v1 q) (swa nu1 q)) pt hd tx ps ru ty rf lks lo1 hi1 sp cd pl gv) ⟨hx, hb, hml, hown, hts⟩ (kX7_steps_ok l D mo sa pa ha ta cJ cI n b fl me st1 lk cm v1 nu1 pt hd tx ps ru ty rf lks lo1 hi1 sp cd pl gv k q (by first | assumption | omega) (by first | assumption | omega) (by first | assumption | omega) (by first | assumption | omega)) (cwV 0 hts gX7_mends_X7_steps rfl rfl rfl (by decide +kernel) ⟨Nat.le_of_ble_eq_true rfl, Nat.le_of_ble_eq_true rfl⟩) hK hN hP hD hS hA [0, 1, 2, 3, 4] [] [0, 1] [0, 1, 2, 3, 4] rfl rfl (by decide) rfl (by decide) (by decide) rfl (by decide) rfl 0 5 rfl rfl rfl rfl hl.1 rfl (Nat.le_of_ble_eq_true rfl) dX7_mends_3 ⟨Nat.zero_le _, Nat.zero_le _⟩ (fun H locs hz9 hP hD hS => ?_)
        refine lv_sipush (v := (-1000)) hx hb dX7_mends_6 (by decide) ?_
        refine lv_icmp_eq (tgt := 18) hx hb dX7_mends_9 (by decide) (fun c9 => by exfalso; exact nI_nn (by omega) c9) (fun c9 => ?_)
        refine lv_iinc (v := nI (i + 1)) (lv' := [(1, .int (nI (i + 1))), (0, .ref mo)]) hx hb dX7_mends_12 hl (k := 1) rfl (nI_1 _) (by decide) rfl (fun ls hl => ?_)
        refine lv_goto (tgt := 2) hx hb dX7_mends_15 (by decide) ?_
        exact ih2 (swa v1 q) (swa nu1 q) (st1 + (lN 1)) (i + 1) (by omega) (by omega) (by rw [hLn, hs, List.length_cons]; omega) (by rw [hV, hs]; rfl) (by rw [hU, hs]; rfl) (by rw [hT, Int64.add_assoc, lN_add]) _ _ hP hD hS ls (lv_sub hl [1, 0] rfl)
  exact loop2 (tin fl v n + 1) v nu st 0 (by omega) (by have := tin_le (fl := fl) (v := v) hn; omega) (by rw [Nat.zero_add]) (by rfl) (by rfl) (by rw [show lN 0 = 0 from rfl, Int64.add_zero]) _ _ hP hD hS ls (lv_sub hl [1, 0] rfl)
