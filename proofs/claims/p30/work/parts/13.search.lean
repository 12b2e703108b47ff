/-! The class's search. SrcC: its one cell. -/
abbrev SrcC (q : Nat) (pc1 : Int32) (lk1 : Nat) (lw hg : Int32) : va_W := [(q, .inr (3, [.int pc1, .int (nI lk1), .int lw, .int hg]))]
set_option maxHeartbeats 4000000 in
set_option maxRecDepth 100000 in
theorem kX4_narrow (l : Launch) (D : va_G) (q : Nat) (r : Nat) (va : Nat) (na : Nat) (ra : Nat) (cJ : ClassId) (cI : ClassId) (v : Nat → Int64) (nu : Nat → Int32) (rk : Nat → Int32) (n : Nat) (b : Nat) (fl : Bool) (me : Bool) (st : Int32) (lk : Int32) (cm : Int32) (x : Int64) (hn : n ≤ 32) (hb : b ≤ 31) : MMv l yX4_narrow wsX4_narrow ({ frames := 1, cells := 0, slots := 0, locals := 24 } : Room) [.ref q, .ref r, .long x] D ((SrcC q (-1000) 0 (nI 0) (nI n)) ++ (RowC r va na ra cJ cI v nu rk n b fl me st lk cm)) [(cJ, .long), (cI, .int)] ((SrcC q (oI (srw fl v (2 * b) x 32 0 n).1) ((srw fl v (2 * b) x 32 0 n).2.1) (nI (srw fl v (2 * b) x 32 0 n).2.2.1) (nI (srw fl v (2 * b) x 32 0 n).2.2.2)) ++ (RowC r va na ra cJ cI v nu rk n b fl me st lk cm)) := by
  refine MMv_of (cc := cX4_narrow) (maxL := 6) (ret := none) (by decide +kernel) rfl (Nat.le_of_ble_eq_true rfl) ?_
  intro p e s m args below meth c hx hb hr hts hown hlocks hml hP hK hN hD ls hl
  have hown : s.vm.findClass RX4 = some m.cls := hown
  have hl : lv_has ls 6 [(0, .ref q), (1, .ref r), (2, .long x)] := hl
  have hS : va_S (va_A ((SrcC q (-1000) 0 (nI 0) (nI n)) ++ (RowC r va na ra cJ cI v nu rk n b fl me st lk cm)) s.heap.size) s.heap s.heap [] := va_S.rf
  have hA := wk_hA ((SrcC q (-1000) 0 (nI 0) (nI n)) ++ (RowC r va na ra cJ cI v nu rk n b fl me st lk cm)) s.heap.size
  have hD9 : True := trivial
  have hinX3 : ∀ w ∈ wsX30, w ∈ wsX4_narrow := by decide +kernel
  have hinX4 : ∀ w ∈ wsX40, w ∈ wsX4_narrow := by decide +kernel
  refine lv_iconst (v := nI 2) hx hb dX4_narrow_0 (by decide) ?_
  refine lv_aload_n hx hb dX4_narrow_1 rfl (lv_at hl 1 rfl) ?_
  refine va_getN (D := D) (ci := 2) (C := RX3) (T := TX3) (N := 10) hx hb hts hinX3 hown hK hP 1 rfl rfl 4 (by decide) (hN.use (w := .fieldLinkNest "NearRanks$Search" 36 "NearRanks$Row" "bound" "I" "NearRanks") (by decide +kernel) rfl) (fun _ h9 => h9) rfl dX4_narrow_2 ?_
  refine lv_imul hx hb dX4_narrow_5 ?_
  refine wv_ti (pk_mul _ _) ?_
  refine lv_istore (lv' := [(4, .int (nI (2 * b))), (0, .ref q), (1, .ref r), (2, .long x)]) hx hb dX4_narrow_6 hl (by decide) rfl (fun ls hl => ?_)
  have loop8 : ∀ (K : Nat) (lo : Nat) (hi : Nat) (g : Nat), hi - lo < K → lo ≤ hi → hi ≤ n → g + (hi - lo) ≤ 32 → (srw fl v (2 * b) x 32 0 n).1 = (srw fl v (2 * b) x (32 - g) lo hi).1 → (srw fl v (2 * b) x 32 0 n).2.1 = g + (srw fl v (2 * b) x (32 - g) lo hi).2.1 → (srw fl v (2 * b) x 32 0 n).2.2 = (srw fl v (2 * b) x (32 - g) lo hi).2.2 → ∀ (H : Heap) (locs : List Loc), va_P D vwCl ((SrcC q (-1000) g (nI lo) (nI hi)) ++ (RowC r va na ra cJ cI v nu rk n b fl me st lk cm)) H → va_D (va_A ((SrcC q (-1000) 0 (nI 0) (nI n)) ++ (RowC r va na ra cJ cI v nu rk n b fl me st lk cm)) s.heap.size) ((SrcC q (-1000) g (nI lo) (nI hi)) ++ (RowC r va na ra cJ cI v nu rk n b fl me st lk cm)) → va_S (va_A ((SrcC q (-1000) 0 (nI 0) (nI n)) ++ (RowC r va na ra cJ cI v nu rk n b fl me st lk cm)) s.heap.size) s.heap H locs → ∀ ls : Array Slot, lv_has ls 6 [(0, .ref q), (1, .ref r), (2, .long x), (4, .int (nI (2 * b)))] → W p l e ({ frames := 1, cells := 0, slots := 0, locals := 24 } : Room) s m args below meth c H locs 0 0 (ZMv below args s D ((SrcC q (-1000) 0 (nI 0) (nI n)) ++ (RowC r va na ra cJ cI v nu rk n b fl me st lk cm)) ((SrcC q (oI (srw fl v (2 * b) x 32 0 n).1) ((srw fl v (2 * b) x 32 0 n).2.1) (nI (srw fl v (2 * b) x 32 0 n).2.2.1) (nI (srw fl v (2 * b) x 32 0 n).2.2.2)) ++ (RowC r va na ra cJ cI v nu rk n b fl me st lk cm))) (F0 m 8 ls []) := by
    intro K
    induction K with
    | zero => intro lo hi g hK0; exact absurd hK0 (Nat.not_lt_zero _)
    | succ K ih8 =>
      intro lo hi g hKm h1 h2 h3 hr1 hr2 hr3 H locs hP hD hS ls hl
      refine lv_aload_n hx hb dX4_narrow_8 rfl (lv_at hl 0 rfl) ?_
      refine va_get (D := D) (ci := 3) (C := RX4) (T := TX4) (N := 4) hx hb hts hinX4 hown hK hP 0 rfl rfl 1 (by decide) (hts (.fieldLink RX4 15 "NearRanks$Search" "looks" "I") (by decide +kernel)) (fun _ h9 => h9) rfl dX4_narrow_9 ?_
      refine lv_bipush (v := nI 32) hx hb dX4_narrow_12 (by decide) ?_
      refine wv_icmp_ge (tgt := 154) hx hb (by omega) (by omega) dX4_narrow_14 (by decide) (fun c14 => ?_) (fun c14 => ?_)
      · skip
        have hst : (srw fl v (2 * b) x (32 - g) lo hi) = (none, 0, lo, hi) := by rw [show 32 - g = 0 by omega]; rfl
        have ew0_pc1 : oI (srw fl v (2 * b) x 32 0 n).1 = (-1000) := by rw [hr1, hst]; rfl
        have ew0_lk1 : (srw fl v (2 * b) x 32 0 n).2.1 = g := by first | (rw [hr2, hst]; done) | (rw [hr2, hst]; rfl)
        have ew0_lw : nI (srw fl v (2 * b) x 32 0 n).2.2.1 = nI lo := by rw [hr3, hst]
        have ew0_hg : nI (srw fl v (2 * b) x 32 0 n).2.2.2 = nI hi := by rw [hr3, hst]
        exact wv_vretM hx hb hr hlocks hP hD hS (by rw [ew0_hg, ew0_lw, ew0_pc1, ew0_lk1]) dX4_narrow_154
      · skip
        refine lv_aload_n hx hb dX4_narrow_17 rfl (lv_at hl 0 rfl) ?_
        refine va_get (D := D) (ci := 3) (C := RX4) (T := TX4) (N := 4) hx hb hts hinX4 hown hK hP 0 rfl rfl 0 (by decide) (hts (.fieldLink RX4 9 "NearRanks$Search" "place" "I") (by decide +kernel)) (fun _ h9 => h9) rfl dX4_narrow_18 ?_
        refine lv_sipush (v := (-1000)) hx hb dX4_narrow_21 (by decide) ?_
        refine lv_icmp_ne (tgt := 154) hx hb dX4_narrow_24 (by decide) (fun c24 => by exfalso; exact c24 rfl) (fun c24 => ?_)
        refine lv_aload_n hx hb dX4_narrow_27 rfl (lv_at hl 0 rfl) ?_
        refine va_get (D := D) (ci := 3) (C := RX4) (T := TX4) (N := 4) hx hb hts hinX4 hown hK hP 0 rfl rfl 3 (by decide) (hts (.fieldLink RX4 26 "NearRanks$Search" "high" "I") (by decide +kernel)) (fun _ h9 => h9) rfl dX4_narrow_28 ?_
        refine lv_aload_n hx hb dX4_narrow_31 rfl (lv_at hl 0 rfl) ?_
        refine va_get (D := D) (ci := 3) (C := RX4) (T := TX4) (N := 4) hx hb hts hinX4 hown hK hP 0 rfl rfl 2 (by decide) (hts (.fieldLink RX4 18 "NearRanks$Search" "low" "I") (by decide +kernel)) (fun _ h9 => h9) rfl dX4_narrow_32 ?_
        refine lv_isub hx hb dX4_narrow_35 ?_
        refine wv_ti (pk_sub (by omega)) ?_
        refine lv_iconst (v := nI 2) hx hb dX4_narrow_36 (by decide) ?_
        refine lv_iload hx hb dX4_narrow_37 (lv_at hl 3 rfl) ?_
        refine lv_imul hx hb dX4_narrow_39 ?_
        refine wv_ti (pk_mul _ _) ?_
        refine lv_iconst (v := nI 2) hx hb dX4_narrow_40 (by decide) ?_
        refine lv_iadd hx hb dX4_narrow_41 ?_
        refine wv_ti (nI_add _ _) ?_
        refine wv_icmp_le (tgt := 154) hx hb (by omega) (by omega) dX4_narrow_42 (by decide) (fun c42 => ?_) (fun c42 => ?_)
        · skip
          have hst : (srw fl v (2 * b) x (32 - g) lo hi) = (none, 0, lo, hi) := srw_stop c42
          have ew0_pc1 : oI (srw fl v (2 * b) x 32 0 n).1 = (-1000) := by rw [hr1, hst]; rfl
          have ew0_lk1 : (srw fl v (2 * b) x 32 0 n).2.1 = g := by first | (rw [hr2, hst]; done) | (rw [hr2, hst]; rfl)
          have ew0_lw : nI (srw fl v (2 * b) x 32 0 n).2.2.1 = nI lo := by rw [hr3, hst]
          have ew0_hg : nI (srw fl v (2 * b) x 32 0 n).2.2.2 = nI hi := by rw [hr3, hst]
          exact wv_vretM hx hb hr hlocks hP hD hS (by rw [ew0_hg, ew0_lw, ew0_pc1, ew0_lk1]) dX4_narrow_154
        · skip
          have hw2 : ¬ hi - lo ≤ 2 * (2 * b) + 2 := by omega
          have hs : 32 - g = (32 - (g + 1)) + 1 := by omega
          refine lv_aload_n hx hb dX4_narrow_45 rfl (lv_at hl 0 rfl) ?_
          refine va_get (D := D) (ci := 3) (C := RX4) (T := TX4) (N := 4) hx hb hts hinX4 hown hK hP 0 rfl rfl 2 (by decide) (hts (.fieldLink RX4 18 "NearRanks$Search" "low" "I") (by decide +kernel)) (fun _ h9 => h9) rfl dX4_narrow_46 ?_
          refine lv_aload_n hx hb dX4_narrow_49 rfl (lv_at hl 0 rfl) ?_
          refine va_get (D := D) (ci := 3) (C := RX4) (T := TX4) (N := 4) hx hb hts hinX4 hown hK hP 0 rfl rfl 3 (by decide) (hts (.fieldLink RX4 26 "NearRanks$Search" "high" "I") (by decide +kernel)) (fun _ h9 => h9) rfl dX4_narrow_50 ?_
          refine lv_iadd hx hb dX4_narrow_53 ?_
          refine wv_ti (nI_add _ _) ?_
          refine lv_iconst (v := nI 2) hx hb dX4_narrow_54 (by decide) ?_
          refine lv_idiv hx hb dX4_narrow_55 (by decide) ?_
          refine wv_ti (pk_div (by omega) (by omega) (by omega)) ?_
          refine lv_istore (lv' := [(5, .int (nI ((lo + hi) / 2))), (0, .ref q), (1, .ref r), (2, .long x), (4, .int (nI (2 * b)))]) hx hb dX4_narrow_56 hl (by decide) rfl (fun ls hl => ?_)
          refine lv_aload_n hx hb dX4_narrow_58 rfl (lv_at hl 2 rfl) ?_
          refine lv_iload hx hb dX4_narrow_59 (lv_at hl 0 rfl) ?_
          refine wv_callPi (As := [.int (nI ((lo + hi) / 2))]) (rest := []) ⟨hx, hb, hml, hown, hts⟩ (kX3_isPlace l D r va na ra cJ cI v nu rk n b fl me st lk cm (nI ((lo + hi) / 2))) (cwV 1 hts gX4_narrow_X3_isPlace rfl rfl rfl (by decide +kernel) ⟨Nat.le_of_ble_eq_true rfl, Nat.le_of_ble_eq_true rfl⟩) hK hN hP hS hA [1, 2, 3, 4] [0, 1] rfl rfl 1 2 rfl rfl rfl rfl hl.1 rfl (Nat.le_of_ble_eq_true rfl) dX4_narrow_61 ⟨Nat.zero_le _, Nat.zero_le _⟩ (fun H locs hz9 hP hS => ?_)
          refine wv_ti (y := bI true) (by rw [inR_t (by omega) (by omega)]) ?_
          refine wv_ifneB (tgt := 68) hx hb dX4_narrow_64 (by decide) (fun _ => ?_) (fun h => by cases h)
          refine lv_aload_n hx hb dX4_narrow_68 rfl (lv_at hl 1 rfl) ?_
          refine lv_dup hx hb dX4_narrow_69 rfl ?_
          refine va_get (D := D) (ci := 3) (C := RX4) (T := TX4) (N := 4) hx hb hts hinX4 hown hK hP 0 rfl rfl 1 (by decide) (hts (.fieldLink RX4 15 "NearRanks$Search" "looks" "I") (by decide +kernel)) (fun _ h9 => h9) rfl dX4_narrow_70 ?_
          refine lv_iconst (v := nI 1) hx hb dX4_narrow_73 (by decide) ?_
          refine lv_iadd hx hb dX4_narrow_74 ?_
          refine wv_ti (nI_add _ _) ?_
          refine va_put (D := D) (ci := 3) (v := .int (nI (g + 1))) (ty := .int) (C := RX4) (T := TX4) (N := 4) hx hb hts hinX4 tyX4 tyX4_ok nmX4 hown hK hP hD hS 0 rfl rfl 1 (by decide) (hts (.fieldLink RX4 15 "NearRanks$Search" "looks" "I") (by decide +kernel)) (fun _ h9 => h9) rfl (by decide +kernel) rfl rfl (Nat.le_of_ble_eq_true rfl) dX4_narrow_75 (fun H locs hP hD hS => ?_)
          have hP : va_P D vwCl ((SrcC q (-1000) (g + 1) (nI lo) (nI hi)) ++ (RowC r va na ra cJ cI v nu rk n b fl me st lk cm)) H := hP
          have hD : va_D _ ((SrcC q (-1000) (g + 1) (nI lo) (nI hi)) ++ (RowC r va na ra cJ cI v nu rk n b fl me st lk cm)) := hD
          refine lv_aload_n hx hb dX4_narrow_78 rfl (lv_at hl 2 rfl) ?_
          refine va_getN (D := D) (ci := 2) (C := RX3) (T := TX3) (N := 10) hx hb hts hinX3 hown hK hP 1 rfl rfl 0 (by decide) (hN.use (w := .fieldLinkNest "NearRanks$Search" 43 "NearRanks$Row" "values" "[J" "NearRanks") (by decide +kernel) rfl) (fun _ h9 => h9) rfl dX4_narrow_79 ?_
          refine lv_iload hx hb dX4_narrow_82 (lv_at hl 0 rfl) ?_
          refine wv_lald hx hb hK hP 2 0 rfl rfl (k := (lo + hi) / 2) (by omega) (by decide) dX4_narrow_84 ?_
          refine lv_lload_n hx hb dX4_narrow_85 rfl (lv_at hl 3 rfl) ?_
          refine wv_lc_ne (tgt := 99) hx hb dX4_narrow_86 dX4_narrow_87 (by decide) (fun c87 => ?_) (fun c87 => ?_)
          · skip
            refine lv_aload_n hx hb dX4_narrow_99 rfl (lv_at hl 2 rfl) ?_
            refine lv_aload_n hx hb dX4_narrow_100 rfl (lv_at hl 2 rfl) ?_
            refine va_getN (D := D) (ci := 2) (C := RX3) (T := TX3) (N := 10) hx hb hts hinX3 hown hK hP 1 rfl rfl 0 (by decide) (hN.use (w := .fieldLinkNest "NearRanks$Search" 43 "NearRanks$Row" "values" "[J" "NearRanks") (by decide +kernel) rfl) (fun _ h9 => h9) rfl dX4_narrow_101 ?_
            refine lv_iload hx hb dX4_narrow_104 (lv_at hl 0 rfl) ?_
            refine wv_lald hx hb hK hP 2 0 rfl rfl (k := (lo + hi) / 2) (by omega) (by decide) dX4_narrow_106 ?_
            refine lv_lload_n hx hb dX4_narrow_107 rfl (lv_at hl 3 rfl) ?_
            refine wv_callPi (As := [.long (v ((lo + hi) / 2)), .long x]) (rest := []) ⟨hx, hb, hml, hown, hts⟩ (kX3_isAhead l D r va na ra cJ cI v nu rk n b fl me st lk cm (v ((lo + hi) / 2)) x) (cwV 2 hts gX4_narrow_X3_isAhead rfl rfl rfl (by decide +kernel) ⟨Nat.le_of_ble_eq_true rfl, Nat.le_of_ble_eq_true rfl⟩) hK hN hP hS hA [1, 2, 3, 4] [0, 1] rfl rfl 1 2 rfl rfl rfl rfl hl.1 rfl (Nat.le_of_ble_eq_true rfl) dX4_narrow_108 ⟨Nat.zero_le _, Nat.zero_le _⟩ (fun H locs hz9 hP hS => ?_)
            refine wv_ifeqB (tgt := 133) hx hb dX4_narrow_111 (by decide) (fun c111 => ?_) (fun c111 => ?_)
            · skip
              refine lv_aload_n hx hb dX4_narrow_133 rfl (lv_at hl 1 rfl) ?_
              refine lv_aload_n hx hb dX4_narrow_134 rfl (lv_at hl 1 rfl) ?_
              refine va_get (D := D) (ci := 3) (C := RX4) (T := TX4) (N := 4) hx hb hts hinX4 hown hK hP 0 rfl rfl 3 (by decide) (hts (.fieldLink RX4 26 "NearRanks$Search" "high" "I") (by decide +kernel)) (fun _ h9 => h9) rfl dX4_narrow_135 ?_
              refine lv_iload hx hb dX4_narrow_138 (lv_at hl 0 rfl) ?_
              refine lv_iload hx hb dX4_narrow_140 (lv_at hl 4 rfl) ?_
              refine lv_iadd hx hb dX4_narrow_142 ?_
              refine wv_ti (nI_add _ _) ?_
              refine lv_iconst (v := nI 1) hx hb dX4_narrow_143 (by decide) ?_
              refine lv_iadd hx hb dX4_narrow_144 ?_
              refine wv_ti (nI_add _ _) ?_
              refine va_mmin hx hb (by rw [hml]; exact hl.1.symm) hown (hts (.methodLink RX4 57 Lib.Math.min.name) (by decide +kernel)) (hts (.static Lib.Math.min.name) (by decide +kernel)) (hts (.initialized "java/lang/Math") (by decide +kernel)) (hts (.code Lib.Math.min.name Lib.Math.min.code 2 (some .int)) (by decide +kernel)) (Nat.le_of_ble_eq_true rfl) (Nat.le_of_ble_eq_true rfl) (Nat.zero_le _) (Nat.zero_le _) dX4_narrow_145 ?_
              refine wv_ti (y := nI ((lo + hi) / 2 + 2 * b + 1)) (by rw [wk_min (by omega) (by omega), Nat.min_eq_right (by omega)]) ?_
              refine va_put (D := D) (ci := 3) (v := .int (nI ((lo + hi) / 2 + 2 * b + 1))) (ty := .int) (C := RX4) (T := TX4) (N := 4) hx hb hts hinX4 tyX4 tyX4_ok nmX4 hown hK hP hD hS 0 rfl rfl 3 (by decide) (hts (.fieldLink RX4 26 "NearRanks$Search" "high" "I") (by decide +kernel)) (fun _ h9 => h9) rfl (by decide +kernel) rfl rfl (Nat.le_of_ble_eq_true rfl) dX4_narrow_148 (fun H locs hP hD hS => ?_)
              have hP : va_P D vwCl ((SrcC q (-1000) (g + 1) (nI lo) (nI ((lo + hi) / 2 + 2 * b + 1))) ++ (RowC r va na ra cJ cI v nu rk n b fl me st lk cm)) H := hP
              have hD : va_D _ ((SrcC q (-1000) (g + 1) (nI lo) (nI ((lo + hi) / 2 + 2 * b + 1))) ++ (RowC r va na ra cJ cI v nu rk n b fl me st lk cm)) := hD
              refine lv_goto (tgt := 8) hx hb dX4_narrow_151 (by decide) ?_
              exact ih8 lo ((lo + hi) / 2 + 2 * b + 1) (g + 1) (by omega) (by first | assumption | omega) (by first | assumption | omega) (by first | assumption | omega) (by first | rw [hr1, hs, srw_up hw2 c87 c111] | rw [hr1, hs, srw_dn hw2 c87 c111]) (by first | (rw [hr2, hs, srw_up hw2 c87 c111]; show g + (_ + 1) = _; omega) | (rw [hr2, hs, srw_dn hw2 c87 c111]; show g + (_ + 1) = _; omega)) (by first | rw [hr3, hs, srw_up hw2 c87 c111] | rw [hr3, hs, srw_dn hw2 c87 c111]) _ _ hP hD hS ls (lv_sub hl [1, 2, 3, 4] rfl)
            · skip
              refine lv_aload_n hx hb dX4_narrow_114 rfl (lv_at hl 1 rfl) ?_
              refine lv_aload_n hx hb dX4_narrow_115 rfl (lv_at hl 1 rfl) ?_
              refine va_get (D := D) (ci := 3) (C := RX4) (T := TX4) (N := 4) hx hb hts hinX4 hown hK hP 0 rfl rfl 2 (by decide) (hts (.fieldLink RX4 18 "NearRanks$Search" "low" "I") (by decide +kernel)) (fun _ h9 => h9) rfl dX4_narrow_116 ?_
              refine lv_iload hx hb dX4_narrow_119 (lv_at hl 0 rfl) ?_
              refine lv_iload hx hb dX4_narrow_121 (lv_at hl 4 rfl) ?_
              refine lv_isub hx hb dX4_narrow_123 ?_
              refine wv_ti (pk_sub (by omega)) ?_
              refine va_mmax hx hb (by rw [hml]; exact hl.1.symm) hown (hts (.methodLink RX4 51 Lib.Math.max.name) (by decide +kernel)) (hts (.static Lib.Math.max.name) (by decide +kernel)) (hts (.initialized "java/lang/Math") (by decide +kernel)) (hts (.code Lib.Math.max.name Lib.Math.max.code 2 (some .int)) (by decide +kernel)) (Nat.le_of_ble_eq_true rfl) (Nat.le_of_ble_eq_true rfl) (Nat.zero_le _) (Nat.zero_le _) dX4_narrow_124 ?_
              refine wv_ti (y := nI ((lo + hi) / 2 - 2 * b)) (by rw [wk_max (by omega) (by omega), Nat.max_eq_right (by omega)]) ?_
              refine va_put (D := D) (ci := 3) (v := .int (nI ((lo + hi) / 2 - 2 * b))) (ty := .int) (C := RX4) (T := TX4) (N := 4) hx hb hts hinX4 tyX4 tyX4_ok nmX4 hown hK hP hD hS 0 rfl rfl 2 (by decide) (hts (.fieldLink RX4 18 "NearRanks$Search" "low" "I") (by decide +kernel)) (fun _ h9 => h9) rfl (by decide +kernel) rfl rfl (Nat.le_of_ble_eq_true rfl) dX4_narrow_127 (fun H locs hP hD hS => ?_)
              have hP : va_P D vwCl ((SrcC q (-1000) (g + 1) (nI ((lo + hi) / 2 - 2 * b)) (nI hi)) ++ (RowC r va na ra cJ cI v nu rk n b fl me st lk cm)) H := hP
              have hD : va_D _ ((SrcC q (-1000) (g + 1) (nI ((lo + hi) / 2 - 2 * b)) (nI hi)) ++ (RowC r va na ra cJ cI v nu rk n b fl me st lk cm)) := hD
              refine lv_goto (tgt := 151) hx hb dX4_narrow_130 (by decide) ?_
              refine lv_goto (tgt := 8) hx hb dX4_narrow_151 (by decide) ?_
              exact ih8 ((lo + hi) / 2 - 2 * b) hi (g + 1) (by omega) (by first | assumption | omega) (by first | assumption | omega) (by first | assumption | omega) (by first | rw [hr1, hs, srw_up hw2 c87 c111] | rw [hr1, hs, srw_dn hw2 c87 c111]) (by first | (rw [hr2, hs, srw_up hw2 c87 c111]; show g + (_ + 1) = _; omega) | (rw [hr2, hs, srw_dn hw2 c87 c111]; show g + (_ + 1) = _; omega)) (by first | rw [hr3, hs, srw_up hw2 c87 c111] | rw [hr3, hs, srw_dn hw2 c87 c111]) _ _ hP hD hS ls (lv_sub hl [1, 2, 3, 4] rfl)
          · skip
            have hst : (srw fl v (2 * b) x (32 - g) lo hi) = (some ((lo + hi) / 2), 1, lo, hi) := by rw [hs]; exact srw_hit hw2 c87
            refine lv_aload_n hx hb dX4_narrow_90 rfl (lv_at hl 1 rfl) ?_
            refine lv_iload hx hb dX4_narrow_91 (lv_at hl 0 rfl) ?_
            refine va_put (D := D) (ci := 3) (v := .int (nI ((lo + hi) / 2))) (ty := .int) (C := RX4) (T := TX4) (N := 4) hx hb hts hinX4 tyX4 tyX4_ok nmX4 hown hK hP hD hS 0 rfl rfl 0 (by decide) (hts (.fieldLink RX4 9 "NearRanks$Search" "place" "I") (by decide +kernel)) (fun _ h9 => h9) rfl (by decide +kernel) rfl rfl (Nat.le_of_ble_eq_true rfl) dX4_narrow_93 (fun H locs hP hD hS => ?_)
            have hP : va_P D vwCl ((SrcC q (nI ((lo + hi) / 2)) (g + 1) (nI lo) (nI hi)) ++ (RowC r va na ra cJ cI v nu rk n b fl me st lk cm)) H := hP
            have hD : va_D _ ((SrcC q (nI ((lo + hi) / 2)) (g + 1) (nI lo) (nI hi)) ++ (RowC r va na ra cJ cI v nu rk n b fl me st lk cm)) := hD
            refine lv_goto (tgt := 151) hx hb dX4_narrow_96 (by decide) ?_
            refine lv_goto (tgt := 8) hx hb dX4_narrow_151 (by decide) ?_
            refine lv_aload_n hx hb dX4_narrow_8 rfl (lv_at hl 1 rfl) ?_
            refine va_get (D := D) (ci := 3) (C := RX4) (T := TX4) (N := 4) hx hb hts hinX4 hown hK hP 0 rfl rfl 1 (by decide) (hts (.fieldLink RX4 15 "NearRanks$Search" "looks" "I") (by decide +kernel)) (fun _ h9 => h9) rfl dX4_narrow_9 ?_
            refine lv_bipush (v := nI 32) hx hb dX4_narrow_12 (by decide) ?_
            refine wv_icmp_ge (tgt := 154) hx hb (by omega) (by omega) dX4_narrow_14 (by decide) (fun c14 => ?_) (fun c14 => ?_)
            · skip
              have ew0_pc1 : oI (srw fl v (2 * b) x 32 0 n).1 = nI ((lo + hi) / 2) := by rw [hr1, hst]; rfl
              have ew0_lk1 : (srw fl v (2 * b) x 32 0 n).2.1 = g + 1 := by first | (rw [hr2, hst]; done) | (rw [hr2, hst]; rfl)
              have ew0_lw : nI (srw fl v (2 * b) x 32 0 n).2.2.1 = nI lo := by rw [hr3, hst]
              have ew0_hg : nI (srw fl v (2 * b) x 32 0 n).2.2.2 = nI hi := by rw [hr3, hst]
              exact wv_vretM hx hb hr hlocks hP hD hS (by rw [ew0_hg, ew0_lw, ew0_pc1, ew0_lk1]) dX4_narrow_154
            · skip
              refine lv_aload_n hx hb dX4_narrow_17 rfl (lv_at hl 1 rfl) ?_
              refine va_get (D := D) (ci := 3) (C := RX4) (T := TX4) (N := 4) hx hb hts hinX4 hown hK hP 0 rfl rfl 0 (by decide) (hts (.fieldLink RX4 9 "NearRanks$Search" "place" "I") (by decide +kernel)) (fun _ h9 => h9) rfl dX4_narrow_18 ?_
              refine lv_sipush (v := (-1000)) hx hb dX4_narrow_21 (by decide) ?_
              refine lv_icmp_ne (tgt := 154) hx hb dX4_narrow_24 (by decide) (fun c24 => ?_) (fun c24 => by exfalso; exact nI_nn (by omega) c24)
              have ew0_pc1 : oI (srw fl v (2 * b) x 32 0 n).1 = nI ((lo + hi) / 2) := by rw [hr1, hst]; rfl
              have ew0_lk1 : (srw fl v (2 * b) x 32 0 n).2.1 = g + 1 := by first | (rw [hr2, hst]; done) | (rw [hr2, hst]; rfl)
              have ew0_lw : nI (srw fl v (2 * b) x 32 0 n).2.2.1 = nI lo := by rw [hr3, hst]
              have ew0_hg : nI (srw fl v (2 * b) x 32 0 n).2.2.2 = nI hi := by rw [hr3, hst]
              exact wv_vretM hx hb hr hlocks hP hD hS (by rw [ew0_hg, ew0_lw, ew0_pc1, ew0_lk1]) dX4_narrow_154
  exact loop8 (n - 0 + 1) 0 n 0 (by omega) (by first | assumption | omega) (by first | assumption | omega) (by first | assumption | omega) (by rfl) (by rw [Nat.zero_add]) (by rfl) _ _ hP hD hS ls (lv_sub hl [1, 2, 3, 0] rfl)

set_option maxHeartbeats 4000000 in
set_option maxRecDepth 100000 in
theorem kX4_lookOneByOne (l : Launch) (D : va_G) (q : Nat) (lk1 : Nat) (r : Nat) (va : Nat) (na : Nat) (ra : Nat) (cJ : ClassId) (cI : ClassId) (v : Nat → Int64) (nu : Nat → Int32) (rk : Nat → Int32) (n : Nat) (b : Nat) (fl : Bool) (me : Bool) (st : Int32) (lk : Int32) (cm : Int32) (lo : Nat) (hi : Nat) (x : Int64) (hn : n ≤ 32) (h1 : lo ≤ hi) (h2 : hi ≤ n) (h3 : lk1 ≤ 32) : MMv l yX4_lookOneByOne wsX4_lookOneByOne ({ frames := 1, cells := 0, slots := 0, locals := 21 } : Room) [.ref q, .ref r, .long x] D ((SrcC q (-1000) lk1 (nI lo) (nI hi)) ++ (RowC r va na ra cJ cI v nu rk n b fl me st lk cm)) [(cJ, .long), (cI, .int)] ((SrcC q (oI (fnr (eqp v x) lo (hi - lo))) (lk1 + olk (fnr (eqp v x) lo (hi - lo)) lo hi) (nI lo) (nI hi)) ++ (RowC r va na ra cJ cI v nu rk n b fl me st lk cm)) := by
  refine MMv_of (cc := cX4_lookOneByOne) (maxL := 5) (ret := none) (by decide +kernel) rfl (Nat.le_of_ble_eq_true rfl) ?_
  intro p e s m args below meth c hx hb hr hts hown hlocks hml hP hK hN hD ls hl
  have hown : s.vm.findClass RX4 = some m.cls := hown
  have hl : lv_has ls 5 [(0, .ref q), (1, .ref r), (2, .long x)] := hl
  have hS : va_S (va_A ((SrcC q (-1000) lk1 (nI lo) (nI hi)) ++ (RowC r va na ra cJ cI v nu rk n b fl me st lk cm)) s.heap.size) s.heap s.heap [] := va_S.rf
  have hA := wk_hA ((SrcC q (-1000) lk1 (nI lo) (nI hi)) ++ (RowC r va na ra cJ cI v nu rk n b fl me st lk cm)) s.heap.size
  have hD9 : True := trivial
  have hinX4 : ∀ w ∈ wsX40, w ∈ wsX4_lookOneByOne := by decide +kernel
  have hinX3 : ∀ w ∈ wsX30, w ∈ wsX4_lookOneByOne := by decide +kernel
  refine lv_aload_n hx hb dX4_lookOneByOne_0 rfl (lv_at hl 0 rfl) ?_
  refine va_get (D := D) (ci := 3) (C := RX4) (T := TX4) (N := 4) hx hb hts hinX4 hown hK hP 0 rfl rfl 2 (by decide) (hts (.fieldLink RX4 18 "NearRanks$Search" "low" "I") (by decide +kernel)) (fun _ h9 => h9) rfl dX4_lookOneByOne_1 ?_
  refine lv_istore (lv' := [(4, .int (nI lo)), (0, .ref q), (1, .ref r), (2, .long x)]) hx hb dX4_lookOneByOne_4 hl (by decide) rfl (fun ls hl => ?_)
  have el_w0_lk1 : lk1 + (lo - lo) = lk1 := by omega
  have loop6 : ∀ (K : Nat) (j : Nat), hi - j < K → lo ≤ j → j ≤ hi → (fnr (eqp v x) lo (hi - lo)) = fnr (eqp v x) j (hi - j) → ∀ (H : Heap) (locs : List Loc), va_P D vwCl ((SrcC q (-1000) (lk1 + (j - lo)) (nI lo) (nI hi)) ++ (RowC r va na ra cJ cI v nu rk n b fl me st lk cm)) H → va_D (va_A ((SrcC q (-1000) lk1 (nI lo) (nI hi)) ++ (RowC r va na ra cJ cI v nu rk n b fl me st lk cm)) s.heap.size) ((SrcC q (-1000) (lk1 + (j - lo)) (nI lo) (nI hi)) ++ (RowC r va na ra cJ cI v nu rk n b fl me st lk cm)) → va_S (va_A ((SrcC q (-1000) lk1 (nI lo) (nI hi)) ++ (RowC r va na ra cJ cI v nu rk n b fl me st lk cm)) s.heap.size) s.heap H locs → ∀ ls : Array Slot, lv_has ls 5 [(0, .ref q), (1, .ref r), (2, .long x), (4, .int (nI j))] → W p l e ({ frames := 1, cells := 0, slots := 0, locals := 21 } : Room) s m args below meth c H locs 0 0 (ZMv below args s D ((SrcC q (-1000) lk1 (nI lo) (nI hi)) ++ (RowC r va na ra cJ cI v nu rk n b fl me st lk cm)) ((SrcC q (oI (fnr (eqp v x) lo (hi - lo))) (lk1 + olk (fnr (eqp v x) lo (hi - lo)) lo hi) (nI lo) (nI hi)) ++ (RowC r va na ra cJ cI v nu rk n b fl me st lk cm))) (F0 m 6 ls []) := by
    intro K
    induction K with
    | zero => intro j hK0; exact absurd hK0 (Nat.not_lt_zero _)
    | succ K ih6 =>
      intro j hKm hj hj2 hf H locs hP hD hS ls hl
      refine lv_iload hx hb dX4_lookOneByOne_6 (lv_at hl 3 rfl) ?_
      refine lv_aload_n hx hb dX4_lookOneByOne_8 rfl (lv_at hl 0 rfl) ?_
      refine va_get (D := D) (ci := 3) (C := RX4) (T := TX4) (N := 4) hx hb hts hinX4 hown hK hP 0 rfl rfl 3 (by decide) (hts (.fieldLink RX4 26 "NearRanks$Search" "high" "I") (by decide +kernel)) (fun _ h9 => h9) rfl dX4_lookOneByOne_9 ?_
      refine wv_icmp_ge (tgt := 59) hx hb (by omega) (by omega) dX4_lookOneByOne_12 (by decide) (fun c12 => ?_) (fun c12 => ?_)
      · skip
        have hst : (fnr (eqp v x) lo (hi - lo)) = none := by rw [hf, show hi - j = 0 by omega]; rfl
        have ew0_pc1 : oI (fnr (eqp v x) lo (hi - lo)) = (-1000) := by rw [hst]; rfl
        have ew0_lk1 : lk1 + olk (fnr (eqp v x) lo (hi - lo)) lo hi = lk1 + (j - lo) := by rw [hst]; show lk1 + _ = _; unfold olk; dsimp only; omega
        exact wv_vretM hx hb hr hlocks hP hD hS (by rw [ew0_lk1, ew0_pc1]) dX4_lookOneByOne_59
      · skip
        have hs : hi - j = (hi - (j + 1)) + 1 := by omega
        refine lv_aload_n hx hb dX4_lookOneByOne_15 rfl (lv_at hl 1 rfl) ?_
        refine lv_iload hx hb dX4_lookOneByOne_16 (lv_at hl 3 rfl) ?_
        refine wv_callPi (As := [.int (nI j)]) (rest := []) ⟨hx, hb, hml, hown, hts⟩ (kX3_isPlace l D r va na ra cJ cI v nu rk n b fl me st lk cm (nI j)) (cwV 1 hts gX4_lookOneByOne_X3_isPlace rfl rfl rfl (by decide +kernel) ⟨Nat.le_of_ble_eq_true rfl, Nat.le_of_ble_eq_true rfl⟩) hK hN hP hS hA [1, 2, 3, 4] [0, 1] rfl rfl 1 2 rfl rfl rfl rfl hl.1 rfl (Nat.le_of_ble_eq_true rfl) dX4_lookOneByOne_18 ⟨Nat.zero_le _, Nat.zero_le _⟩ (fun H locs hz9 hP hS => ?_)
        refine wv_ti (y := bI true) (by rw [inR_t (by omega) (by omega)]) ?_
        refine wv_ifeqB (tgt := 59) hx hb dX4_lookOneByOne_21 (by decide) (fun h => by cases h) (fun _ => ?_)
        refine lv_aload_n hx hb dX4_lookOneByOne_24 rfl (lv_at hl 0 rfl) ?_
        refine lv_dup hx hb dX4_lookOneByOne_25 rfl ?_
        refine va_get (D := D) (ci := 3) (C := RX4) (T := TX4) (N := 4) hx hb hts hinX4 hown hK hP 0 rfl rfl 1 (by decide) (hts (.fieldLink RX4 15 "NearRanks$Search" "looks" "I") (by decide +kernel)) (fun _ h9 => h9) rfl dX4_lookOneByOne_26 ?_
        refine lv_iconst (v := nI 1) hx hb dX4_lookOneByOne_29 (by decide) ?_
        refine lv_iadd hx hb dX4_lookOneByOne_30 ?_
        refine wv_ti (nI_add _ _) ?_
        refine va_put (D := D) (ci := 3) (v := .int (nI ((lk1 + (j - lo)) + 1))) (ty := .int) (C := RX4) (T := TX4) (N := 4) hx hb hts hinX4 tyX4 tyX4_ok nmX4 hown hK hP hD hS 0 rfl rfl 1 (by decide) (hts (.fieldLink RX4 15 "NearRanks$Search" "looks" "I") (by decide +kernel)) (fun _ h9 => h9) rfl (by decide +kernel) rfl rfl (Nat.le_of_ble_eq_true rfl) dX4_lookOneByOne_31 (fun H locs hP hD hS => ?_)
        have hP : va_P D vwCl ((SrcC q (-1000) ((lk1 + (j - lo)) + 1) (nI lo) (nI hi)) ++ (RowC r va na ra cJ cI v nu rk n b fl me st lk cm)) H := hP
        have hD : va_D _ ((SrcC q (-1000) ((lk1 + (j - lo)) + 1) (nI lo) (nI hi)) ++ (RowC r va na ra cJ cI v nu rk n b fl me st lk cm)) := hD
        refine lv_aload_n hx hb dX4_lookOneByOne_34 rfl (lv_at hl 1 rfl) ?_
        refine va_getN (D := D) (ci := 2) (C := RX3) (T := TX3) (N := 10) hx hb hts hinX3 hown hK hP 1 rfl rfl 0 (by decide) (hN.use (w := .fieldLinkNest "NearRanks$Search" 43 "NearRanks$Row" "values" "[J" "NearRanks") (by decide +kernel) rfl) (fun _ h9 => h9) rfl dX4_lookOneByOne_35 ?_
        refine lv_iload hx hb dX4_lookOneByOne_38 (lv_at hl 3 rfl) ?_
        refine wv_lald hx hb hK hP 2 0 rfl rfl (k := j) (by omega) (by decide) dX4_lookOneByOne_40 ?_
        refine lv_lload_n hx hb dX4_lookOneByOne_41 rfl (lv_at hl 2 rfl) ?_
        refine wv_lc_ne (tgt := 53) hx hb dX4_lookOneByOne_42 dX4_lookOneByOne_43 (by decide) (fun c43 => ?_) (fun c43 => ?_)
        · skip
          refine lv_iinc (v := nI (j + 1)) (lv' := [(4, .int (nI (j + 1))), (0, .ref q), (1, .ref r), (2, .long x)]) hx hb dX4_lookOneByOne_53 hl (k := 3) rfl (nI_1 _) (by decide) rfl (fun ls hl => ?_)
          refine lv_goto (tgt := 6) hx hb dX4_lookOneByOne_56 (by decide) ?_
          have el_w0_lk1 : lk1 + ((j + 1) - lo) = (lk1 + (j - lo)) + 1 := by omega
          exact ih6 (j + 1) (by omega) (by first | assumption | omega) (by first | assumption | omega) (by rw [hf, hs, fnr_s, if_neg (by unfold eqp; rw [decide_eq_false c43]; decide)]) _ _ (by first | (rw [el_w0_lk1]; exact hP) | (simp only [el_w0_lk1]; exact hP) | exact hP) (by first | (rw [el_w0_lk1]; exact hD) | (simp only [el_w0_lk1]; exact hD) | exact hD) hS ls (by first | (rw [el_w0_lk1]; exact lv_sub hl [1, 2, 3, 0] rfl) | (simp only [el_w0_lk1]; exact lv_sub hl [1, 2, 3, 0] rfl) | exact lv_sub hl [1, 2, 3, 0] rfl)
        · skip
          have hst : (fnr (eqp v x) lo (hi - lo)) = some j := by rw [hf, hs, fnr_s, if_pos (by unfold eqp; exact decide_eq_true c43)]
          refine lv_aload_n hx hb dX4_lookOneByOne_46 rfl (lv_at hl 0 rfl) ?_
          refine lv_iload hx hb dX4_lookOneByOne_47 (lv_at hl 3 rfl) ?_
          refine va_put (D := D) (ci := 3) (v := .int (nI j)) (ty := .int) (C := RX4) (T := TX4) (N := 4) hx hb hts hinX4 tyX4 tyX4_ok nmX4 hown hK hP hD hS 0 rfl rfl 0 (by decide) (hts (.fieldLink RX4 9 "NearRanks$Search" "place" "I") (by decide +kernel)) (fun _ h9 => h9) rfl (by decide +kernel) rfl rfl (Nat.le_of_ble_eq_true rfl) dX4_lookOneByOne_49 (fun H locs hP hD hS => ?_)
          have hP : va_P D vwCl ((SrcC q (nI j) ((lk1 + (j - lo)) + 1) (nI lo) (nI hi)) ++ (RowC r va na ra cJ cI v nu rk n b fl me st lk cm)) H := hP
          have hD : va_D _ ((SrcC q (nI j) ((lk1 + (j - lo)) + 1) (nI lo) (nI hi)) ++ (RowC r va na ra cJ cI v nu rk n b fl me st lk cm)) := hD
          have ew0_pc1 : oI (fnr (eqp v x) lo (hi - lo)) = nI j := by rw [hst]; rfl
          have ew0_lk1 : lk1 + olk (fnr (eqp v x) lo (hi - lo)) lo hi = (lk1 + (j - lo)) + 1 := by rw [hst]; show lk1 + _ = _; unfold olk; dsimp only; omega
          exact wv_vretM hx hb hr hlocks hP hD hS (by rw [ew0_lk1, ew0_pc1]) dX4_lookOneByOne_52
  exact loop6 (hi - lo + 1) lo (by omega) (by first | assumption | omega) (by first | assumption | omega) (by rfl) _ _ (by first | (rw [el_w0_lk1]; exact hP) | (simp only [el_w0_lk1]; exact hP) | exact hP) (by first | (rw [el_w0_lk1]; exact hD) | (simp only [el_w0_lk1]; exact hD) | exact hD) hS ls (by first | (rw [el_w0_lk1]; exact lv_sub hl [1, 2, 3, 0] rfl) | (simp only [el_w0_lk1]; exact lv_sub hl [1, 2, 3, 0] rfl) | exact lv_sub hl [1, 2, 3, 0] rfl)

set_option maxHeartbeats 4000000 in
set_option maxRecDepth 100000 in
theorem kX4_lookFor (l : Launch) (D : va_G) (q : Nat) (pc1 : Int32) (lk1 : Nat) (lw : Int32) (hg : Int32) (r : Nat) (va : Nat) (na : Nat) (ra : Nat) (cJ : ClassId) (cI : ClassId) (v : Nat → Int64) (nu : Nat → Int32) (rk : Nat → Int32) (n : Nat) (b : Nat) (fl : Bool) (me : Bool) (st : Int32) (lk : Int32) (cm : Int32) (x : Int64) (hn : n ≤ 32) (hb : b ≤ 31) : MMv l yX4_lookFor wsX4_lookFor ({ frames := 2, cells := 0, slots := 0, locals := 49 } : Room) [.ref q, .ref r, .long x] D ((SrcC q pc1 lk1 lw hg) ++ (RowC r va na ra cJ cI v nu rk n b fl me st lk cm)) [(cJ, .long), (cI, .int)] ((SrcC q (oI (sr1 fl v n b x)) (sr2 fl v n b x) (sr3 fl v n b x) (sr4 fl v n b x)) ++ (RowC r va na ra cJ cI v nu rk n b fl me st lk cm)) := by
  refine MMv_of (cc := cX4_lookFor) (maxL := 4) (ret := none) (by decide +kernel) rfl (Nat.le_of_ble_eq_true rfl) ?_
  intro p e s m args below meth c hx hb hr hts hown hlocks hml hP hK hN hD ls hl
  have hown : s.vm.findClass RX4 = some m.cls := hown
  have hl : lv_has ls 4 [(0, .ref q), (1, .ref r), (2, .long x)] := hl
  have hS : va_S (va_A ((SrcC q pc1 lk1 lw hg) ++ (RowC r va na ra cJ cI v nu rk n b fl me st lk cm)) s.heap.size) s.heap s.heap [] := va_S.rf
  have hA := wk_hA ((SrcC q pc1 lk1 lw hg) ++ (RowC r va na ra cJ cI v nu rk n b fl me st lk cm)) s.heap.size
  have hD9 : True := trivial
  have hinX4 : ∀ w ∈ wsX40, w ∈ wsX4_lookFor := by decide +kernel
  have hinX3 : ∀ w ∈ wsX30, w ∈ wsX4_lookFor := by decide +kernel
  refine lv_aload_n hx hb dX4_lookFor_0 rfl (lv_at hl 0 rfl) ?_
  refine lv_sipush (v := (-1000)) hx hb dX4_lookFor_1 (by decide) ?_
  refine va_put (D := D) (ci := 3) (v := .int (-1000)) (ty := .int) (C := RX4) (T := TX4) (N := 4) hx hb hts hinX4 tyX4 tyX4_ok nmX4 hown hK hP hD hS 0 rfl rfl 0 (by decide) (hts (.fieldLink RX4 9 "NearRanks$Search" "place" "I") (by decide +kernel)) (fun _ h9 => h9) rfl (by decide +kernel) rfl rfl (Nat.le_of_ble_eq_true rfl) dX4_lookFor_4 (fun H locs hP hD hS => ?_)
  have hP : va_P D vwCl ((SrcC q (-1000) lk1 lw hg) ++ (RowC r va na ra cJ cI v nu rk n b fl me st lk cm)) H := hP
  have hD : va_D _ ((SrcC q (-1000) lk1 lw hg) ++ (RowC r va na ra cJ cI v nu rk n b fl me st lk cm)) := hD
  refine lv_aload_n hx hb dX4_lookFor_7 rfl (lv_at hl 0 rfl) ?_
  refine lv_iconst (v := nI 0) hx hb dX4_lookFor_8 (by decide) ?_
  refine va_put (D := D) (ci := 3) (v := .int (nI 0)) (ty := .int) (C := RX4) (T := TX4) (N := 4) hx hb hts hinX4 tyX4 tyX4_ok nmX4 hown hK hP hD hS 0 rfl rfl 1 (by decide) (hts (.fieldLink RX4 15 "NearRanks$Search" "looks" "I") (by decide +kernel)) (fun _ h9 => h9) rfl (by decide +kernel) rfl rfl (Nat.le_of_ble_eq_true rfl) dX4_lookFor_9 (fun H locs hP hD hS => ?_)
  have hP : va_P D vwCl ((SrcC q (-1000) 0 lw hg) ++ (RowC r va na ra cJ cI v nu rk n b fl me st lk cm)) H := hP
  have hD : va_D _ ((SrcC q (-1000) 0 lw hg) ++ (RowC r va na ra cJ cI v nu rk n b fl me st lk cm)) := hD
  refine lv_aload_n hx hb dX4_lookFor_12 rfl (lv_at hl 0 rfl) ?_
  refine lv_iconst (v := nI 0) hx hb dX4_lookFor_13 (by decide) ?_
  refine va_put (D := D) (ci := 3) (v := .int (nI 0)) (ty := .int) (C := RX4) (T := TX4) (N := 4) hx hb hts hinX4 tyX4 tyX4_ok nmX4 hown hK hP hD hS 0 rfl rfl 2 (by decide) (hts (.fieldLink RX4 18 "NearRanks$Search" "low" "I") (by decide +kernel)) (fun _ h9 => h9) rfl (by decide +kernel) rfl rfl (Nat.le_of_ble_eq_true rfl) dX4_lookFor_14 (fun H locs hP hD hS => ?_)
  have hP : va_P D vwCl ((SrcC q (-1000) 0 (nI 0) hg) ++ (RowC r va na ra cJ cI v nu rk n b fl me st lk cm)) H := hP
  have hD : va_D _ ((SrcC q (-1000) 0 (nI 0) hg) ++ (RowC r va na ra cJ cI v nu rk n b fl me st lk cm)) := hD
  refine lv_aload_n hx hb dX4_lookFor_17 rfl (lv_at hl 0 rfl) ?_
  refine lv_aload_n hx hb dX4_lookFor_18 rfl (lv_at hl 1 rfl) ?_
  refine va_getN (D := D) (ci := 2) (C := RX3) (T := TX3) (N := 10) hx hb hts hinX3 hown hK hP 1 rfl rfl 3 (by decide) (hN.use (w := .fieldLinkNest "NearRanks$Search" 21 "NearRanks$Row" "size" "I" "NearRanks") (by decide +kernel) rfl) (fun _ h9 => h9) rfl dX4_lookFor_19 ?_
  refine va_put (D := D) (ci := 3) (v := .int (nI n)) (ty := .int) (C := RX4) (T := TX4) (N := 4) hx hb hts hinX4 tyX4 tyX4_ok nmX4 hown hK hP hD hS 0 rfl rfl 3 (by decide) (hts (.fieldLink RX4 26 "NearRanks$Search" "high" "I") (by decide +kernel)) (fun _ h9 => h9) rfl (by decide +kernel) rfl rfl (Nat.le_of_ble_eq_true rfl) dX4_lookFor_22 (fun H locs hP hD hS => ?_)
  have hP : va_P D vwCl ((SrcC q (-1000) 0 (nI 0) (nI n)) ++ (RowC r va na ra cJ cI v nu rk n b fl me st lk cm)) H := hP
  have hD : va_D _ ((SrcC q (-1000) 0 (nI 0) (nI n)) ++ (RowC r va na ra cJ cI v nu rk n b fl me st lk cm)) := hD
  refine lv_aload_n hx hb dX4_lookFor_25 rfl (lv_at hl 0 rfl) ?_
  refine lv_aload_n hx hb dX4_lookFor_26 rfl (lv_at hl 1 rfl) ?_
  refine lv_lload_n hx hb dX4_lookFor_27 rfl (lv_at hl 2 rfl) ?_
  refine wv_callMv (As := [.ref r, .long x]) (rest := []) (wr := []) (ws1 := (SrcC q (oI (srw fl v (2 * b) x 32 0 n).1) ((srw fl v (2 * b) x 32 0 n).2.1) (nI (srw fl v (2 * b) x 32 0 n).2.2.1) (nI (srw fl v (2 * b) x 32 0 n).2.2.2)) ++ (RowC r va na ra cJ cI v nu rk n b fl me st lk cm)) ⟨hx, hb, hml, hown, hts⟩ (kX4_narrow l D q r va na ra cJ cI v nu rk n b fl me st lk cm x (by first | assumption | omega) (by first | assumption | omega)) (cwV 2 hts gX4_lookFor_X4_narrow rfl rfl rfl (by decide +kernel) ⟨Nat.le_of_ble_eq_true rfl, Nat.le_of_ble_eq_true rfl⟩) hK hN hP hD hS hA [0, 1, 2, 3, 4] [] [0, 1] [0, 1, 2, 3, 4] rfl rfl (by decide) rfl (by decide) (by decide) rfl (by decide) rfl 0 3 rfl rfl rfl rfl hl.1 rfl (Nat.le_of_ble_eq_true rfl) dX4_lookFor_28 ⟨Nat.zero_le _, Nat.zero_le _⟩ (fun H locs hz9 hP hD hS => ?_)
  rcases hrr : (srw fl v (2 * b) x 32 0 n).1 with _ | m1
  · skip
    have hr1 : (srR fl v n b x).1 = none := hrr
    obtain ⟨k1, k2, k3, -⟩ := srR_bd fl v (n := n) b x
    unfold srR at k1 k2 k3
    rw [hrr] at hP hD
    have hP : va_P D vwCl ((SrcC q (-1000) ((srw fl v (2 * b) x 32 0 n).2.1) (nI (srw fl v (2 * b) x 32 0 n).2.2.1) (nI (srw fl v (2 * b) x 32 0 n).2.2.2)) ++ (RowC r va na ra cJ cI v nu rk n b fl me st lk cm)) _ := hP
    have hD : va_D _ ((SrcC q (-1000) ((srw fl v (2 * b) x 32 0 n).2.1) (nI (srw fl v (2 * b) x 32 0 n).2.2.1) (nI (srw fl v (2 * b) x 32 0 n).2.2.2)) ++ (RowC r va na ra cJ cI v nu rk n b fl me st lk cm)) := hD
    refine lv_aload_n hx hb dX4_lookFor_31 rfl (lv_at hl 0 rfl) ?_
    refine va_get (D := D) (ci := 3) (C := RX4) (T := TX4) (N := 4) hx hb hts hinX4 hown hK hP 0 rfl rfl 0 (by decide) (hts (.fieldLink RX4 9 "NearRanks$Search" "place" "I") (by decide +kernel)) (fun _ h9 => h9) rfl dX4_lookFor_32 ?_
    refine lv_sipush (v := (-1000)) hx hb dX4_lookFor_35 (by decide) ?_
    refine lv_icmp_ne (tgt := 50) hx hb dX4_lookFor_38 (by decide) (fun c38 => by exfalso; exact c38 rfl) (fun c38 => ?_)
    refine lv_aload_n hx hb dX4_lookFor_41 rfl (lv_at hl 0 rfl) ?_
    refine lv_aload_n hx hb dX4_lookFor_42 rfl (lv_at hl 1 rfl) ?_
    refine lv_lload_n hx hb dX4_lookFor_43 rfl (lv_at hl 2 rfl) ?_
    refine wv_callMv (As := [.ref r, .long x]) (rest := []) (wr := []) (ws1 := (SrcC q (oI (fnr (eqp v x) ((srw fl v (2 * b) x 32 0 n).2.2.1) (((srw fl v (2 * b) x 32 0 n).2.2.2) - ((srw fl v (2 * b) x 32 0 n).2.2.1)))) (((srw fl v (2 * b) x 32 0 n).2.1) + olk (fnr (eqp v x) ((srw fl v (2 * b) x 32 0 n).2.2.1) (((srw fl v (2 * b) x 32 0 n).2.2.2) - ((srw fl v (2 * b) x 32 0 n).2.2.1))) ((srw fl v (2 * b) x 32 0 n).2.2.1) ((srw fl v (2 * b) x 32 0 n).2.2.2)) (nI (srw fl v (2 * b) x 32 0 n).2.2.1) (nI (srw fl v (2 * b) x 32 0 n).2.2.2)) ++ (RowC r va na ra cJ cI v nu rk n b fl me st lk cm)) ⟨hx, hb, hml, hown, hts⟩ (kX4_lookOneByOne l D q ((srw fl v (2 * b) x 32 0 n).2.1) r va na ra cJ cI v nu rk n b fl me st lk cm ((srw fl v (2 * b) x 32 0 n).2.2.1) ((srw fl v (2 * b) x 32 0 n).2.2.2) x (by first | assumption | omega) (by first | assumption | omega) (by first | assumption | omega) (by first | assumption | omega)) (cwV 2 hts gX4_lookFor_X4_lookOneByOne rfl rfl rfl (by decide +kernel) ⟨Nat.le_of_ble_eq_true rfl, Nat.le_of_ble_eq_true rfl⟩) hK hN hP hD hS hA [0, 1, 2, 3, 4] [] [0, 1] [0, 1, 2, 3, 4] rfl rfl (by decide) rfl (by decide) (by decide) rfl (by decide) rfl 0 3 rfl rfl rfl rfl hl.1 rfl (Nat.le_of_ble_eq_true rfl) dX4_lookFor_44 ⟨Nat.zero_le _, Nat.zero_le _⟩ (fun H locs hz9 hP hD hS => ?_)
    refine lv_goto (tgt := 64) hx hb dX4_lookFor_47 (by decide) ?_
    have ew0_pc1 : oI (sr1 fl v n b x) = oI (fnr (eqp v x) ((srw fl v (2 * b) x 32 0 n).2.2.1) (((srw fl v (2 * b) x 32 0 n).2.2.2) - ((srw fl v (2 * b) x 32 0 n).2.2.1))) := by rw [sr1_n hr1]; rfl
    have ew0_lk1 : sr2 fl v n b x = ((srw fl v (2 * b) x 32 0 n).2.1) + olk (fnr (eqp v x) ((srw fl v (2 * b) x 32 0 n).2.2.1) (((srw fl v (2 * b) x 32 0 n).2.2.2) - ((srw fl v (2 * b) x 32 0 n).2.2.1))) ((srw fl v (2 * b) x 32 0 n).2.2.1) ((srw fl v (2 * b) x 32 0 n).2.2.2) := by rw [sr2_n hr1]; rfl
    have ew0_lw : sr3 fl v n b x = nI (srw fl v (2 * b) x 32 0 n).2.2.1 := by rw [sr3_n hr1]; rfl
    have ew0_hg : sr4 fl v n b x = nI (srw fl v (2 * b) x 32 0 n).2.2.2 := by rw [sr4_n hr1]; rfl
    exact wv_vretM hx hb hr hlocks hP hD hS (by rw [ew0_pc1, ew0_hg, ew0_lk1, ew0_lw]) dX4_lookFor_64
  · skip
    have hr1 : (srR fl v n b x).1 = some m1 := hrr
    have hm1 := (srR_bd fl v (n := n) b x).2.2.2 m1 hrr
    rw [hrr] at hP hD
    have hP : va_P D vwCl ((SrcC q (nI m1) ((srw fl v (2 * b) x 32 0 n).2.1) (nI (srw fl v (2 * b) x 32 0 n).2.2.1) (nI (srw fl v (2 * b) x 32 0 n).2.2.2)) ++ (RowC r va na ra cJ cI v nu rk n b fl me st lk cm)) _ := hP
    have hD : va_D _ ((SrcC q (nI m1) ((srw fl v (2 * b) x 32 0 n).2.1) (nI (srw fl v (2 * b) x 32 0 n).2.2.1) (nI (srw fl v (2 * b) x 32 0 n).2.2.2)) ++ (RowC r va na ra cJ cI v nu rk n b fl me st lk cm)) := hD
    refine lv_aload_n hx hb dX4_lookFor_31 rfl (lv_at hl 0 rfl) ?_
    refine va_get (D := D) (ci := 3) (C := RX4) (T := TX4) (N := 4) hx hb hts hinX4 hown hK hP 0 rfl rfl 0 (by decide) (hts (.fieldLink RX4 9 "NearRanks$Search" "place" "I") (by decide +kernel)) (fun _ h9 => h9) rfl dX4_lookFor_32 ?_
    refine lv_sipush (v := (-1000)) hx hb dX4_lookFor_35 (by decide) ?_
    refine lv_icmp_ne (tgt := 50) hx hb dX4_lookFor_38 (by decide) (fun c38 => ?_) (fun c38 => by exfalso; exact nI_nn (by omega) c38)
    refine lv_aload_n hx hb dX4_lookFor_50 rfl (lv_at hl 0 rfl) ?_
    refine lv_sipush (v := (-1000)) hx hb dX4_lookFor_51 (by decide) ?_
    refine va_put (D := D) (ci := 3) (v := .int (-1000)) (ty := .int) (C := RX4) (T := TX4) (N := 4) hx hb hts hinX4 tyX4 tyX4_ok nmX4 hown hK hP hD hS 0 rfl rfl 2 (by decide) (hts (.fieldLink RX4 18 "NearRanks$Search" "low" "I") (by decide +kernel)) (fun _ h9 => h9) rfl (by decide +kernel) rfl rfl (Nat.le_of_ble_eq_true rfl) dX4_lookFor_54 (fun H locs hP hD hS => ?_)
    have hP : va_P D vwCl ((SrcC q (nI m1) ((srw fl v (2 * b) x 32 0 n).2.1) (-1000) (nI (srw fl v (2 * b) x 32 0 n).2.2.2)) ++ (RowC r va na ra cJ cI v nu rk n b fl me st lk cm)) H := hP
    have hD : va_D _ ((SrcC q (nI m1) ((srw fl v (2 * b) x 32 0 n).2.1) (-1000) (nI (srw fl v (2 * b) x 32 0 n).2.2.2)) ++ (RowC r va na ra cJ cI v nu rk n b fl me st lk cm)) := hD
    refine lv_aload_n hx hb dX4_lookFor_57 rfl (lv_at hl 0 rfl) ?_
    refine lv_sipush (v := (-1000)) hx hb dX4_lookFor_58 (by decide) ?_
    refine va_put (D := D) (ci := 3) (v := .int (-1000)) (ty := .int) (C := RX4) (T := TX4) (N := 4) hx hb hts hinX4 tyX4 tyX4_ok nmX4 hown hK hP hD hS 0 rfl rfl 3 (by decide) (hts (.fieldLink RX4 26 "NearRanks$Search" "high" "I") (by decide +kernel)) (fun _ h9 => h9) rfl (by decide +kernel) rfl rfl (Nat.le_of_ble_eq_true rfl) dX4_lookFor_61 (fun H locs hP hD hS => ?_)
    have hP : va_P D vwCl ((SrcC q (nI m1) ((srw fl v (2 * b) x 32 0 n).2.1) (-1000) (-1000)) ++ (RowC r va na ra cJ cI v nu rk n b fl me st lk cm)) H := hP
    have hD : va_D _ ((SrcC q (nI m1) ((srw fl v (2 * b) x 32 0 n).2.1) (-1000) (-1000)) ++ (RowC r va na ra cJ cI v nu rk n b fl me st lk cm)) := hD
    have ew0_pc1 : oI (sr1 fl v n b x) = nI m1 := by rw [sr1_s hr1]; rfl
    have ew0_lk1 : sr2 fl v n b x = (srw fl v (2 * b) x 32 0 n).2.1 := by rw [sr2_s hr1]; rfl
    have ew0_lw : sr3 fl v n b x = (-1000) := by rw [sr3_s hr1]
    have ew0_hg : sr4 fl v n b x = (-1000) := by rw [sr4_s hr1]
    exact wv_vretM hx hb hr hlocks hP hD hS (by rw [ew0_pc1, ew0_hg, ew0_lk1, ew0_lw]) dX4_lookFor_64
