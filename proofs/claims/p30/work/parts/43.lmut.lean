/-! The law: its own methods that change its row. -/
set_option maxHeartbeats 4000000 in
set_option maxRecDepth 100000 in
theorem kL_swap (l : Launch) (D : va_G) (vv : Nat) (cJ : ClassId) (v : Nat → Int64) (nn : Nat) (cI : ClassId) (nu : Nat → Int32) (k : Nat) (hk1 : k + 1 < 32) : MMv l yL_swap wsL_swap ({ frames := 0, cells := 0, slots := 0, locals := 0 } : Room) [.ref vv, .ref nn, .int (nI k)] D ((VvC vv cJ v) ++ (NnC nn cI nu)) [(cJ, .long), (cI, .int)] ((VvC vv cJ (swa v k)) ++ (NnC nn cI (swa nu k))) := by
  refine MMv_of (cc := cL_swap) (maxL := 6) (ret := none) (by decide +kernel) rfl (Nat.le_of_ble_eq_true rfl) ?_
  intro p e s m args below meth c hx hb hr hts hown hlocks hml hP hK hN hD ls hl
  have hown : s.vm.findClass RL = some m.cls := hown
  have hl : lv_has ls 6 [(0, .ref vv), (1, .ref nn), (2, .int (nI k))] := hl
  have hS : va_S (va_A ((VvC vv cJ v) ++ (NnC nn cI nu)) s.heap.size) s.heap s.heap [] := va_S.rf
  have hA := wk_hA ((VvC vv cJ v) ++ (NnC nn cI nu)) s.heap.size
  have hD9 : True := trivial
  refine lv_aload_n hx hb dL_swap_0 rfl (lv_at hl 0 rfl) ?_
  refine lv_iload_n hx hb dL_swap_1 rfl (lv_at hl 2 rfl) ?_
  refine wv_lald hx hb hK hP 0 0 rfl rfl (k := k) (by omega) (by decide) dL_swap_2 ?_
  refine lv_lstore_n (lv' := [(3, .long (v k)), (0, .ref vv), (1, .ref nn), (2, .int (nI k))]) hx hb dL_swap_3 rfl hl (by decide) rfl (fun ls hl => ?_)
  refine lv_aload_n hx hb dL_swap_4 rfl (lv_at hl 2 rfl) ?_
  refine lv_iload_n hx hb dL_swap_5 rfl (lv_at hl 3 rfl) ?_
  refine wv_iald hx hb hK hP 1 1 rfl rfl (k := k) (by omega) (by decide) dL_swap_6 ?_
  refine lv_istore (lv' := [(5, .int (nu k)), (3, .long (v k)), (0, .ref vv), (1, .ref nn), (2, .int (nI k))]) hx hb dL_swap_7 hl (by decide) rfl (fun ls hl => ?_)
  refine lv_aload_n hx hb dL_swap_9 rfl (lv_at hl 2 rfl) ?_
  refine lv_iload_n hx hb dL_swap_10 rfl (lv_at hl 4 rfl) ?_
  refine lv_aload_n hx hb dL_swap_11 rfl (lv_at hl 2 rfl) ?_
  refine lv_iload_n hx hb dL_swap_12 rfl (lv_at hl 4 rfl) ?_
  refine lv_iconst (v := nI 1) hx hb dL_swap_13 (by decide) ?_
  refine lv_iadd hx hb dL_swap_14 ?_
  refine wv_ti (nI_add _ _) ?_
  refine wv_lald hx hb hK hP 0 0 rfl rfl (k := k + 1) (by omega) (by decide) dL_swap_15 ?_
  refine wv_last hx hb hK hP hD hS 0 0 rfl rfl (k := k) (by omega) (by decide) dL_swap_16 (fun H locs hP hD hS => ?_)
  have hP : va_P D vwCl ((VvC vv cJ (vp_updL v k (v (k + 1)))) ++ (NnC nn cI nu)) H := hP
  have hD : va_D _ ((VvC vv cJ (vp_updL v k (v (k + 1)))) ++ (NnC nn cI nu)) := hD
  refine lv_aload_n hx hb dL_swap_17 rfl (lv_at hl 3 rfl) ?_
  refine lv_iload_n hx hb dL_swap_18 rfl (lv_at hl 4 rfl) ?_
  refine lv_aload_n hx hb dL_swap_19 rfl (lv_at hl 3 rfl) ?_
  refine lv_iload_n hx hb dL_swap_20 rfl (lv_at hl 4 rfl) ?_
  refine lv_iconst (v := nI 1) hx hb dL_swap_21 (by decide) ?_
  refine lv_iadd hx hb dL_swap_22 ?_
  refine wv_ti (nI_add _ _) ?_
  refine wv_iald hx hb hK hP 1 1 rfl rfl (k := k + 1) (by omega) (by decide) dL_swap_23 ?_
  refine wv_iast hx hb hK hP hD hS 1 1 rfl rfl (k := k) (by omega) (by decide) dL_swap_24 (fun H locs hP hD hS => ?_)
  have hP : va_P D vwCl ((VvC vv cJ (vp_updL v k (v (k + 1)))) ++ (NnC nn cI (upd nu k (nu (k + 1))))) H := hP
  have hD : va_D _ ((VvC vv cJ (vp_updL v k (v (k + 1)))) ++ (NnC nn cI (upd nu k (nu (k + 1))))) := hD
  refine lv_aload_n hx hb dL_swap_25 rfl (lv_at hl 2 rfl) ?_
  refine lv_iload_n hx hb dL_swap_26 rfl (lv_at hl 4 rfl) ?_
  refine lv_iconst (v := nI 1) hx hb dL_swap_27 (by decide) ?_
  refine lv_iadd hx hb dL_swap_28 ?_
  refine wv_ti (nI_add _ _) ?_
  refine lv_lload_n hx hb dL_swap_29 rfl (lv_at hl 1 rfl) ?_
  refine wv_last hx hb hK hP hD hS 0 0 rfl rfl (k := k + 1) (by omega) (by decide) dL_swap_30 (fun H locs hP hD hS => ?_)
  have hP : va_P D vwCl ((VvC vv cJ (vp_updL (vp_updL v k (v (k + 1))) (k + 1) (v k))) ++ (NnC nn cI (upd nu k (nu (k + 1))))) H := hP
  have hD : va_D _ ((VvC vv cJ (vp_updL (vp_updL v k (v (k + 1))) (k + 1) (v k))) ++ (NnC nn cI (upd nu k (nu (k + 1))))) := hD
  refine lv_aload_n hx hb dL_swap_31 rfl (lv_at hl 3 rfl) ?_
  refine lv_iload_n hx hb dL_swap_32 rfl (lv_at hl 4 rfl) ?_
  refine lv_iconst (v := nI 1) hx hb dL_swap_33 (by decide) ?_
  refine lv_iadd hx hb dL_swap_34 ?_
  refine wv_ti (nI_add _ _) ?_
  refine lv_iload hx hb dL_swap_35 (lv_at hl 0 rfl) ?_
  refine wv_iast hx hb hK hP hD hS 1 1 rfl rfl (k := k + 1) (by omega) (by decide) dL_swap_37 (fun H locs hP hD hS => ?_)
  have hP : va_P D vwCl ((VvC vv cJ (vp_updL (vp_updL v k (v (k + 1))) (k + 1) (v k))) ++ (NnC nn cI (upd (upd nu k (nu (k + 1))) (k + 1) (nu k)))) H := hP
  have hD : va_D _ ((VvC vv cJ (vp_updL (vp_updL v k (v (k + 1))) (k + 1) (v k))) ++ (NnC nn cI (upd (upd nu k (nu (k + 1))) (k + 1) (nu k)))) := hD
  have ew0_v : swa v k = vp_updL (vp_updL v k (v (k + 1))) (k + 1) (v k) := by exact (swa_L v k).symm
  have ew1_nu : swa nu k = upd (upd nu k (nu (k + 1))) (k + 1) (nu k) := by exact (swa_I nu k).symm
  exact wv_vretM hx hb hr hlocks hP hD hS (by rw [ew1_nu, ew0_v]) dL_swap_38

set_option maxHeartbeats 4000000 in
set_option maxRecDepth 100000 in
theorem kL_step_no (l : Launch) (D : va_G) (g : Nat) (cI : ClassId) (n : Nat) (b : Nat) (fl : Bool) (me : Bool) (st : Int32) (lk : Int32) (cm : Int32) (vv : Nat) (cJ : ClassId) (v : Nat → Int64) (nn : Nat) (nu : Nat → Int32) (hn : n ≤ 32) (hb : b ≤ 31) (hw : (wpl (far fl v n) b n).2 = none) : PMi l yL_step wsL_step ({ frames := 3, cells := 0, slots := 0, locals := 71 } : Room) [.ref g, .ref vv, .ref nn] D ((GvC g cI n b fl me st lk cm) ++ (VvC vv cJ v) ++ (NnC nn cI nu)) [(cJ, .long), (cI, .int)] ((-1000)) := by
  refine PMi_of (cc := cL_step) (maxL := 7) (ret := some .int) (by decide +kernel) rfl (Nat.le_of_ble_eq_true rfl) ?_
  intro p e s m args below meth c hx hb hr hts hown hlocks hml hP hK hN ls hl
  have hown : s.vm.findClass RL = some m.cls := hown
  have hl : lv_has ls 7 [(0, .ref g), (1, .ref vv), (2, .ref nn)] := hl
  have hS : va_S (va_A [] s.heap.size) s.heap s.heap [] := va_S.rf
  have hA := wk_hA [] s.heap.size
  have hD9 : True := trivial
  refine lv_iconst (v := (-1)) hx hb dL_step_0 (by decide) ?_
  refine lv_istore_n (lv' := [(3, .int (-1)), (0, .ref g), (1, .ref vv), (2, .ref nn)]) hx hb dL_step_1 rfl hl (by decide) rfl (fun ls hl => ?_)
  refine lv_aload_n hx hb dL_step_2 rfl (lv_at hl 1 rfl) ?_
  refine lv_iconst (v := nI 1) hx hb dL_step_3 (by decide) ?_
  refine wv_iald hx hb hK hP 0 1 rfl rfl (k := 1) (by omega) (by decide) dL_step_4 ?_
  refine wv_ti (y := nI b) rfl ?_
  refine lv_istore (lv' := [(4, .int (nI b)), (3, .int (-1)), (0, .ref g), (1, .ref vv), (2, .ref nn)]) hx hb dL_step_5 hl (by decide) rfl (fun ls hl => ?_)
  refine lv_iconst (v := nI 0) hx hb dL_step_7 (by decide) ?_
  refine lv_istore (lv' := [(5, .int (nI 0)), (4, .int (nI b)), (3, .int (-1)), (0, .ref g), (1, .ref vv), (2, .ref nn)]) hx hb dL_step_8 hl (by decide) rfl (fun ls hl => ?_)
  have el_l3 : oW (wpl (far fl v n) b 0).2 = (-1) := by rfl
  have el_l4 : (wpl (far fl v n) b 0).1 = b := by rfl
  have loop10 : ∀ (K : Nat) (i : Nat), n - i < K → i ≤ n → ∀ (H : Heap) (locs : List Loc), va_P D vwCl ((GvC g cI n b fl me st lk cm) ++ (VvC vv cJ v) ++ (NnC nn cI nu)) H → va_S (va_A [] s.heap.size) s.heap H locs → ∀ ls : Array Slot, lv_has ls 7 [(0, .ref g), (1, .ref vv), (2, .ref nn), (3, .int (oW (wpl (far fl v n) b i).2)), (4, .int (nI ((wpl (far fl v n) b i).1))), (5, .int (nI i))] → W p l e ({ frames := 3, cells := 0, slots := 0, locals := 71 } : Room) s m args below meth c H locs 0 0 (ZPi below args s ((-1000))) (F0 m 10 ls []) := by
    intro K
    induction K with
    | zero => intro i hK0; exact absurd hK0 (Nat.not_lt_zero _)
    | succ K ih10 =>
      intro i hKm hi H locs hP hS ls hl
      refine lv_iload hx hb dL_step_10 (lv_at hl 5 rfl) ?_
      refine lv_aload_n hx hb dL_step_12 rfl (lv_at hl 0 rfl) ?_
      refine lv_iconst (v := nI 0) hx hb dL_step_13 (by decide) ?_
      refine wv_iald hx hb hK hP 0 1 rfl rfl (k := 0) (by omega) (by decide) dL_step_14 ?_
      refine wv_ti (y := nI n) rfl ?_
      refine wv_icmp_ge (tgt := 63) hx hb (by omega) (by omega) dL_step_15 (by decide) (fun c15 => ?_) (fun c15 => ?_)
      · skip
        have e3 : oW (wpl (far fl v n) b i).2 = (-1) := by rw [show i = n by omega, hw]; rfl
        rw [e3] at hl
        refine lv_iload_n hx hb dL_step_63 rfl (lv_at hl 3 rfl) ?_
        refine lv_if_ge (tgt := 71) hx hb dL_step_64 (by decide) (fun c64 => by exfalso; exact absurd c64 (by decide)) (fun c64 => ?_)
        refine lv_sipush (v := (-1000)) hx hb dL_step_67 (by decide) ?_
        exact wv_iretP hx hb hr hlocks hS rfl dL_step_70
      · skip
        have hfi := far_le (fl := fl) (v := v) (n := n) (k := i) (by omega)
        have hwi : (wpl (far fl v n) b i).1 ≤ 32 := wpl_le (by omega) (fun k hk => Nat.le_trans (far_le (by omega)) hn)
        refine lv_aload_n hx hb dL_step_18 rfl (lv_at hl 0 rfl) ?_
        refine lv_aload_n hx hb dL_step_19 rfl (lv_at hl 1 rfl) ?_
        refine lv_iload hx hb dL_step_20 (lv_at hl 5 rfl) ?_
        refine wv_callSi (As := [.ref g, .ref vv, .int (nI i)]) (rest := []) ⟨hx, hb, hml, hown, hts⟩ (kL_far l D g cI n b fl me st lk cm vv cJ v i (by first | assumption | omega) (by first | assumption | omega)) (va_cwS 3 hts gL_step_L_far rfl rfl rfl (by decide +kernel) ⟨Nat.le_of_ble_eq_true rfl, Nat.le_of_ble_eq_true rfl⟩) hK hN hP hS hA [0, 1] [0, 1] rfl rfl rfl hl.1 rfl (Nat.le_of_ble_eq_true rfl) dL_step_22 ⟨Nat.zero_le _, Nat.zero_le _⟩ (fun H locs hz9 hP hS => ?_)
        refine lv_istore (lv' := [(6, .int (nI (far fl v n i))), (0, .ref g), (1, .ref vv), (2, .ref nn), (3, .int (oW (wpl (far fl v n) b i).2)), (4, .int (nI ((wpl (far fl v n) b i).1))), (5, .int (nI i))]) hx hb dL_step_25 hl (by decide) rfl (fun ls hl => ?_)
        refine lv_iload hx hb dL_step_27 (lv_at hl 0 rfl) ?_
        refine lv_iload hx hb dL_step_29 (lv_at hl 5 rfl) ?_
        refine wv_icmp_le (tgt := 39) hx hb (by omega) (by omega) dL_step_31 (by decide) (fun c31 => ?_) (fun c31 => ?_)
        · skip
          refine lv_iload_n hx hb dL_step_39 rfl (lv_at hl 4 rfl) ?_
          refine lv_istore_n (lv' := [(3, .int (oW (wpl (far fl v n) b i).2)), (6, .int (nI (far fl v n i))), (0, .ref g), (1, .ref vv), (2, .ref nn), (4, .int (nI ((wpl (far fl v n) b i).1))), (5, .int (nI i))]) hx hb dL_step_40 rfl hl (by decide) rfl (fun ls hl => ?_)
          refine lv_iload hx hb dL_step_41 (lv_at hl 1 rfl) ?_
          refine lv_iload hx hb dL_step_43 (lv_at hl 5 rfl) ?_
          refine wv_icmp_le (tgt := 53) hx hb (by omega) (by omega) dL_step_45 (by decide) (fun c45 => ?_) (fun c45 => by exfalso; omega)
          refine lv_iload hx hb dL_step_53 (lv_at hl 5 rfl) ?_
          refine lv_istore (lv' := [(4, .int (nI ((wpl (far fl v n) b i).1))), (3, .int (oW (wpl (far fl v n) b i).2)), (6, .int (nI (far fl v n i))), (0, .ref g), (1, .ref vv), (2, .ref nn), (5, .int (nI i))]) hx hb dL_step_55 hl (by decide) rfl (fun ls hl => ?_)
          refine lv_iinc (v := nI (i + 1)) (lv' := [(5, .int (nI (i + 1))), (4, .int (nI ((wpl (far fl v n) b i).1))), (3, .int (oW (wpl (far fl v n) b i).2)), (6, .int (nI (far fl v n i))), (0, .ref g), (1, .ref vv), (2, .ref nn)]) hx hb dL_step_57 hl (k := 6) rfl (nI_1 _) (by decide) rfl (fun ls hl => ?_)
          refine lv_goto (tgt := 10) hx hb dL_step_60 (by decide) ?_
          have el_l3 : oW (wpl (far fl v n) b (i + 1)).2 = oW (wpl (far fl v n) b i).2 := by first | (rw [wpl_s, if_pos (by omega)]; rfl) | rw [wpl_s, if_neg (by omega)]
          have el_l4 : (wpl (far fl v n) b (i + 1)).1 = (wpl (far fl v n) b i).1 := by first | (rw [wpl_s, if_pos (by omega)]; done) | rw [wpl_s, if_neg (by omega)]
          exact ih10 (i + 1) (by omega) (by first | assumption | omega) _ _ (by first | (rw [el_l3, el_l4]; exact hP) | (simp only [el_l3, el_l4]; exact hP) | exact hP) hS ls (by first | (rw [el_l3, el_l4]; exact lv_sub hl [4, 5, 6, 2, 1, 0] rfl) | (simp only [el_l3, el_l4]; exact lv_sub hl [4, 5, 6, 2, 1, 0] rfl) | exact lv_sub hl [4, 5, 6, 2, 1, 0] rfl)
        · skip
          refine lv_iload hx hb dL_step_34 (lv_at hl 6 rfl) ?_
          refine lv_goto (tgt := 40) hx hb dL_step_36 (by decide) ?_
          refine lv_istore_n (lv' := [(3, .int (nI i)), (6, .int (nI (far fl v n i))), (0, .ref g), (1, .ref vv), (2, .ref nn), (4, .int (nI ((wpl (far fl v n) b i).1))), (5, .int (nI i))]) hx hb dL_step_40 rfl hl (by decide) rfl (fun ls hl => ?_)
          refine lv_iload hx hb dL_step_41 (lv_at hl 1 rfl) ?_
          refine lv_iload hx hb dL_step_43 (lv_at hl 5 rfl) ?_
          refine wv_icmp_le (tgt := 53) hx hb (by omega) (by omega) dL_step_45 (by decide) (fun c45 => by exfalso; omega) (fun c45 => ?_)
          refine lv_iload hx hb dL_step_48 (lv_at hl 1 rfl) ?_
          refine lv_goto (tgt := 55) hx hb dL_step_50 (by decide) ?_
          refine lv_istore (lv' := [(4, .int (nI (far fl v n i))), (3, .int (nI i)), (6, .int (nI (far fl v n i))), (0, .ref g), (1, .ref vv), (2, .ref nn), (5, .int (nI i))]) hx hb dL_step_55 hl (by decide) rfl (fun ls hl => ?_)
          refine lv_iinc (v := nI (i + 1)) (lv' := [(5, .int (nI (i + 1))), (4, .int (nI (far fl v n i))), (3, .int (nI i)), (6, .int (nI (far fl v n i))), (0, .ref g), (1, .ref vv), (2, .ref nn)]) hx hb dL_step_57 hl (k := 6) rfl (nI_1 _) (by decide) rfl (fun ls hl => ?_)
          refine lv_goto (tgt := 10) hx hb dL_step_60 (by decide) ?_
          have el_l3 : oW (wpl (far fl v n) b (i + 1)).2 = nI i := by first | (rw [wpl_s, if_pos (by omega)]; rfl) | rw [wpl_s, if_neg (by omega)]
          have el_l4 : (wpl (far fl v n) b (i + 1)).1 = far fl v n i := by first | (rw [wpl_s, if_pos (by omega)]; done) | rw [wpl_s, if_neg (by omega)]
          exact ih10 (i + 1) (by omega) (by first | assumption | omega) _ _ (by first | (rw [el_l3, el_l4]; exact hP) | (simp only [el_l3, el_l4]; exact hP) | exact hP) hS ls (by first | (rw [el_l3, el_l4]; exact lv_sub hl [4, 5, 6, 2, 1, 0] rfl) | (simp only [el_l3, el_l4]; exact lv_sub hl [4, 5, 6, 2, 1, 0] rfl) | exact lv_sub hl [4, 5, 6, 2, 1, 0] rfl)
  exact loop10 (n - 0 + 1) 0 (by omega) (by first | assumption | omega) _ _ (by first | (rw [el_l3, el_l4]; exact hP) | (simp only [el_l3, el_l4]; exact hP) | exact hP) hS ls (by first | (rw [el_l3, el_l4]; exact lv_sub hl [3, 4, 5, 2, 1, 0] rfl) | (simp only [el_l3, el_l4]; exact lv_sub hl [3, 4, 5, 2, 1, 0] rfl) | exact lv_sub hl [3, 4, 5, 2, 1, 0] rfl)

set_option maxHeartbeats 4000000 in
set_option maxRecDepth 100000 in
theorem kL_step_ok (l : Launch) (D : va_G) (g : Nat) (cI : ClassId) (n : Nat) (b : Nat) (fl : Bool) (me : Bool) (st : Int32) (lk : Int32) (cm : Int32) (vv : Nat) (cJ : ClassId) (v : Nat → Int64) (nn : Nat) (nu : Nat → Int32) (k : Nat) (q : Nat) (hn : n ≤ 32) (hb : b ≤ 31) (hw : (wpl (far fl v n) b n).2 = some k) (hq : fno fl v n k = some q) : MMi l yL_step wsL_step ({ frames := 3, cells := 0, slots := 0, locals := 71 } : Room) [.ref g, .ref vv, .ref nn] D ((GvC g cI n b fl me st lk cm) ++ (VvC vv cJ v) ++ (NnC nn cI nu)) [(cJ, .long), (cI, .int)] (nI q) ((GvC g cI n b fl me (st + (nI 1)) lk cm) ++ (VvC vv cJ (swa v q)) ++ (NnC nn cI (swa nu q))) := by
  refine MMi_of (cc := cL_step) (maxL := 7) (ret := some .int) (by decide +kernel) rfl (Nat.le_of_ble_eq_true rfl) ?_
  intro p e s m args below meth c hx hb hr hts hown hlocks hml hP hK hN hD ls hl
  have hown : s.vm.findClass RL = some m.cls := hown
  have hl : lv_has ls 7 [(0, .ref g), (1, .ref vv), (2, .ref nn)] := hl
  have hS : va_S (va_A ((GvC g cI n b fl me st lk cm) ++ (VvC vv cJ v) ++ (NnC nn cI nu)) s.heap.size) s.heap s.heap [] := va_S.rf
  have hA := wk_hA ((GvC g cI n b fl me st lk cm) ++ (VvC vv cJ v) ++ (NnC nn cI nu)) s.heap.size
  have hD9 : True := trivial
  have hk := (wpl_some hw).1
  have hq1 := fal_lt (fno_fal hq)
  refine lv_iconst (v := (-1)) hx hb dL_step_0 (by decide) ?_
  refine lv_istore_n (lv' := [(3, .int (-1)), (0, .ref g), (1, .ref vv), (2, .ref nn)]) hx hb dL_step_1 rfl hl (by decide) rfl (fun ls hl => ?_)
  refine lv_aload_n hx hb dL_step_2 rfl (lv_at hl 1 rfl) ?_
  refine lv_iconst (v := nI 1) hx hb dL_step_3 (by decide) ?_
  refine wv_iald hx hb hK hP 0 1 rfl rfl (k := 1) (by omega) (by decide) dL_step_4 ?_
  refine wv_ti (y := nI b) rfl ?_
  refine lv_istore (lv' := [(4, .int (nI b)), (3, .int (-1)), (0, .ref g), (1, .ref vv), (2, .ref nn)]) hx hb dL_step_5 hl (by decide) rfl (fun ls hl => ?_)
  refine lv_iconst (v := nI 0) hx hb dL_step_7 (by decide) ?_
  refine lv_istore (lv' := [(5, .int (nI 0)), (4, .int (nI b)), (3, .int (-1)), (0, .ref g), (1, .ref vv), (2, .ref nn)]) hx hb dL_step_8 hl (by decide) rfl (fun ls hl => ?_)
  have el_l3 : oW (wpl (far fl v n) b 0).2 = (-1) := by rfl
  have el_l4 : (wpl (far fl v n) b 0).1 = b := by rfl
  have loop10 : ∀ (K : Nat) (i : Nat), n - i < K → i ≤ n → ∀ (H : Heap) (locs : List Loc), va_P D vwCl ((GvC g cI n b fl me st lk cm) ++ (VvC vv cJ v) ++ (NnC nn cI nu)) H → va_D (va_A ((GvC g cI n b fl me st lk cm) ++ (VvC vv cJ v) ++ (NnC nn cI nu)) s.heap.size) ((GvC g cI n b fl me st lk cm) ++ (VvC vv cJ v) ++ (NnC nn cI nu)) → va_S (va_A ((GvC g cI n b fl me st lk cm) ++ (VvC vv cJ v) ++ (NnC nn cI nu)) s.heap.size) s.heap H locs → ∀ ls : Array Slot, lv_has ls 7 [(0, .ref g), (1, .ref vv), (2, .ref nn), (3, .int (oW (wpl (far fl v n) b i).2)), (4, .int (nI ((wpl (far fl v n) b i).1))), (5, .int (nI i))] → W p l e ({ frames := 3, cells := 0, slots := 0, locals := 71 } : Room) s m args below meth c H locs 0 0 (ZMi below args s D ((GvC g cI n b fl me st lk cm) ++ (VvC vv cJ v) ++ (NnC nn cI nu)) (nI q) ((GvC g cI n b fl me (st + (nI 1)) lk cm) ++ (VvC vv cJ (swa v q)) ++ (NnC nn cI (swa nu q)))) (F0 m 10 ls []) := by
    intro K
    induction K with
    | zero => intro i hK0; exact absurd hK0 (Nat.not_lt_zero _)
    | succ K ih10 =>
      intro i hKm hi H locs hP hD hS ls hl
      refine lv_iload hx hb dL_step_10 (lv_at hl 5 rfl) ?_
      refine lv_aload_n hx hb dL_step_12 rfl (lv_at hl 0 rfl) ?_
      refine lv_iconst (v := nI 0) hx hb dL_step_13 (by decide) ?_
      refine wv_iald hx hb hK hP 0 1 rfl rfl (k := 0) (by omega) (by decide) dL_step_14 ?_
      refine wv_ti (y := nI n) rfl ?_
      refine wv_icmp_ge (tgt := 63) hx hb (by omega) (by omega) dL_step_15 (by decide) (fun c15 => ?_) (fun c15 => ?_)
      · skip
        have e3 : oW (wpl (far fl v n) b i).2 = nI k := by rw [show i = n by omega, hw]; rfl
        rw [e3] at hl
        refine lv_iload_n hx hb dL_step_63 rfl (lv_at hl 3 rfl) ?_
        refine wv_if_ge hx hb (by omega) dL_step_64 (tgt := 71) (by decide) ?_
        refine lv_aload_n hx hb dL_step_71 rfl (lv_at hl 0 rfl) ?_
        refine lv_aload_n hx hb dL_step_72 rfl (lv_at hl 1 rfl) ?_
        refine lv_iload_n hx hb dL_step_73 rfl (lv_at hl 3 rfl) ?_
        refine wv_callSi (As := [.ref g, .ref vv, .int (nI k)]) (rest := []) ⟨hx, hb, hml, hown, hts⟩ (kL_off l D g cI n b fl me st lk cm vv cJ v k (by first | assumption | omega) (by first | assumption | omega)) (va_cwS 3 hts gL_step_L_off rfl rfl rfl (by decide +kernel) ⟨Nat.le_of_ble_eq_true rfl, Nat.le_of_ble_eq_true rfl⟩) hK hN hP hS hA [0, 1] [0, 1] rfl rfl rfl hl.1 rfl (Nat.le_of_ble_eq_true rfl) dL_step_74 ⟨Nat.zero_le _, Nat.zero_le _⟩ (fun H locs hz9 hP hS => ?_)
        refine lv_if_le (tgt := 84) hx hb dL_step_77 (by decide) (fun c77 => ?_) (fun c77 => ?_)
        · skip
          have c5b : ¬ rk0 fl v n k < k := fun z => absurd ((dst_pos hk hn).mpr z) (by first | exact c77 | exact Int32.not_lt.mpr c77)
          have hfr : fnr (fal fl v n) k (n - k) = some q := by rw [← hq]; exact (if_neg c5b).symm
          refine lv_iconst (v := nI 1) hx hb dL_step_84 (by decide) ?_
          refine lv_istore (lv' := [(5, .int (nI 1)), (0, .ref g), (1, .ref vv), (2, .ref nn), (3, .int (nI k)), (4, .int (nI ((wpl (far fl v n) b i).1)))]) hx hb dL_step_85 hl (by decide) rfl (fun ls hl => ?_)
          refine lv_iload hx hb dL_step_87 (lv_at hl 0 rfl) ?_
          refine lv_if_ge (tgt := 98) hx hb dL_step_89 (by decide) (fun _ => ?_) (fun h => absurd h (by decide))
          refine lv_iload_n hx hb dL_step_98 rfl (lv_at hl 4 rfl) ?_
          refine lv_istore (lv' := [(6, .int (nI k)), (5, .int (nI 1)), (0, .ref g), (1, .ref vv), (2, .ref nn), (3, .int (nI k)), (4, .int (nI ((wpl (far fl v n) b i).1)))]) hx hb dL_step_99 hl (by decide) rfl (fun ls hl => ?_)
          have loop101 : ∀ (K : Nat) (j : Nat), n - j < K → k ≤ j → j < n → fnr (fal fl v n) j (n - j) = some q → ∀ (H : Heap) (locs : List Loc), va_P D vwCl ((GvC g cI n b fl me st lk cm) ++ (VvC vv cJ v) ++ (NnC nn cI nu)) H → va_D (va_A ((GvC g cI n b fl me st lk cm) ++ (VvC vv cJ v) ++ (NnC nn cI nu)) s.heap.size) ((GvC g cI n b fl me st lk cm) ++ (VvC vv cJ v) ++ (NnC nn cI nu)) → va_S (va_A ((GvC g cI n b fl me st lk cm) ++ (VvC vv cJ v) ++ (NnC nn cI nu)) s.heap.size) s.heap H locs → ∀ ls : Array Slot, lv_has ls 7 [(0, .ref g), (1, .ref vv), (2, .ref nn), (5, .int (nI 1)), (6, .int (nI j))] → W p l e ({ frames := 3, cells := 0, slots := 0, locals := 71 } : Room) s m args below meth c H locs 0 0 (ZMi below args s D ((GvC g cI n b fl me st lk cm) ++ (VvC vv cJ v) ++ (NnC nn cI nu)) (nI q) ((GvC g cI n b fl me (st + (nI 1)) lk cm) ++ (VvC vv cJ (swa v q)) ++ (NnC nn cI (swa nu q)))) (F0 m 101 ls []) := by
            intro K
            induction K with
            | zero => intro j hK0; exact absurd hK0 (Nat.not_lt_zero _)
            | succ K ih101 =>
              intro j hKm hj hj2 hf H locs hP hD hS ls hl
              refine lv_aload_n hx hb dL_step_101 rfl (lv_at hl 0 rfl) ?_
              refine lv_aload_n hx hb dL_step_102 rfl (lv_at hl 1 rfl) ?_
              refine lv_iload hx hb dL_step_103 (lv_at hl 4 rfl) ?_
              refine wv_callSi (As := [.ref g, .ref vv, .int (nI j)]) (rest := []) ⟨hx, hb, hml, hown, hts⟩ (kL_fall l D g cI n b fl me st lk cm vv cJ v j (by first | assumption | omega) (by first | assumption | omega)) (va_cwS 3 hts gL_step_L_fall rfl rfl rfl (by decide +kernel) ⟨Nat.le_of_ble_eq_true rfl, Nat.le_of_ble_eq_true rfl⟩) hK hN hP hS hA [0, 1] [0, 1] rfl rfl rfl hl.1 rfl (Nat.le_of_ble_eq_true rfl) dL_step_105 ⟨Nat.zero_le _, Nat.zero_le _⟩ (fun H locs hz9 hP hS => ?_)
              refine wv_ifneB (tgt := 133) hx hb dL_step_108 (by decide) (fun c108 => ?_) (fun c108 => ?_)
              · skip
                have ejq : j = q := by rw [show n - j = (n - j - 1) + 1 by omega, fnr_s, if_pos c108] at hf; exact Option.some.inj hf
                rw [ejq] at hl
                refine lv_iload hx hb dL_step_133 (lv_at hl 4 rfl) ?_
                refine wv_if_lt hx hb (by omega) dL_step_135 (tgt := 152) (by decide) ?_
                refine lv_iload hx hb dL_step_138 (lv_at hl 4 rfl) ?_
                refine lv_bipush (v := nI 31) hx hb dL_step_140 (by decide) ?_
                refine wv_icmp_ge (tgt := 152) hx hb (by omega) (by omega) dL_step_142 (by decide) (fun c142 => by exfalso; omega) (fun c142 => ?_)
                refine lv_aload_n hx hb dL_step_145 rfl (lv_at hl 1 rfl) ?_
                refine lv_aload_n hx hb dL_step_146 rfl (lv_at hl 2 rfl) ?_
                refine lv_iload hx hb dL_step_147 (lv_at hl 4 rfl) ?_
                refine wv_callSMv (As := [.ref vv, .ref nn, .int (nI q)]) (rest := []) (wr := GvC g cI n b fl me st lk cm) (ws1 := (GvC g cI n b fl me st lk cm) ++ (VvC vv cJ (swa v q)) ++ (NnC nn cI (swa nu q))) ⟨hx, hb, hml, hown, hts⟩ (kL_swap l D vv cJ v nn cI nu q (by first | assumption | omega)) (va_cwS 3 hts gL_step_L_swap rfl rfl rfl (by decide +kernel) ⟨Nat.le_of_ble_eq_true rfl, Nat.le_of_ble_eq_true rfl⟩) hK hN hP hD hS hA [1, 2] [0] [0, 1] [0, 1, 2] rfl rfl (by decide) rfl (by decide) (by decide) rfl (by decide) rfl rfl hl.1 rfl (Nat.le_of_ble_eq_true rfl) dL_step_149 ⟨Nat.zero_le _, Nat.zero_le _⟩ (fun H locs hz9 hP hD hS => ?_)
                refine lv_aload_n hx hb dL_step_152 rfl (lv_at hl 0 rfl) ?_
                refine lv_iconst (v := nI 4) hx hb dL_step_153 (by decide) ?_
                refine lv_dup2_11 hx hb dL_step_154 rfl rfl ?_
                refine wv_iald hx hb hK hP 0 1 rfl rfl (k := 4) (by omega) (by decide) dL_step_155 ?_
                refine wv_ti (y := st) rfl ?_
                refine lv_iconst (v := nI 1) hx hb dL_step_156 (by decide) ?_
                refine lv_iadd hx hb dL_step_157 ?_
                refine wv_iast hx hb hK hP hD hS 0 1 rfl rfl (k := 4) (by omega) (by decide) dL_step_158 (fun H locs hP hD hS => ?_)
                rw [show upd (gM n b fl me st lk cm) 4 (st + (nI 1)) = gM n b fl me (st + (nI 1)) lk cm from gM_u4 _] at hP hD
                have hP : va_P D vwCl ((GvC g cI n b fl me (st + (nI 1)) lk cm) ++ (VvC vv cJ (swa v q)) ++ (NnC nn cI (swa nu q))) H := hP
                have hD : va_D _ ((GvC g cI n b fl me (st + (nI 1)) lk cm) ++ (VvC vv cJ (swa v q)) ++ (NnC nn cI (swa nu q))) := hD
                refine lv_iload hx hb dL_step_159 (lv_at hl 4 rfl) ?_
                exact wv_iretM hx hb hr hlocks hP hD hS rfl rfl dL_step_161
              · skip
                have hf2 : fnr (fal fl v n) (j + 1) (n - j - 1) = some q := by rw [show n - j = (n - j - 1) + 1 by omega, fnr_s, if_neg (by rw [c108]; decide)] at hf; exact hf
                have hqj := fnr_le hf2
                refine lv_iload hx hb dL_step_111 (lv_at hl 4 rfl) ?_
                refine wv_if_lt hx hb (by omega) dL_step_113 (tgt := 133) (by decide) ?_
                refine lv_iload hx hb dL_step_116 (lv_at hl 4 rfl) ?_
                refine lv_bipush (v := nI 32) hx hb dL_step_118 (by decide) ?_
                refine wv_icmp_ge (tgt := 133) hx hb (by omega) (by omega) dL_step_120 (by decide) (fun c120 => by exfalso; omega) (fun c120 => ?_)
                refine lv_iload hx hb dL_step_123 (lv_at hl 4 rfl) ?_
                refine lv_iload hx hb dL_step_125 (lv_at hl 3 rfl) ?_
                refine lv_iadd hx hb dL_step_127 ?_
                refine wv_ti (nI_add _ _) ?_
                refine lv_istore (lv' := [(6, .int (nI (j + 1))), (0, .ref g), (1, .ref vv), (2, .ref nn), (5, .int (nI 1))]) hx hb dL_step_128 hl (by decide) rfl (fun ls hl => ?_)
                refine lv_goto (tgt := 101) hx hb dL_step_130 (by decide) ?_
                exact ih101 (j + 1) (by omega) (by first | assumption | omega) (by first | assumption | omega) (by rw [show n - (j + 1) = n - j - 1 by omega]; exact hf2) _ _ hP hD hS ls (lv_sub hl [1, 2, 3, 4, 0] rfl)
          exact loop101 (n - k + 1) k (by omega) (by first | assumption | omega) (by first | assumption | omega) (by exact hfr) _ _ hP hD hS ls (lv_sub hl [2, 3, 4, 1, 0] rfl)
        · skip
          have c5b : rk0 fl v n k < k := (dst_pos hk hn).mp (by first | exact c77 | exact Int32.not_le.mp c77)
          have hfl : fnl (fal fl v n) k = some q := by rw [← hq]; exact (if_pos c5b).symm
          refine lv_iconst (v := (-1)) hx hb dL_step_80 (by decide) ?_
          refine lv_goto (tgt := 85) hx hb dL_step_81 (by decide) ?_
          refine lv_istore (lv' := [(5, .int (-1)), (0, .ref g), (1, .ref vv), (2, .ref nn), (3, .int (nI k)), (4, .int (nI ((wpl (far fl v n) b i).1)))]) hx hb dL_step_85 hl (by decide) rfl (fun ls hl => ?_)
          refine lv_iload hx hb dL_step_87 (lv_at hl 0 rfl) ?_
          refine lv_if_ge (tgt := 98) hx hb dL_step_89 (by decide) (fun c89 => by exfalso; exact absurd c89 (by decide)) (fun c89 => ?_)
          refine lv_iload_n hx hb dL_step_92 rfl (lv_at hl 4 rfl) ?_
          refine lv_iconst (v := nI 1) hx hb dL_step_93 (by decide) ?_
          refine lv_isub hx hb dL_step_94 ?_
          refine wv_ti (pk_sub (by omega)) ?_
          refine lv_goto (tgt := 99) hx hb dL_step_95 (by decide) ?_
          refine lv_istore (lv' := [(6, .int (nI (k - 1))), (5, .int (-1)), (0, .ref g), (1, .ref vv), (2, .ref nn), (3, .int (nI k)), (4, .int (nI ((wpl (far fl v n) b i).1)))]) hx hb dL_step_99 hl (by decide) rfl (fun ls hl => ?_)
          have loop101 : ∀ (K : Nat) (j : Nat), j < K → j < k → fnl (fal fl v n) (j + 1) = some q → ∀ (H : Heap) (locs : List Loc), va_P D vwCl ((GvC g cI n b fl me st lk cm) ++ (VvC vv cJ v) ++ (NnC nn cI nu)) H → va_D (va_A ((GvC g cI n b fl me st lk cm) ++ (VvC vv cJ v) ++ (NnC nn cI nu)) s.heap.size) ((GvC g cI n b fl me st lk cm) ++ (VvC vv cJ v) ++ (NnC nn cI nu)) → va_S (va_A ((GvC g cI n b fl me st lk cm) ++ (VvC vv cJ v) ++ (NnC nn cI nu)) s.heap.size) s.heap H locs → ∀ ls : Array Slot, lv_has ls 7 [(0, .ref g), (1, .ref vv), (2, .ref nn), (5, .int (-1)), (6, .int (nI j))] → W p l e ({ frames := 3, cells := 0, slots := 0, locals := 71 } : Room) s m args below meth c H locs 0 0 (ZMi below args s D ((GvC g cI n b fl me st lk cm) ++ (VvC vv cJ v) ++ (NnC nn cI nu)) (nI q) ((GvC g cI n b fl me (st + (nI 1)) lk cm) ++ (VvC vv cJ (swa v q)) ++ (NnC nn cI (swa nu q)))) (F0 m 101 ls []) := by
            intro K
            induction K with
            | zero => intro j hK0; exact absurd hK0 (Nat.not_lt_zero _)
            | succ K ih101 =>
              intro j hKm hj hf H locs hP hD hS ls hl
              refine lv_aload_n hx hb dL_step_101 rfl (lv_at hl 0 rfl) ?_
              refine lv_aload_n hx hb dL_step_102 rfl (lv_at hl 1 rfl) ?_
              refine lv_iload hx hb dL_step_103 (lv_at hl 4 rfl) ?_
              refine wv_callSi (As := [.ref g, .ref vv, .int (nI j)]) (rest := []) ⟨hx, hb, hml, hown, hts⟩ (kL_fall l D g cI n b fl me st lk cm vv cJ v j (by first | assumption | omega) (by first | assumption | omega)) (va_cwS 3 hts gL_step_L_fall rfl rfl rfl (by decide +kernel) ⟨Nat.le_of_ble_eq_true rfl, Nat.le_of_ble_eq_true rfl⟩) hK hN hP hS hA [0, 1] [0, 1] rfl rfl rfl hl.1 rfl (Nat.le_of_ble_eq_true rfl) dL_step_105 ⟨Nat.zero_le _, Nat.zero_le _⟩ (fun H locs hz9 hP hS => ?_)
              refine wv_ifneB (tgt := 133) hx hb dL_step_108 (by decide) (fun c108 => ?_) (fun c108 => ?_)
              · skip
                have ejq : j = q := by rw [fnl_s, if_pos c108] at hf; exact Option.some.inj hf
                rw [ejq] at hl
                refine lv_iload hx hb dL_step_133 (lv_at hl 4 rfl) ?_
                refine wv_if_lt hx hb (by omega) dL_step_135 (tgt := 152) (by decide) ?_
                refine lv_iload hx hb dL_step_138 (lv_at hl 4 rfl) ?_
                refine lv_bipush (v := nI 31) hx hb dL_step_140 (by decide) ?_
                refine wv_icmp_ge (tgt := 152) hx hb (by omega) (by omega) dL_step_142 (by decide) (fun c142 => by exfalso; omega) (fun c142 => ?_)
                refine lv_aload_n hx hb dL_step_145 rfl (lv_at hl 1 rfl) ?_
                refine lv_aload_n hx hb dL_step_146 rfl (lv_at hl 2 rfl) ?_
                refine lv_iload hx hb dL_step_147 (lv_at hl 4 rfl) ?_
                refine wv_callSMv (As := [.ref vv, .ref nn, .int (nI q)]) (rest := []) (wr := GvC g cI n b fl me st lk cm) (ws1 := (GvC g cI n b fl me st lk cm) ++ (VvC vv cJ (swa v q)) ++ (NnC nn cI (swa nu q))) ⟨hx, hb, hml, hown, hts⟩ (kL_swap l D vv cJ v nn cI nu q (by first | assumption | omega)) (va_cwS 3 hts gL_step_L_swap rfl rfl rfl (by decide +kernel) ⟨Nat.le_of_ble_eq_true rfl, Nat.le_of_ble_eq_true rfl⟩) hK hN hP hD hS hA [1, 2] [0] [0, 1] [0, 1, 2] rfl rfl (by decide) rfl (by decide) (by decide) rfl (by decide) rfl rfl hl.1 rfl (Nat.le_of_ble_eq_true rfl) dL_step_149 ⟨Nat.zero_le _, Nat.zero_le _⟩ (fun H locs hz9 hP hD hS => ?_)
                refine lv_aload_n hx hb dL_step_152 rfl (lv_at hl 0 rfl) ?_
                refine lv_iconst (v := nI 4) hx hb dL_step_153 (by decide) ?_
                refine lv_dup2_11 hx hb dL_step_154 rfl rfl ?_
                refine wv_iald hx hb hK hP 0 1 rfl rfl (k := 4) (by omega) (by decide) dL_step_155 ?_
                refine wv_ti (y := st) rfl ?_
                refine lv_iconst (v := nI 1) hx hb dL_step_156 (by decide) ?_
                refine lv_iadd hx hb dL_step_157 ?_
                refine wv_iast hx hb hK hP hD hS 0 1 rfl rfl (k := 4) (by omega) (by decide) dL_step_158 (fun H locs hP hD hS => ?_)
                rw [show upd (gM n b fl me st lk cm) 4 (st + (nI 1)) = gM n b fl me (st + (nI 1)) lk cm from gM_u4 _] at hP hD
                have hP : va_P D vwCl ((GvC g cI n b fl me (st + (nI 1)) lk cm) ++ (VvC vv cJ (swa v q)) ++ (NnC nn cI (swa nu q))) H := hP
                have hD : va_D _ ((GvC g cI n b fl me (st + (nI 1)) lk cm) ++ (VvC vv cJ (swa v q)) ++ (NnC nn cI (swa nu q))) := hD
                refine lv_iload hx hb dL_step_159 (lv_at hl 4 rfl) ?_
                exact wv_iretM hx hb hr hlocks hP hD hS rfl rfl dL_step_161
              · skip
                have hf2 : fnl (fal fl v n) j = some q := by rw [fnl_s, if_neg (by rw [c108]; decide)] at hf; exact hf
                have hqj := (fnl_le hf2).1
                refine lv_iload hx hb dL_step_111 (lv_at hl 4 rfl) ?_
                refine wv_if_lt hx hb (by omega) dL_step_113 (tgt := 133) (by decide) ?_
                refine lv_iload hx hb dL_step_116 (lv_at hl 4 rfl) ?_
                refine lv_bipush (v := nI 32) hx hb dL_step_118 (by decide) ?_
                refine wv_icmp_ge (tgt := 133) hx hb (by omega) (by omega) dL_step_120 (by decide) (fun c120 => by exfalso; omega) (fun c120 => ?_)
                refine lv_iload hx hb dL_step_123 (lv_at hl 4 rfl) ?_
                refine lv_iload hx hb dL_step_125 (lv_at hl 3 rfl) ?_
                refine lv_iadd hx hb dL_step_127 ?_
                refine wv_ti (y := nI (j - 1)) (sb_m1 (by omega)) ?_
                refine lv_istore (lv' := [(6, .int (nI (j - 1))), (0, .ref g), (1, .ref vv), (2, .ref nn), (5, .int (-1))]) hx hb dL_step_128 hl (by decide) rfl (fun ls hl => ?_)
                refine lv_goto (tgt := 101) hx hb dL_step_130 (by decide) ?_
                exact ih101 (j - 1) (by omega) (by first | assumption | omega) (by rw [show j - 1 + 1 = j by omega]; exact hf2) _ _ hP hD hS ls (lv_sub hl [1, 2, 3, 4, 0] rfl)
          exact loop101 ((k - 1) + 1) (k - 1) (by omega) (by first | assumption | omega) (by rw [show k - 1 + 1 = k by omega]; exact hfl) _ _ hP hD hS ls (lv_sub hl [2, 3, 4, 1, 0] rfl)
      · skip
        have hfi := far_le (fl := fl) (v := v) (n := n) (k := i) (by omega)
        have hwi : (wpl (far fl v n) b i).1 ≤ 32 := wpl_le (by omega) (fun k hk => Nat.le_trans (far_le (by omega)) hn)
        refine lv_aload_n hx hb dL_step_18 rfl (lv_at hl 0 rfl) ?_
        refine lv_aload_n hx hb dL_step_19 rfl (lv_at hl 1 rfl) ?_
        refine lv_iload hx hb dL_step_20 (lv_at hl 5 rfl) ?_
        refine wv_callSi (As := [.ref g, .ref vv, .int (nI i)]) (rest := []) ⟨hx, hb, hml, hown, hts⟩ (kL_far l D g cI n b fl me st lk cm vv cJ v i (by first | assumption | omega) (by first | assumption | omega)) (va_cwS 3 hts gL_step_L_far rfl rfl rfl (by decide +kernel) ⟨Nat.le_of_ble_eq_true rfl, Nat.le_of_ble_eq_true rfl⟩) hK hN hP hS hA [0, 1] [0, 1] rfl rfl rfl hl.1 rfl (Nat.le_of_ble_eq_true rfl) dL_step_22 ⟨Nat.zero_le _, Nat.zero_le _⟩ (fun H locs hz9 hP hS => ?_)
        refine lv_istore (lv' := [(6, .int (nI (far fl v n i))), (0, .ref g), (1, .ref vv), (2, .ref nn), (3, .int (oW (wpl (far fl v n) b i).2)), (4, .int (nI ((wpl (far fl v n) b i).1))), (5, .int (nI i))]) hx hb dL_step_25 hl (by decide) rfl (fun ls hl => ?_)
        refine lv_iload hx hb dL_step_27 (lv_at hl 0 rfl) ?_
        refine lv_iload hx hb dL_step_29 (lv_at hl 5 rfl) ?_
        refine wv_icmp_le (tgt := 39) hx hb (by omega) (by omega) dL_step_31 (by decide) (fun c31 => ?_) (fun c31 => ?_)
        · skip
          refine lv_iload_n hx hb dL_step_39 rfl (lv_at hl 4 rfl) ?_
          refine lv_istore_n (lv' := [(3, .int (oW (wpl (far fl v n) b i).2)), (6, .int (nI (far fl v n i))), (0, .ref g), (1, .ref vv), (2, .ref nn), (4, .int (nI ((wpl (far fl v n) b i).1))), (5, .int (nI i))]) hx hb dL_step_40 rfl hl (by decide) rfl (fun ls hl => ?_)
          refine lv_iload hx hb dL_step_41 (lv_at hl 1 rfl) ?_
          refine lv_iload hx hb dL_step_43 (lv_at hl 5 rfl) ?_
          refine wv_icmp_le (tgt := 53) hx hb (by omega) (by omega) dL_step_45 (by decide) (fun c45 => ?_) (fun c45 => by exfalso; omega)
          refine lv_iload hx hb dL_step_53 (lv_at hl 5 rfl) ?_
          refine lv_istore (lv' := [(4, .int (nI ((wpl (far fl v n) b i).1))), (3, .int (oW (wpl (far fl v n) b i).2)), (6, .int (nI (far fl v n i))), (0, .ref g), (1, .ref vv), (2, .ref nn), (5, .int (nI i))]) hx hb dL_step_55 hl (by decide) rfl (fun ls hl => ?_)
          refine lv_iinc (v := nI (i + 1)) (lv' := [(5, .int (nI (i + 1))), (4, .int (nI ((wpl (far fl v n) b i).1))), (3, .int (oW (wpl (far fl v n) b i).2)), (6, .int (nI (far fl v n i))), (0, .ref g), (1, .ref vv), (2, .ref nn)]) hx hb dL_step_57 hl (k := 6) rfl (nI_1 _) (by decide) rfl (fun ls hl => ?_)
          refine lv_goto (tgt := 10) hx hb dL_step_60 (by decide) ?_
          have el_l3 : oW (wpl (far fl v n) b (i + 1)).2 = oW (wpl (far fl v n) b i).2 := by first | (rw [wpl_s, if_pos (by omega)]; rfl) | rw [wpl_s, if_neg (by omega)]
          have el_l4 : (wpl (far fl v n) b (i + 1)).1 = (wpl (far fl v n) b i).1 := by first | (rw [wpl_s, if_pos (by omega)]; done) | rw [wpl_s, if_neg (by omega)]
          exact ih10 (i + 1) (by omega) (by first | assumption | omega) _ _ (by first | (rw [el_l3, el_l4]; exact hP) | (simp only [el_l3, el_l4]; exact hP) | exact hP) (by first | (rw [el_l3, el_l4]; exact hD) | (simp only [el_l3, el_l4]; exact hD) | exact hD) hS ls (by first | (rw [el_l3, el_l4]; exact lv_sub hl [4, 5, 6, 2, 1, 0] rfl) | (simp only [el_l3, el_l4]; exact lv_sub hl [4, 5, 6, 2, 1, 0] rfl) | exact lv_sub hl [4, 5, 6, 2, 1, 0] rfl)
        · skip
          refine lv_iload hx hb dL_step_34 (lv_at hl 6 rfl) ?_
          refine lv_goto (tgt := 40) hx hb dL_step_36 (by decide) ?_
          refine lv_istore_n (lv' := [(3, .int (nI i)), (6, .int (nI (far fl v n i))), (0, .ref g), (1, .ref vv), (2, .ref nn), (4, .int (nI ((wpl (far fl v n) b i).1))), (5, .int (nI i))]) hx hb dL_step_40 rfl hl (by decide) rfl (fun ls hl => ?_)
          refine lv_iload hx hb dL_step_41 (lv_at hl 1 rfl) ?_
          refine lv_iload hx hb dL_step_43 (lv_at hl 5 rfl) ?_
          refine wv_icmp_le (tgt := 53) hx hb (by omega) (by omega) dL_step_45 (by decide) (fun c45 => by exfalso; omega) (fun c45 => ?_)
          refine lv_iload hx hb dL_step_48 (lv_at hl 1 rfl) ?_
          refine lv_goto (tgt := 55) hx hb dL_step_50 (by decide) ?_
          refine lv_istore (lv' := [(4, .int (nI (far fl v n i))), (3, .int (nI i)), (6, .int (nI (far fl v n i))), (0, .ref g), (1, .ref vv), (2, .ref nn), (5, .int (nI i))]) hx hb dL_step_55 hl (by decide) rfl (fun ls hl => ?_)
          refine lv_iinc (v := nI (i + 1)) (lv' := [(5, .int (nI (i + 1))), (4, .int (nI (far fl v n i))), (3, .int (nI i)), (6, .int (nI (far fl v n i))), (0, .ref g), (1, .ref vv), (2, .ref nn)]) hx hb dL_step_57 hl (k := 6) rfl (nI_1 _) (by decide) rfl (fun ls hl => ?_)
          refine lv_goto (tgt := 10) hx hb dL_step_60 (by decide) ?_
          have el_l3 : oW (wpl (far fl v n) b (i + 1)).2 = nI i := by first | (rw [wpl_s, if_pos (by omega)]; rfl) | rw [wpl_s, if_neg (by omega)]
          have el_l4 : (wpl (far fl v n) b (i + 1)).1 = far fl v n i := by first | (rw [wpl_s, if_pos (by omega)]; done) | rw [wpl_s, if_neg (by omega)]
          exact ih10 (i + 1) (by omega) (by first | assumption | omega) _ _ (by first | (rw [el_l3, el_l4]; exact hP) | (simp only [el_l3, el_l4]; exact hP) | exact hP) (by first | (rw [el_l3, el_l4]; exact hD) | (simp only [el_l3, el_l4]; exact hD) | exact hD) hS ls (by first | (rw [el_l3, el_l4]; exact lv_sub hl [4, 5, 6, 2, 1, 0] rfl) | (simp only [el_l3, el_l4]; exact lv_sub hl [4, 5, 6, 2, 1, 0] rfl) | exact lv_sub hl [4, 5, 6, 2, 1, 0] rfl)
  exact loop10 (n - 0 + 1) 0 (by omega) (by first | assumption | omega) _ _ (by first | (rw [el_l3, el_l4]; exact hP) | (simp only [el_l3, el_l4]; exact hP) | exact hP) (by first | (rw [el_l3, el_l4]; exact hD) | (simp only [el_l3, el_l4]; exact hD) | exact hD) hS ls (by first | (rw [el_l3, el_l4]; exact lv_sub hl [3, 4, 5, 2, 1, 0] rfl) | (simp only [el_l3, el_l4]; exact lv_sub hl [3, 4, 5, 2, 1, 0] rfl) | exact lv_sub hl [3, 4, 5, 2, 1, 0] rfl)

set_option maxHeartbeats 4000000 in
set_option maxRecDepth 100000 in
theorem kL_mend (l : Launch) (D : va_G) (g : Nat) (cI : ClassId) (n : Nat) (b : Nat) (fl : Bool) (me : Bool) (st : Int32) (lk : Int32) (cm : Int32) (vv : Nat) (cJ : ClassId) (v : Nat → Int64) (nn : Nat) (nu : Nat → Int32) (hn : n ≤ 32) (hb : b ≤ 31) : MMi l yL_mend wsL_mend ({ frames := 4, cells := 0, slots := 0, locals := 97 } : Room) [.ref g, .ref vv, .ref nn] D ((GvC g cI n b fl me st lk cm) ++ (VvC vv cJ v) ++ (NnC nn cI nu)) [(cJ, .long), (cI, .int)] (nI ((mL fl n b 1000 v).length)) ((GvC g cI n b fl me (st + (nI (mL fl n b 1000 v).length)) lk cm) ++ (VvC vv cJ (sws v (mL fl n b 1000 v))) ++ (NnC nn cI (sws nu (mL fl n b 1000 v)))) := by
  refine MMi_of (cc := cL_mend) (maxL := 4) (ret := some .int) (by decide +kernel) rfl (Nat.le_of_ble_eq_true rfl) ?_
  intro p e s m args below meth c hx hb hr hts hown hlocks hml hP hK hN hD ls hl
  have hown : s.vm.findClass RL = some m.cls := hown
  have hl : lv_has ls 4 [(0, .ref g), (1, .ref vv), (2, .ref nn)] := hl
  have hS : va_S (va_A ((GvC g cI n b fl me st lk cm) ++ (VvC vv cJ v) ++ (NnC nn cI nu)) s.heap.size) s.heap s.heap [] := va_S.rf
  have hA := wk_hA ((GvC g cI n b fl me st lk cm) ++ (VvC vv cJ v) ++ (NnC nn cI nu)) s.heap.size
  have hD9 : True := trivial
  refine lv_iconst (v := nI 0) hx hb dL_mend_0 (by decide) ?_
  refine lv_istore_n (lv' := [(3, .int (nI 0)), (0, .ref g), (1, .ref vv), (2, .ref nn)]) hx hb dL_mend_1 rfl hl (by decide) rfl (fun ls hl => ?_)
  have loop2 : ∀ (K : Nat) (v1 : Nat → Int64) (nu1 : Nat → Int32) (st1 : Int32) (i : Nat), tin fl v1 n < K → (mL fl n b 1000 v).length = i + (mL fl n b 1000 v1).length → sws v (mL fl n b 1000 v) = sws v1 (mL fl n b 1000 v1) → sws nu (mL fl n b 1000 v) = sws nu1 (mL fl n b 1000 v1) → st1 = st + nI i → ∀ (H : Heap) (locs : List Loc), va_P D vwCl ((GvC g cI n b fl me st1 lk cm) ++ (VvC vv cJ v1) ++ (NnC nn cI nu1)) H → va_D (va_A ((GvC g cI n b fl me st lk cm) ++ (VvC vv cJ v) ++ (NnC nn cI nu)) s.heap.size) ((GvC g cI n b fl me st1 lk cm) ++ (VvC vv cJ v1) ++ (NnC nn cI nu1)) → va_S (va_A ((GvC g cI n b fl me st lk cm) ++ (VvC vv cJ v) ++ (NnC nn cI nu)) s.heap.size) s.heap H locs → ∀ ls : Array Slot, lv_has ls 4 [(0, .ref g), (1, .ref vv), (2, .ref nn), (3, .int (nI i))] → W p l e ({ frames := 4, cells := 0, slots := 0, locals := 97 } : Room) s m args below meth c H locs 0 0 (ZMi below args s D ((GvC g cI n b fl me st lk cm) ++ (VvC vv cJ v) ++ (NnC nn cI nu)) (nI ((mL fl n b 1000 v).length)) ((GvC g cI n b fl me (st + (nI (mL fl n b 1000 v).length)) lk cm) ++ (VvC vv cJ (sws v (mL fl n b 1000 v))) ++ (NnC nn cI (sws nu (mL fl n b 1000 v))))) (F0 m 2 ls []) := by
    intro K
    induction K with
    | zero => intro v1 nu1 st1 i hK0; exact absurd hK0 (Nat.not_lt_zero _)
    | succ K ih2 =>
      intro v1 nu1 st1 i hKm hLn hV hU hT H locs hP hD hS ls hl
      refine lv_aload_n hx hb dL_mend_2 rfl (lv_at hl 0 rfl) ?_
      refine lv_aload_n hx hb dL_mend_3 rfl (lv_at hl 1 rfl) ?_
      refine lv_aload_n hx hb dL_mend_4 rfl (lv_at hl 2 rfl) ?_
      rcases hw : (wpl (far fl v1 n) b n).2 with _ | k
      · skip
        have hm : mq fl n b v1 = none := by unfold mq; rw [hw]
        refine wv_callSi (As := [.ref g, .ref vv, .ref nn]) (rest := []) ⟨hx, hb, hml, hown, hts⟩ (kL_step_no l D g cI n b fl me st1 lk cm vv cJ v1 nn nu1 (by first | assumption | omega) (by first | assumption | omega) (by first | assumption | omega)) (va_cwS 3 hts gL_mend_L_step rfl rfl rfl (by decide +kernel) ⟨Nat.le_of_ble_eq_true rfl, Nat.le_of_ble_eq_true rfl⟩) hK hN hP hS hA [0, 1, 2] [0, 1] rfl rfl rfl hl.1 rfl (Nat.le_of_ble_eq_true rfl) dL_mend_5 ⟨Nat.zero_le _, Nat.zero_le _⟩ (fun H locs hz9 hP hS => ?_)
        refine lv_sipush (v := (-1000)) hx hb dL_mend_8 (by decide) ?_
        refine lv_icmp_le (tgt := 20) hx hb dL_mend_11 (by decide) (fun c11 => ?_) (fun c11 => by exfalso; exact c11 (by decide))
        refine lv_iload_n hx hb dL_mend_20 rfl (lv_at hl 3 rfl) ?_
        have ew0_st : st + (nI (mL fl n b 1000 v).length) = st1 := by rw [hT, hLn, mL_n hm]; rfl
        have ew1_v : sws v (mL fl n b 1000 v) = v1 := by rw [hV, mL_n hm]; rfl
        have ew2_nu : sws nu (mL fl n b 1000 v) = nu1 := by rw [hU, mL_n hm]; rfl
        exact wv_iretM hx hb hr hlocks hP hD hS (by rw [hLn, mL_n hm]; rfl) (by rw [ew0_st, ew2_nu, ew1_v]) dL_mend_21
      · skip
        obtain ⟨q, hq⟩ := fno_ex (v := v1) hw
        have hm : mq fl n b v1 = some q := by unfold mq; rw [hw]; exact hq
        have hq1 := fal_lt (mq_fal hm)
        have ht9 := tin_sw (mq_fal hm)
        have hs : mL fl n b 1000 v1 = q :: mL fl n b 1000 (swa v1 q) := mL_1 hn hm
        refine wv_callSMi (As := [.ref g, .ref vv, .ref nn]) (rest := []) (wr := []) (ws1 := (GvC g cI n b fl me (st1 + (nI 1)) lk cm) ++ (VvC vv cJ (swa v1 q)) ++ (NnC nn cI (swa nu1 q))) ⟨hx, hb, hml, hown, hts⟩ (kL_step_ok l D g cI n b fl me st1 lk cm vv cJ v1 nn nu1 k q (by first | assumption | omega) (by first | assumption | omega) (by first | assumption | omega) (by first | assumption | omega)) (va_cwS 3 hts gL_mend_L_step rfl rfl rfl (by decide +kernel) ⟨Nat.le_of_ble_eq_true rfl, Nat.le_of_ble_eq_true rfl⟩) hK hN hP hD hS hA [0, 1, 2] [] [0, 1] [0, 1, 2] rfl rfl (by decide) rfl (by decide) (by decide) rfl (by decide) rfl rfl hl.1 rfl (Nat.le_of_ble_eq_true rfl) dL_mend_5 ⟨Nat.zero_le _, Nat.zero_le _⟩ (fun H locs hz9 hP hD hS => ?_)
        refine lv_sipush (v := (-1000)) hx hb dL_mend_8 (by decide) ?_
        refine lv_icmp_le (tgt := 20) hx hb dL_mend_11 (by decide) (fun c11 => by exfalso; exact nI_nle1000 (by omega) c11) (fun c11 => ?_)
        refine lv_iinc (v := nI (i + 1)) (lv' := [(3, .int (nI (i + 1))), (0, .ref g), (1, .ref vv), (2, .ref nn)]) hx hb dL_mend_14 hl (k := 3) rfl (nI_1 _) (by decide) rfl (fun ls hl => ?_)
        refine lv_goto (tgt := 2) hx hb dL_mend_17 (by decide) ?_
        exact ih2 (swa v1 q) (swa nu1 q) (st1 + (nI 1)) (i + 1) (by omega) (by rw [hLn, hs, List.length_cons]; omega) (by rw [hV, hs]; rfl) (by rw [hU, hs]; rfl) (by rw [hT, Int32.add_assoc, nI_add]) _ _ hP hD hS ls (lv_sub hl [1, 2, 3, 0] rfl)
  exact loop2 (tin fl v n + 1) v nu st 0 (by omega) (by rw [Nat.zero_add]) (by rfl) (by rfl) (by rw [nI_0, Int32.add_zero]) _ _ hP hD hS ls (lv_sub hl [1, 2, 3, 0] rfl)

set_option maxHeartbeats 4000000 in
set_option maxRecDepth 100000 in
theorem kL_ends (l : Launch) (D : va_G) (g : Nat) (cI : ClassId) (n : Nat) (b : Nat) (fl : Bool) (me : Bool) (st : Int32) (lk : Int32) (cm : Int32) (vv : Nat) (cJ : ClassId) (v : Nat → Int64) (nn : Nat) (nu : Nat → Int32) (hn : n ≤ 32) (hb : b ≤ 31) : MMv l yL_ends wsL_ends ({ frames := 5, cells := 0, slots := 0, locals := 120 } : Room) [.ref g, .ref vv, .ref nn] D ((GvC g cI n b fl me st lk cm) ++ (VvC vv cJ v) ++ (NnC nn cI nu)) [(cJ, .long), (cI, .int)] ((GvC g cI n b fl me (st + (nI (eL me fl n b v).length)) lk cm) ++ (VvC vv cJ (sws v (eL me fl n b v))) ++ (NnC nn cI (sws nu (eL me fl n b v)))) := by
  refine MMv_of (cc := cL_ends) (maxL := 4) (ret := none) (by decide +kernel) rfl (Nat.le_of_ble_eq_true rfl) ?_
  intro p e s m args below meth c hx hb hr hts hown hlocks hml hP hK hN hD ls hl
  have hown : s.vm.findClass RL = some m.cls := hown
  have hl : lv_has ls 4 [(0, .ref g), (1, .ref vv), (2, .ref nn)] := hl
  have hS : va_S (va_A ((GvC g cI n b fl me st lk cm) ++ (VvC vv cJ v) ++ (NnC nn cI nu)) s.heap.size) s.heap s.heap [] := va_S.rf
  have hA := wk_hA ((GvC g cI n b fl me st lk cm) ++ (VvC vv cJ v) ++ (NnC nn cI nu)) s.heap.size
  have hD9 : True := trivial
  have hml9 := mL_len (fl := fl) (v := v) (b := b) (f := 1000) hn
  refine lv_aload_n hx hb dL_ends_0 rfl (lv_at hl 0 rfl) ?_
  refine lv_iconst (v := nI 3) hx hb dL_ends_1 (by decide) ?_
  refine wv_iald hx hb hK hP 0 1 rfl rfl (k := 3) (by omega) (by decide) dL_ends_2 ?_
  refine wv_ti (y := bI me) rfl ?_
  refine lv_iconst (v := nI 1) hx hb dL_ends_3 (by decide) ?_
  refine lv_icmp_ne (tgt := 26) hx hb dL_ends_4 (by decide) (fun c4 => ?_) (fun c4 => ?_)
  · skip
    have hm : me = false := by cases me <;> first | rfl | exact absurd rfl c4
    have he : (eL me fl n b v) = [] := by unfold eL; rw [hm]; rfl
    have ew0_st : st + (nI (eL me fl n b v).length) = st := by first | (rw [he]; done) | (rw [he]; rfl) | (rw [he]; exact (Int32.add_zero st))
    have ew1_v : sws v (eL me fl n b v) = v := by first | (rw [he]; done) | (rw [he]; rfl)
    have ew2_nu : sws nu (eL me fl n b v) = nu := by first | (rw [he]; done) | (rw [he]; rfl)
    exact wv_vretM hx hb hr hlocks hP hD hS (by rw [ew0_st, ew2_nu, ew1_v]) dL_ends_26
  · skip
    have hm : me = true := by cases me <;> first | rfl | exact absurd c4 (by decide)
    have he : (eL me fl n b v) = mL fl n b 1000 v := by unfold eL; rw [hm]; rfl
    refine lv_aload_n hx hb dL_ends_7 rfl (lv_at hl 0 rfl) ?_
    refine lv_aload_n hx hb dL_ends_8 rfl (lv_at hl 1 rfl) ?_
    refine lv_aload_n hx hb dL_ends_9 rfl (lv_at hl 2 rfl) ?_
    refine wv_callSMi (As := [.ref g, .ref vv, .ref nn]) (rest := []) (wr := []) (ws1 := (GvC g cI n b fl me (st + (nI (mL fl n b 1000 v).length)) lk cm) ++ (VvC vv cJ (sws v (mL fl n b 1000 v))) ++ (NnC nn cI (sws nu (mL fl n b 1000 v)))) ⟨hx, hb, hml, hown, hts⟩ (kL_mend l D g cI n b fl me st lk cm vv cJ v nn nu (by first | assumption | omega) (by first | assumption | omega)) (va_cwS 3 hts gL_ends_L_mend rfl rfl rfl (by decide +kernel) ⟨Nat.le_of_ble_eq_true rfl, Nat.le_of_ble_eq_true rfl⟩) hK hN hP hD hS hA [0, 1, 2] [] [0, 1] [0, 1, 2] rfl rfl (by decide) rfl (by decide) (by decide) rfl (by decide) rfl rfl hl.1 rfl (Nat.le_of_ble_eq_true rfl) dL_ends_10 ⟨Nat.zero_le _, Nat.zero_le _⟩ (fun H locs hz9 hP hD hS => ?_)
    refine lv_istore_n (lv' := [(3, .int (nI ((mL fl n b 1000 v).length))), (0, .ref g), (1, .ref vv), (2, .ref nn)]) hx hb dL_ends_13 rfl hl (by decide) rfl (fun ls hl => ?_)
    refine lv_aload_n hx hb dL_ends_14 rfl (lv_at hl 1 rfl) ?_
    refine lv_iconst (v := nI 3) hx hb dL_ends_15 (by decide) ?_
    refine lv_iload_n hx hb dL_ends_16 rfl (lv_at hl 0 rfl) ?_
    refine wv_if_ge hx hb (by omega) dL_ends_17 (tgt := 24) (by decide) ?_
    refine lv_iconst (v := nI 1) hx hb dL_ends_24 (by decide) ?_
    refine wv_iast hx hb hK hP hD hS 0 1 rfl rfl (k := 3) (by omega) (by decide) dL_ends_25 (fun H locs hP hD hS => ?_)
    rw [show upd (gM n b fl me (st + (nI (mL fl n b 1000 v).length)) lk cm) 3 (nI 1) = gM n b fl true (st + (nI (mL fl n b 1000 v).length)) lk cm from gM_u3 true] at hP hD
    have hP : va_P D vwCl ((GvC g cI n b fl true (st + (nI (mL fl n b 1000 v).length)) lk cm) ++ (VvC vv cJ (sws v (mL fl n b 1000 v))) ++ (NnC nn cI (sws nu (mL fl n b 1000 v)))) H := hP
    have hD : va_D _ ((GvC g cI n b fl true (st + (nI (mL fl n b 1000 v).length)) lk cm) ++ (VvC vv cJ (sws v (mL fl n b 1000 v))) ++ (NnC nn cI (sws nu (mL fl n b 1000 v)))) := hD
    have ew0_me : me = true := by exact hm
    have ew0_st : st + (nI (eL me fl n b v).length) = st + (nI (mL fl n b 1000 v).length) := by first | (rw [he]; done) | (rw [he]; rfl) | (rw [he]; exact (Int32.add_zero st))
    have ew1_v : sws v (eL me fl n b v) = sws v (mL fl n b 1000 v) := by first | (rw [he]; done) | (rw [he]; rfl)
    have ew2_nu : sws nu (eL me fl n b v) = sws nu (mL fl n b 1000 v) := by first | (rw [he]; done) | (rw [he]; rfl)
    exact wv_vretM hx hb hr hlocks hP hD hS (by rw [ew0_st, ew2_nu, ew1_v, ew0_me]) dL_ends_26

set_option maxHeartbeats 4000000 in
set_option maxRecDepth 100000 in
theorem kL_put (l : Launch) (D : va_G) (g : Nat) (cI : ClassId) (n : Nat) (b : Nat) (fl : Bool) (me : Bool) (st : Int32) (lk : Int32) (cm : Int32) (vv : Nat) (cJ : ClassId) (v : Nat → Int64) (nn : Nat) (nu : Nat → Int32) (k : Nat) (x : Int64) (hn : n < 32) (hk : k ≤ n) : MMv l yL_put wsL_put ({ frames := 0, cells := 0, slots := 0, locals := 0 } : Room) [.ref g, .ref vv, .ref nn, .int (nI k), .long x] D ((GvC g cI n b fl me st lk cm) ++ (VvC vv cJ v) ++ (NnC nn cI nu)) [(cJ, .long), (cI, .int)] ((GvC g cI (n + 1) b fl me st lk (cm + (nI 1))) ++ (VvC vv cJ (insA v n k x)) ++ (NnC nn cI (insA nu n k cm))) := by
  refine MMv_of (cc := cL_put) (maxL := 7) (ret := none) (by decide +kernel) rfl (Nat.le_of_ble_eq_true rfl) ?_
  intro p e s m args below meth c hx hb hr hts hown hlocks hml hP hK hN hD ls hl
  have hown : s.vm.findClass RL = some m.cls := hown
  have hl : lv_has ls 7 [(0, .ref g), (1, .ref vv), (2, .ref nn), (3, .int (nI k)), (4, .long x)] := hl
  have hS : va_S (va_A ((GvC g cI n b fl me st lk cm) ++ (VvC vv cJ v) ++ (NnC nn cI nu)) s.heap.size) s.heap s.heap [] := va_S.rf
  have hA := wk_hA ((GvC g cI n b fl me st lk cm) ++ (VvC vv cJ v) ++ (NnC nn cI nu)) s.heap.size
  have hD9 : True := trivial
  refine lv_aload_n hx hb dL_put_0 rfl (lv_at hl 0 rfl) ?_
  refine lv_iconst (v := nI 0) hx hb dL_put_1 (by decide) ?_
  refine wv_iald hx hb hK hP 0 1 rfl rfl (k := 0) (by omega) (by decide) dL_put_2 ?_
  refine wv_ti (y := nI n) rfl ?_
  refine lv_istore (lv' := [(6, .int (nI n)), (0, .ref g), (1, .ref vv), (2, .ref nn), (3, .int (nI k)), (4, .long x)]) hx hb dL_put_3 hl (by decide) rfl (fun ls hl => ?_)
  have el_w1_v : opa v n n = v := by exact opa_n v n
  have el_w2_nu : opa nu n n = nu := by exact opa_n nu n
  have loop5 : ∀ (K : Nat) (i : Nat), i < K → k ≤ i → i ≤ n → ∀ (H : Heap) (locs : List Loc), va_P D vwCl ((GvC g cI n b fl me st lk cm) ++ (VvC vv cJ (opa v n i)) ++ (NnC nn cI (opa nu n i))) H → va_D (va_A ((GvC g cI n b fl me st lk cm) ++ (VvC vv cJ v) ++ (NnC nn cI nu)) s.heap.size) ((GvC g cI n b fl me st lk cm) ++ (VvC vv cJ (opa v n i)) ++ (NnC nn cI (opa nu n i))) → va_S (va_A ((GvC g cI n b fl me st lk cm) ++ (VvC vv cJ v) ++ (NnC nn cI nu)) s.heap.size) s.heap H locs → ∀ ls : Array Slot, lv_has ls 7 [(0, .ref g), (1, .ref vv), (2, .ref nn), (3, .int (nI k)), (4, .long x), (6, .int (nI i))] → W p l e ({ frames := 0, cells := 0, slots := 0, locals := 0 } : Room) s m args below meth c H locs 0 0 (ZMv below args s D ((GvC g cI n b fl me st lk cm) ++ (VvC vv cJ v) ++ (NnC nn cI nu)) ((GvC g cI (n + 1) b fl me st lk (cm + (nI 1))) ++ (VvC vv cJ (insA v n k x)) ++ (NnC nn cI (insA nu n k cm)))) (F0 m 5 ls []) := by
    intro K
    induction K with
    | zero => intro i hK0; exact absurd hK0 (Nat.not_lt_zero _)
    | succ K ih5 =>
      intro i hKm hki hin H locs hP hD hS ls hl
      refine lv_iload hx hb dL_put_5 (lv_at hl 5 rfl) ?_
      refine lv_iload_n hx hb dL_put_7 rfl (lv_at hl 3 rfl) ?_
      refine wv_icmp_le (tgt := 37) hx hb (by omega) (by omega) dL_put_8 (by decide) (fun c8 => ?_) (fun c8 => ?_)
      · skip
        have ei : i = k := by omega
        rw [ei] at hP hD
        have hP : va_P D vwCl ((GvC g cI n b fl me st lk cm) ++ (VvC vv cJ (opa v n k)) ++ (NnC nn cI (opa nu n k))) _ := hP
        have hD : va_D _ ((GvC g cI n b fl me st lk cm) ++ (VvC vv cJ (opa v n k)) ++ (NnC nn cI (opa nu n k))) := hD
        refine lv_aload_n hx hb dL_put_37 rfl (lv_at hl 1 rfl) ?_
        refine lv_iload_n hx hb dL_put_38 rfl (lv_at hl 3 rfl) ?_
        refine lv_lload hx hb dL_put_39 (lv_at hl 4 rfl) ?_
        refine wv_last hx hb hK hP hD hS 1 0 rfl rfl (k := k) (by omega) (by decide) dL_put_41 (fun H locs hP hD hS => ?_)
        have hP : va_P D vwCl ((GvC g cI n b fl me st lk cm) ++ (VvC vv cJ (vp_updL (opa v n k) k x)) ++ (NnC nn cI (opa nu n k))) H := hP
        have hD : va_D _ ((GvC g cI n b fl me st lk cm) ++ (VvC vv cJ (vp_updL (opa v n k) k x)) ++ (NnC nn cI (opa nu n k))) := hD
        have er : vp_updL (opa v n k) k x = insA v n k x := insA_L v n k x
        rw [er] at hP hD
        clear er
        refine lv_aload_n hx hb dL_put_42 rfl (lv_at hl 2 rfl) ?_
        refine lv_iload_n hx hb dL_put_43 rfl (lv_at hl 3 rfl) ?_
        refine lv_aload_n hx hb dL_put_44 rfl (lv_at hl 0 rfl) ?_
        refine lv_bipush (v := nI 6) hx hb dL_put_45 (by decide) ?_
        refine wv_iald hx hb hK hP 0 1 rfl rfl (k := 6) (by omega) (by decide) dL_put_47 ?_
        refine wv_ti (y := cm) rfl ?_
        refine wv_iast hx hb hK hP hD hS 2 1 rfl rfl (k := k) (by omega) (by decide) dL_put_48 (fun H locs hP hD hS => ?_)
        have hP : va_P D vwCl ((GvC g cI n b fl me st lk cm) ++ (VvC vv cJ (insA v n k x)) ++ (NnC nn cI (upd (opa nu n k) k cm))) H := hP
        have hD : va_D _ ((GvC g cI n b fl me st lk cm) ++ (VvC vv cJ (insA v n k x)) ++ (NnC nn cI (upd (opa nu n k) k cm))) := hD
        have er : upd (opa nu n k) k cm = insA nu n k cm := insA_I nu n k cm
        rw [er] at hP hD
        clear er
        refine lv_aload_n hx hb dL_put_49 rfl (lv_at hl 0 rfl) ?_
        refine lv_bipush (v := nI 6) hx hb dL_put_50 (by decide) ?_
        refine lv_dup2_11 hx hb dL_put_52 rfl rfl ?_
        refine wv_iald hx hb hK hP 0 1 rfl rfl (k := 6) (by omega) (by decide) dL_put_53 ?_
        refine wv_ti (y := cm) rfl ?_
        refine lv_iconst (v := nI 1) hx hb dL_put_54 (by decide) ?_
        refine lv_iadd hx hb dL_put_55 ?_
        refine wv_iast hx hb hK hP hD hS 0 1 rfl rfl (k := 6) (by omega) (by decide) dL_put_56 (fun H locs hP hD hS => ?_)
        rw [show upd (gM n b fl me st lk cm) 6 (cm + (nI 1)) = gM n b fl me st lk (cm + (nI 1)) from gM_u6 _] at hP hD
        have hP : va_P D vwCl ((GvC g cI n b fl me st lk (cm + (nI 1))) ++ (VvC vv cJ (insA v n k x)) ++ (NnC nn cI (insA nu n k cm))) H := hP
        have hD : va_D _ ((GvC g cI n b fl me st lk (cm + (nI 1))) ++ (VvC vv cJ (insA v n k x)) ++ (NnC nn cI (insA nu n k cm))) := hD
        refine lv_aload_n hx hb dL_put_57 rfl (lv_at hl 0 rfl) ?_
        refine lv_iconst (v := nI 0) hx hb dL_put_58 (by decide) ?_
        refine lv_dup2_11 hx hb dL_put_59 rfl rfl ?_
        refine wv_iald hx hb hK hP 0 1 rfl rfl (k := 0) (by omega) (by decide) dL_put_60 ?_
        refine wv_ti (y := nI n) rfl ?_
        refine lv_iconst (v := nI 1) hx hb dL_put_61 (by decide) ?_
        refine lv_iadd hx hb dL_put_62 ?_
        refine wv_ti (nI_add _ _) ?_
        refine wv_iast hx hb hK hP hD hS 0 1 rfl rfl (k := 0) (by omega) (by decide) dL_put_63 (fun H locs hP hD hS => ?_)
        rw [show upd (gM n b fl me st lk (cm + (nI 1))) 0 (nI (n + 1)) = gM (n + 1) b fl me st lk (cm + (nI 1)) from gM_u0 _] at hP hD
        have hP : va_P D vwCl ((GvC g cI (n + 1) b fl me st lk (cm + (nI 1))) ++ (VvC vv cJ (insA v n k x)) ++ (NnC nn cI (insA nu n k cm))) H := hP
        have hD : va_D _ ((GvC g cI (n + 1) b fl me st lk (cm + (nI 1))) ++ (VvC vv cJ (insA v n k x)) ++ (NnC nn cI (insA nu n k cm))) := hD
        exact wv_vretM hx hb hr hlocks hP hD hS rfl dL_put_64
      · skip
        refine lv_aload_n hx hb dL_put_11 rfl (lv_at hl 1 rfl) ?_
        refine lv_iload hx hb dL_put_12 (lv_at hl 5 rfl) ?_
        refine lv_aload_n hx hb dL_put_14 rfl (lv_at hl 1 rfl) ?_
        refine lv_iload hx hb dL_put_15 (lv_at hl 5 rfl) ?_
        refine lv_iconst (v := nI 1) hx hb dL_put_17 (by decide) ?_
        refine lv_isub hx hb dL_put_18 ?_
        refine wv_ti (pk_sub (by omega)) ?_
        refine wv_lald hx hb hK hP 1 0 rfl rfl (k := i - 1) (by omega) (by decide) dL_put_19 ?_
        refine wv_last hx hb hK hP hD hS 1 0 rfl rfl (k := i) (by omega) (by decide) dL_put_20 (fun H locs hP hD hS => ?_)
        have hP : va_P D vwCl ((GvC g cI n b fl me st lk cm) ++ (VvC vv cJ (vp_updL (opa v n i) i ((opa v n i) (i - 1)))) ++ (NnC nn cI (opa nu n i))) H := hP
        have hD : va_D _ ((GvC g cI n b fl me st lk cm) ++ (VvC vv cJ (vp_updL (opa v n i) i ((opa v n i) (i - 1)))) ++ (NnC nn cI (opa nu n i))) := hD
        refine lv_aload_n hx hb dL_put_21 rfl (lv_at hl 2 rfl) ?_
        refine lv_iload hx hb dL_put_22 (lv_at hl 5 rfl) ?_
        refine lv_aload_n hx hb dL_put_24 rfl (lv_at hl 2 rfl) ?_
        refine lv_iload hx hb dL_put_25 (lv_at hl 5 rfl) ?_
        refine lv_iconst (v := nI 1) hx hb dL_put_27 (by decide) ?_
        refine lv_isub hx hb dL_put_28 ?_
        refine wv_ti (pk_sub (by omega)) ?_
        refine wv_iald hx hb hK hP 2 1 rfl rfl (k := i - 1) (by omega) (by decide) dL_put_29 ?_
        refine wv_iast hx hb hK hP hD hS 2 1 rfl rfl (k := i) (by omega) (by decide) dL_put_30 (fun H locs hP hD hS => ?_)
        have hP : va_P D vwCl ((GvC g cI n b fl me st lk cm) ++ (VvC vv cJ (vp_updL (opa v n i) i ((opa v n i) (i - 1)))) ++ (NnC nn cI (upd (opa nu n i) i ((opa nu n i) (i - 1))))) H := hP
        have hD : va_D _ ((GvC g cI n b fl me st lk cm) ++ (VvC vv cJ (vp_updL (opa v n i) i ((opa v n i) (i - 1)))) ++ (NnC nn cI (upd (opa nu n i) i ((opa nu n i) (i - 1))))) := hD
        refine lv_iinc (v := nI (i - 1)) (lv' := [(6, .int (nI (i - 1))), (0, .ref g), (1, .ref vv), (2, .ref nn), (3, .int (nI k)), (4, .long x)]) hx hb dL_put_31 hl (k := 5) rfl (sb_m1 (by omega)) (by decide) rfl (fun ls hl => ?_)
        refine lv_goto (tgt := 5) hx hb dL_put_34 (by decide) ?_
        have el_w1_v : opa v n (i - 1) = vp_updL (opa v n i) i ((opa v n i) (i - 1)) := by exact opa_sL v (by omega) hin
        have el_w2_nu : opa nu n (i - 1) = upd (opa nu n i) i ((opa nu n i) (i - 1)) := by exact opa_sI nu (by omega) hin
        exact ih5 (i - 1) (by omega) (by first | assumption | omega) (by first | assumption | omega) _ _ (by first | (rw [el_w2_nu, el_w1_v]; exact hP) | (simp only [el_w2_nu, el_w1_v]; exact hP) | exact hP) (by first | (rw [el_w2_nu, el_w1_v]; exact hD) | (simp only [el_w2_nu, el_w1_v]; exact hD) | exact hD) hS ls (by first | (rw [el_w2_nu, el_w1_v]; exact lv_sub hl [1, 2, 3, 4, 5, 0] rfl) | (simp only [el_w2_nu, el_w1_v]; exact lv_sub hl [1, 2, 3, 4, 5, 0] rfl) | exact lv_sub hl [1, 2, 3, 4, 5, 0] rfl)
  exact loop5 (n + 1) n (by omega) (by first | assumption | omega) (by first | assumption | omega) _ _ (by first | (rw [el_w2_nu, el_w1_v]; exact hP) | (simp only [el_w2_nu, el_w1_v]; exact hP) | exact hP) (by first | (rw [el_w2_nu, el_w1_v]; exact hD) | (simp only [el_w2_nu, el_w1_v]; exact hD) | exact hD) hS ls (by first | (rw [el_w2_nu, el_w1_v]; exact lv_sub hl [1, 2, 3, 4, 5, 0] rfl) | (simp only [el_w2_nu, el_w1_v]; exact lv_sub hl [1, 2, 3, 4, 5, 0] rfl) | exact lv_sub hl [1, 2, 3, 4, 5, 0] rfl)

set_option maxHeartbeats 4000000 in
set_option maxRecDepth 100000 in
theorem kL_search (l : Launch) (D : va_G) (g : Nat) (cI : ClassId) (n : Nat) (b : Nat) (fl : Bool) (me : Bool) (st : Int32) (lk : Int32) (cm : Int32) (vv : Nat) (cJ : ClassId) (v : Nat → Int64) (tt : Nat) (ta : Nat) (tl : Int32) (th : Int32) (x : Int64) (hn : n ≤ 32) (hb : b ≤ 31) : MMi l yL_search wsL_search ({ frames := 1, cells := 0, slots := 0, locals := 24 } : Room) [.ref g, .ref vv, .long x, .ref tt] D ((GvC g cI n b fl me st lk cm) ++ (VvC vv cJ v) ++ (TtC tt cI ta tl th)) [(cJ, .long), (cI, .int)] (oI (sr1 fl v n b x)) ((GvC g cI n b fl me st lk cm) ++ (VvC vv cJ v) ++ (TtC tt cI (sr2 fl v n b x) (sr3 fl v n b x) (sr4 fl v n b x))) := by
  refine MMi_of (cc := cL_search) (maxL := 10) (ret := some .int) (by decide +kernel) rfl (Nat.le_of_ble_eq_true rfl) ?_
  intro p e s m args below meth c hx hb hr hts hown hlocks hml hP hK hN hD ls hl
  have hown : s.vm.findClass RL = some m.cls := hown
  have hl : lv_has ls 10 [(0, .ref g), (1, .ref vv), (2, .long x), (4, .ref tt)] := hl
  have hS : va_S (va_A ((GvC g cI n b fl me st lk cm) ++ (VvC vv cJ v) ++ (TtC tt cI ta tl th)) s.heap.size) s.heap s.heap [] := va_S.rf
  have hA := wk_hA ((GvC g cI n b fl me st lk cm) ++ (VvC vv cJ v) ++ (TtC tt cI ta tl th)) s.heap.size
  have hD9 : True := trivial
  refine lv_iconst (v := nI 0) hx hb dL_search_0 (by decide) ?_
  refine lv_istore (lv' := [(5, .int (nI 0)), (0, .ref g), (1, .ref vv), (2, .long x), (4, .ref tt)]) hx hb dL_search_1 hl (by decide) rfl (fun ls hl => ?_)
  refine lv_aload_n hx hb dL_search_3 rfl (lv_at hl 1 rfl) ?_
  refine lv_iconst (v := nI 0) hx hb dL_search_4 (by decide) ?_
  refine wv_iald hx hb hK hP 0 1 rfl rfl (k := 0) (by omega) (by decide) dL_search_5 ?_
  refine wv_ti (y := nI n) rfl ?_
  refine lv_istore (lv' := [(6, .int (nI n)), (5, .int (nI 0)), (0, .ref g), (1, .ref vv), (2, .long x), (4, .ref tt)]) hx hb dL_search_6 hl (by decide) rfl (fun ls hl => ?_)
  refine lv_aload hx hb dL_search_8 (lv_at hl 5 rfl) ?_
  refine lv_iconst (v := nI 0) hx hb dL_search_10 (by decide) ?_
  refine lv_iconst (v := nI 0) hx hb dL_search_11 (by decide) ?_
  refine wv_iast hx hb hK hP hD hS 2 1 rfl rfl (k := 0) (by omega) (by decide) dL_search_12 (fun H locs hP hD hS => ?_)
  rw [show upd (tM ta tl th) 0 (nI 0) = tM 0 tl th from tM_u0 _] at hP hD
  have hP : va_P D vwCl ((GvC g cI n b fl me st lk cm) ++ (VvC vv cJ v) ++ (TtC tt cI 0 tl th)) H := hP
  have hD : va_D _ ((GvC g cI n b fl me st lk cm) ++ (VvC vv cJ v) ++ (TtC tt cI 0 tl th)) := hD
  refine lv_aload hx hb dL_search_13 (lv_at hl 5 rfl) ?_
  refine lv_iconst (v := nI 1) hx hb dL_search_15 (by decide) ?_
  refine lv_sipush (v := (-1000)) hx hb dL_search_16 (by decide) ?_
  refine wv_iast hx hb hK hP hD hS 2 1 rfl rfl (k := 1) (by omega) (by decide) dL_search_19 (fun H locs hP hD hS => ?_)
  rw [show upd (tM 0 tl th) 1 (-1000) = tM 0 (-1000) th from tM_u1 _] at hP hD
  have hP : va_P D vwCl ((GvC g cI n b fl me st lk cm) ++ (VvC vv cJ v) ++ (TtC tt cI 0 (-1000) th)) H := hP
  have hD : va_D _ ((GvC g cI n b fl me st lk cm) ++ (VvC vv cJ v) ++ (TtC tt cI 0 (-1000) th)) := hD
  refine lv_aload hx hb dL_search_20 (lv_at hl 5 rfl) ?_
  refine lv_iconst (v := nI 2) hx hb dL_search_22 (by decide) ?_
  refine lv_sipush (v := (-1000)) hx hb dL_search_23 (by decide) ?_
  refine wv_iast hx hb hK hP hD hS 2 1 rfl rfl (k := 2) (by omega) (by decide) dL_search_26 (fun H locs hP hD hS => ?_)
  rw [show upd (tM 0 (-1000) th) 2 (-1000) = tM 0 (-1000) (-1000) from tM_u2 _] at hP hD
  have hP : va_P D vwCl ((GvC g cI n b fl me st lk cm) ++ (VvC vv cJ v) ++ (TtC tt cI 0 (-1000) (-1000))) H := hP
  have hD : va_D _ ((GvC g cI n b fl me st lk cm) ++ (VvC vv cJ v) ++ (TtC tt cI 0 (-1000) (-1000))) := hD
  have loop27 : ∀ (K : Nat) (lo : Nat) (hi : Nat) (gg : Nat), hi - lo < K → lo ≤ hi → hi ≤ n → gg + (hi - lo) ≤ 32 → (srR fl v n b x).1 = (srw fl v (2 * b) x (32 - gg) lo hi).1 → (srR fl v n b x).2.1 = gg + (srw fl v (2 * b) x (32 - gg) lo hi).2.1 → (srR fl v n b x).2.2 = (srw fl v (2 * b) x (32 - gg) lo hi).2.2 → ∀ (H : Heap) (locs : List Loc), va_P D vwCl ((GvC g cI n b fl me st lk cm) ++ (VvC vv cJ v) ++ (TtC tt cI gg (-1000) (-1000))) H → va_D (va_A ((GvC g cI n b fl me st lk cm) ++ (VvC vv cJ v) ++ (TtC tt cI ta tl th)) s.heap.size) ((GvC g cI n b fl me st lk cm) ++ (VvC vv cJ v) ++ (TtC tt cI gg (-1000) (-1000))) → va_S (va_A ((GvC g cI n b fl me st lk cm) ++ (VvC vv cJ v) ++ (TtC tt cI ta tl th)) s.heap.size) s.heap H locs → ∀ ls : Array Slot, lv_has ls 10 [(0, .ref g), (1, .ref vv), (2, .long x), (4, .ref tt), (5, .int (nI lo)), (6, .int (nI hi))] → W p l e ({ frames := 1, cells := 0, slots := 0, locals := 24 } : Room) s m args below meth c H locs 0 0 (ZMi below args s D ((GvC g cI n b fl me st lk cm) ++ (VvC vv cJ v) ++ (TtC tt cI ta tl th)) (oI (sr1 fl v n b x)) ((GvC g cI n b fl me st lk cm) ++ (VvC vv cJ v) ++ (TtC tt cI (sr2 fl v n b x) (sr3 fl v n b x) (sr4 fl v n b x)))) (F0 m 27 ls []) := by
    intro K
    induction K with
    | zero => intro lo hi gg hK0; exact absurd hK0 (Nat.not_lt_zero _)
    | succ K ih27 =>
      intro lo hi gg hKm h1 h2 h3 hr1 hr2 hr3 H locs hP hD hS ls hl
      refine lv_iload hx hb dL_search_27 (lv_at hl 5 rfl) ?_
      refine lv_iload hx hb dL_search_29 (lv_at hl 4 rfl) ?_
      refine lv_isub hx hb dL_search_31 ?_
      refine wv_ti (pk_sub (by omega)) ?_
      refine lv_iconst (v := nI 4) hx hb dL_search_32 (by decide) ?_
      refine lv_aload_n hx hb dL_search_33 rfl (lv_at hl 0 rfl) ?_
      refine lv_iconst (v := nI 1) hx hb dL_search_34 (by decide) ?_
      refine wv_iald hx hb hK hP 0 1 rfl rfl (k := 1) (by omega) (by decide) dL_search_35 ?_
      refine wv_ti (y := nI b) rfl ?_
      refine lv_imul hx hb dL_search_36 ?_
      refine wv_ti (pk_mul _ _) ?_
      refine lv_iconst (v := nI 2) hx hb dL_search_37 (by decide) ?_
      refine lv_iadd hx hb dL_search_38 ?_
      refine wv_ti (nI_add _ _) ?_
      refine wv_icmp_le (tgt := 158) hx hb (by omega) (by omega) dL_search_39 (by decide) (fun c39 => ?_) (fun c39 => ?_)
      · skip
        have hst : (srw fl v (2 * b) x (32 - gg) lo hi) = (none, 0, lo, hi) := srw_stop (by omega)
        have hr9 : (srR fl v n b x).1 = none := by rw [hr1, hst]
        have hl1 : (srR fl v n b x).2.2.1 = lo := by rw [hr3, hst]
        have hl2 : (srR fl v n b x).2.2.2 = hi := by rw [hr3, hst]
        have hg9 : (srR fl v n b x).2.1 = gg := by rw [hr2, hst]; rfl
        have hO : srO fl v n b x = fnr (eqp v x) lo (hi - lo) := by unfold srO; rw [hl1, hl2]
        refine lv_aload hx hb dL_search_158 (lv_at hl 3 rfl) ?_
        refine lv_iconst (v := nI 1) hx hb dL_search_160 (by decide) ?_
        refine lv_iload hx hb dL_search_161 (lv_at hl 4 rfl) ?_
        refine wv_iast hx hb hK hP hD hS 2 1 rfl rfl (k := 1) (by omega) (by decide) dL_search_163 (fun H locs hP hD hS => ?_)
        rw [show upd (tM gg (-1000) (-1000)) 1 (nI lo) = tM gg (nI lo) (-1000) from tM_u1 _] at hP hD
        have hP : va_P D vwCl ((GvC g cI n b fl me st lk cm) ++ (VvC vv cJ v) ++ (TtC tt cI gg (nI lo) (-1000))) H := hP
        have hD : va_D _ ((GvC g cI n b fl me st lk cm) ++ (VvC vv cJ v) ++ (TtC tt cI gg (nI lo) (-1000))) := hD
        refine lv_aload hx hb dL_search_164 (lv_at hl 3 rfl) ?_
        refine lv_iconst (v := nI 2) hx hb dL_search_166 (by decide) ?_
        refine lv_iload hx hb dL_search_167 (lv_at hl 5 rfl) ?_
        refine wv_iast hx hb hK hP hD hS 2 1 rfl rfl (k := 2) (by omega) (by decide) dL_search_169 (fun H locs hP hD hS => ?_)
        rw [show upd (tM gg (nI lo) (-1000)) 2 (nI hi) = tM gg (nI lo) (nI hi) from tM_u2 _] at hP hD
        have hP : va_P D vwCl ((GvC g cI n b fl me st lk cm) ++ (VvC vv cJ v) ++ (TtC tt cI gg (nI lo) (nI hi))) H := hP
        have hD : va_D _ ((GvC g cI n b fl me st lk cm) ++ (VvC vv cJ v) ++ (TtC tt cI gg (nI lo) (nI hi))) := hD
        have el_w2_ta : gg + (lo - lo) = gg := by omega
        have loop170 : ∀ (K : Nat) (j : Nat), hi - j < K → lo ≤ j → j ≤ hi → fnr (eqp v x) lo (hi - lo) = fnr (eqp v x) j (hi - j) → ∀ (H : Heap) (locs : List Loc), va_P D vwCl ((GvC g cI n b fl me st lk cm) ++ (VvC vv cJ v) ++ (TtC tt cI (gg + (j - lo)) (nI lo) (nI hi))) H → va_D (va_A ((GvC g cI n b fl me st lk cm) ++ (VvC vv cJ v) ++ (TtC tt cI ta tl th)) s.heap.size) ((GvC g cI n b fl me st lk cm) ++ (VvC vv cJ v) ++ (TtC tt cI (gg + (j - lo)) (nI lo) (nI hi))) → va_S (va_A ((GvC g cI n b fl me st lk cm) ++ (VvC vv cJ v) ++ (TtC tt cI ta tl th)) s.heap.size) s.heap H locs → ∀ ls : Array Slot, lv_has ls 10 [(0, .ref g), (1, .ref vv), (2, .long x), (4, .ref tt), (5, .int (nI j)), (6, .int (nI hi))] → W p l e ({ frames := 1, cells := 0, slots := 0, locals := 24 } : Room) s m args below meth c H locs 0 0 (ZMi below args s D ((GvC g cI n b fl me st lk cm) ++ (VvC vv cJ v) ++ (TtC tt cI ta tl th)) (oI (sr1 fl v n b x)) ((GvC g cI n b fl me st lk cm) ++ (VvC vv cJ v) ++ (TtC tt cI (sr2 fl v n b x) (sr3 fl v n b x) (sr4 fl v n b x)))) (F0 m 170 ls []) := by
          intro K
          induction K with
          | zero => intro j hK0; exact absurd hK0 (Nat.not_lt_zero _)
          | succ K ih170 =>
            intro j hKm hj hj2 hf H locs hP hD hS ls hl
            refine lv_iload hx hb dL_search_170 (lv_at hl 4 rfl) ?_
            refine lv_iload hx hb dL_search_172 (lv_at hl 5 rfl) ?_
            refine wv_icmp_ge (tgt := 203) hx hb (by omega) (by omega) dL_search_174 (by decide) (fun c174 => ?_) (fun c174 => ?_)
            · skip
              have hst2 : fnr (eqp v x) lo (hi - lo) = none := by rw [hf, show hi - j = 0 by omega]; rfl
              refine lv_sipush (v := (-1000)) hx hb dL_search_203 (by decide) ?_
              have ew2_ta : sr2 fl v n b x = gg + (j - lo) := by rw [sr2_n hr9, hO, hst2, hg9, hl1, hl2]; show gg + _ = _; unfold olk; dsimp only; omega
              have ew2_tl : sr3 fl v n b x = nI lo := by rw [sr3_n hr9, hl1]
              have ew2_th : sr4 fl v n b x = nI hi := by rw [sr4_n hr9, hl2]
              exact wv_iretM hx hb hr hlocks hP hD hS (by rw [sr1_n hr9, hO, hst2]; rfl) (by rw [ew2_ta, ew2_th, ew2_tl]) dL_search_206
            · skip
              have hs2 : hi - j = (hi - (j + 1)) + 1 := by omega
              refine lv_aload hx hb dL_search_177 (lv_at hl 3 rfl) ?_
              refine lv_iconst (v := nI 0) hx hb dL_search_179 (by decide) ?_
              refine lv_dup2_11 hx hb dL_search_180 rfl rfl ?_
              refine wv_iald hx hb hK hP 2 1 rfl rfl (k := 0) (by omega) (by decide) dL_search_181 ?_
              refine wv_ti (y := nI (gg + (j - lo))) rfl ?_
              refine lv_iconst (v := nI 1) hx hb dL_search_182 (by decide) ?_
              refine lv_iadd hx hb dL_search_183 ?_
              refine wv_ti (nI_add _ _) ?_
              refine wv_iast hx hb hK hP hD hS 2 1 rfl rfl (k := 0) (by omega) (by decide) dL_search_184 (fun H locs hP hD hS => ?_)
              rw [show upd (tM (gg + (j - lo)) (nI lo) (nI hi)) 0 (nI ((gg + (j - lo)) + 1)) = tM ((gg + (j - lo)) + 1) (nI lo) (nI hi) from tM_u0 _] at hP hD
              have hP : va_P D vwCl ((GvC g cI n b fl me st lk cm) ++ (VvC vv cJ v) ++ (TtC tt cI ((gg + (j - lo)) + 1) (nI lo) (nI hi))) H := hP
              have hD : va_D _ ((GvC g cI n b fl me st lk cm) ++ (VvC vv cJ v) ++ (TtC tt cI ((gg + (j - lo)) + 1) (nI lo) (nI hi))) := hD
              refine lv_aload_n hx hb dL_search_185 rfl (lv_at hl 1 rfl) ?_
              refine lv_iload hx hb dL_search_186 (lv_at hl 4 rfl) ?_
              refine wv_lald hx hb hK hP 1 0 rfl rfl (k := j) (by omega) (by decide) dL_search_188 ?_
              refine lv_lload_n hx hb dL_search_189 rfl (lv_at hl 2 rfl) ?_
              refine wv_lc_ne (tgt := 197) hx hb dL_search_190 dL_search_191 (by decide) (fun c191 => ?_) (fun c191 => ?_)
              · skip
                refine lv_iinc (v := nI (j + 1)) (lv' := [(5, .int (nI (j + 1))), (0, .ref g), (1, .ref vv), (2, .long x), (4, .ref tt), (6, .int (nI hi))]) hx hb dL_search_197 hl (k := 4) rfl (nI_1 _) (by decide) rfl (fun ls hl => ?_)
                refine lv_goto (tgt := 170) hx hb dL_search_200 (by decide) ?_
                have el_w2_ta : gg + ((j + 1) - lo) = (gg + (j - lo)) + 1 := by omega
                exact ih170 (j + 1) (by omega) (by first | assumption | omega) (by first | assumption | omega) (by rw [hf, hs2, fnr_s, if_neg (by unfold eqp; rw [decide_eq_false c191]; decide)]) _ _ (by first | (rw [el_w2_ta]; exact hP) | (simp only [el_w2_ta]; exact hP) | exact hP) (by first | (rw [el_w2_ta]; exact hD) | (simp only [el_w2_ta]; exact hD) | exact hD) hS ls (by first | (rw [el_w2_ta]; exact lv_sub hl [1, 2, 3, 4, 0, 5] rfl) | (simp only [el_w2_ta]; exact lv_sub hl [1, 2, 3, 4, 0, 5] rfl) | exact lv_sub hl [1, 2, 3, 4, 0, 5] rfl)
              · skip
                have hst2 : fnr (eqp v x) lo (hi - lo) = some j := by rw [hf, hs2, fnr_s, if_pos (by unfold eqp; exact decide_eq_true c191)]
                refine lv_iload hx hb dL_search_194 (lv_at hl 4 rfl) ?_
                have ew2_ta : sr2 fl v n b x = (gg + (j - lo)) + 1 := by rw [sr2_n hr9, hO, hst2, hg9, hl1, hl2]; show gg + _ = _; unfold olk; dsimp only; omega
                have ew2_tl : sr3 fl v n b x = nI lo := by rw [sr3_n hr9, hl1]
                have ew2_th : sr4 fl v n b x = nI hi := by rw [sr4_n hr9, hl2]
                exact wv_iretM hx hb hr hlocks hP hD hS (by rw [sr1_n hr9, hO, hst2]; rfl) (by rw [ew2_ta, ew2_th, ew2_tl]) dL_search_196
        exact loop170 (hi - lo + 1) lo (by omega) (by first | assumption | omega) (by first | assumption | omega) (by rfl) _ _ (by first | (rw [el_w2_ta]; exact hP) | (simp only [el_w2_ta]; exact hP) | exact hP) (by first | (rw [el_w2_ta]; exact hD) | (simp only [el_w2_ta]; exact hD) | exact hD) hS ls (by first | (rw [el_w2_ta]; exact lv_sub hl [0, 1, 2, 3, 4, 5] rfl) | (simp only [el_w2_ta]; exact lv_sub hl [0, 1, 2, 3, 4, 5] rfl) | exact lv_sub hl [0, 1, 2, 3, 4, 5] rfl)
      · skip
        have hw2 : ¬ hi - lo ≤ 2 * (2 * b) + 2 := by omega
        have hs : 32 - gg = (32 - (gg + 1)) + 1 := by omega
        refine lv_iload hx hb dL_search_42 (lv_at hl 4 rfl) ?_
        refine lv_iload hx hb dL_search_44 (lv_at hl 5 rfl) ?_
        refine lv_iload hx hb dL_search_46 (lv_at hl 4 rfl) ?_
        refine lv_isub hx hb dL_search_48 ?_
        refine wv_ti (pk_sub (by omega)) ?_
        refine lv_iconst (v := nI 2) hx hb dL_search_49 (by decide) ?_
        refine lv_idiv hx hb dL_search_50 (by decide) ?_
        refine wv_ti (pk_div (by omega) (by omega) (by omega)) ?_
        refine lv_iadd hx hb dL_search_51 ?_
        refine wv_ti (nI_add _ _) ?_
        refine wv_ti (y := nI ((lo + hi) / 2)) (congrArg nI (by omega)) ?_
        refine lv_istore (lv' := [(7, .int (nI ((lo + hi) / 2))), (0, .ref g), (1, .ref vv), (2, .long x), (4, .ref tt), (5, .int (nI lo)), (6, .int (nI hi))]) hx hb dL_search_52 hl (by decide) rfl (fun ls hl => ?_)
        refine lv_aload hx hb dL_search_54 (lv_at hl 4 rfl) ?_
        refine lv_iconst (v := nI 0) hx hb dL_search_56 (by decide) ?_
        refine lv_dup2_11 hx hb dL_search_57 rfl rfl ?_
        refine wv_iald hx hb hK hP 2 1 rfl rfl (k := 0) (by omega) (by decide) dL_search_58 ?_
        refine wv_ti (y := nI gg) rfl ?_
        refine lv_iconst (v := nI 1) hx hb dL_search_59 (by decide) ?_
        refine lv_iadd hx hb dL_search_60 ?_
        refine wv_ti (nI_add _ _) ?_
        refine wv_iast hx hb hK hP hD hS 2 1 rfl rfl (k := 0) (by omega) (by decide) dL_search_61 (fun H locs hP hD hS => ?_)
        rw [show upd (tM gg (-1000) (-1000)) 0 (nI (gg + 1)) = tM (gg + 1) (-1000) (-1000) from tM_u0 _] at hP hD
        have hP : va_P D vwCl ((GvC g cI n b fl me st lk cm) ++ (VvC vv cJ v) ++ (TtC tt cI (gg + 1) (-1000) (-1000))) H := hP
        have hD : va_D _ ((GvC g cI n b fl me st lk cm) ++ (VvC vv cJ v) ++ (TtC tt cI (gg + 1) (-1000) (-1000))) := hD
        refine lv_aload_n hx hb dL_search_62 rfl (lv_at hl 2 rfl) ?_
        refine lv_iload hx hb dL_search_63 (lv_at hl 0 rfl) ?_
        refine wv_lald hx hb hK hP 1 0 rfl rfl (k := (lo + hi) / 2) (by omega) (by decide) dL_search_65 ?_
        refine lv_lload_n hx hb dL_search_66 rfl (lv_at hl 3 rfl) ?_
        refine wv_lc_ne (tgt := 74) hx hb dL_search_67 dL_search_68 (by decide) (fun c68 => ?_) (fun c68 => ?_)
        · skip
          refine lv_aload_n hx hb dL_search_74 rfl (lv_at hl 1 rfl) ?_
          refine lv_aload_n hx hb dL_search_75 rfl (lv_at hl 2 rfl) ?_
          refine lv_iload hx hb dL_search_76 (lv_at hl 0 rfl) ?_
          refine wv_lald hx hb hK hP 1 0 rfl rfl (k := (lo + hi) / 2) (by omega) (by decide) dL_search_78 ?_
          refine lv_lload_n hx hb dL_search_79 rfl (lv_at hl 3 rfl) ?_
          refine wv_callSi (As := [.ref g, .long (v ((lo + hi) / 2)), .long x]) (rest := []) ⟨hx, hb, hml, hown, hts⟩ (kL_ahead l D g cI n b fl me st lk cm (v ((lo + hi) / 2)) x) (va_cwS 3 hts gL_search_L_ahead rfl rfl rfl (by decide +kernel) ⟨Nat.le_of_ble_eq_true rfl, Nat.le_of_ble_eq_true rfl⟩) hK hN hP hS hA [0] [1] rfl rfl rfl hl.1 rfl (Nat.le_of_ble_eq_true rfl) dL_search_80 ⟨Nat.zero_le _, Nat.zero_le _⟩ (fun H locs hz9 hP hS => ?_)
          refine lv_istore (lv' := [(8, .int (bI (ahd fl (v ((lo + hi) / 2)) x))), (7, .int (nI ((lo + hi) / 2))), (0, .ref g), (1, .ref vv), (2, .long x), (4, .ref tt), (5, .int (nI lo)), (6, .int (nI hi))]) hx hb dL_search_83 hl (by decide) rfl (fun ls hl => ?_)
          refine lv_iload hx hb dL_search_85 (lv_at hl 0 rfl) ?_
          refine wv_ifeqB (tgt := 101) hx hb dL_search_87 (by decide) (fun c87 => ?_) (fun c87 => ?_)
          · skip
            refine lv_iload hx hb dL_search_101 (lv_at hl 1 rfl) ?_
            refine lv_iconst (v := nI 2) hx hb dL_search_103 (by decide) ?_
            refine lv_aload_n hx hb dL_search_104 rfl (lv_at hl 2 rfl) ?_
            refine lv_iconst (v := nI 1) hx hb dL_search_105 (by decide) ?_
            refine wv_iald hx hb hK hP 0 1 rfl rfl (k := 1) (by omega) (by decide) dL_search_106 ?_
            refine wv_ti (y := nI b) rfl ?_
            refine lv_imul hx hb dL_search_107 ?_
            refine wv_ti (pk_mul _ _) ?_
            refine lv_iadd hx hb dL_search_108 ?_
            refine wv_ti (nI_add _ _) ?_
            refine lv_iconst (v := nI 1) hx hb dL_search_109 (by decide) ?_
            refine lv_iadd hx hb dL_search_110 ?_
            refine wv_ti (nI_add _ _) ?_
            refine lv_istore (lv' := [(9, .int (nI ((((lo + hi) / 2) + (2 * b)) + 1))), (8, .int (bI (ahd fl (v ((lo + hi) / 2)) x))), (7, .int (nI ((lo + hi) / 2))), (0, .ref g), (1, .ref vv), (2, .long x), (4, .ref tt), (5, .int (nI lo)), (6, .int (nI hi))]) hx hb dL_search_111 hl (by decide) rfl (fun ls hl => ?_)
            refine lv_iload hx hb dL_search_113 (lv_at hl 1 rfl) ?_
            refine wv_ifeqB (tgt := 130) hx hb dL_search_115 (by decide) (fun c115 => ?_) (fun c115 => by exfalso; rw [c87] at c115; cases c115)
            refine lv_iload hx hb dL_search_130 (lv_at hl 7 rfl) ?_
            refine lv_istore (lv' := [(5, .int (nI lo)), (9, .int (nI ((((lo + hi) / 2) + (2 * b)) + 1))), (8, .int (bI (ahd fl (v ((lo + hi) / 2)) x))), (7, .int (nI ((lo + hi) / 2))), (0, .ref g), (1, .ref vv), (2, .long x), (4, .ref tt), (6, .int (nI hi))]) hx hb dL_search_132 hl (by decide) rfl (fun ls hl => ?_)
            refine lv_iload hx hb dL_search_134 (lv_at hl 2 rfl) ?_
            refine wv_ifneB (tgt := 151) hx hb dL_search_136 (by decide) (fun c136 => by exfalso; rw [c87] at c136; cases c136) (fun c136 => ?_)
            refine lv_iload hx hb dL_search_139 (lv_at hl 1 rfl) ?_
            refine lv_iload hx hb dL_search_141 (lv_at hl 8 rfl) ?_
            refine wv_icmp_ge (tgt := 151) hx hb (by omega) (by omega) dL_search_143 (by decide) (fun c143 => by exfalso; omega) (fun c143 => ?_)
            refine lv_iload hx hb dL_search_146 (lv_at hl 1 rfl) ?_
            refine lv_goto (tgt := 153) hx hb dL_search_148 (by decide) ?_
            refine lv_istore (lv' := [(6, .int (nI ((((lo + hi) / 2) + (2 * b)) + 1))), (5, .int (nI lo)), (9, .int (nI ((((lo + hi) / 2) + (2 * b)) + 1))), (8, .int (bI (ahd fl (v ((lo + hi) / 2)) x))), (7, .int (nI ((lo + hi) / 2))), (0, .ref g), (1, .ref vv), (2, .long x), (4, .ref tt)]) hx hb dL_search_153 hl (by decide) rfl (fun ls hl => ?_)
            refine lv_goto (tgt := 27) hx hb dL_search_155 (by decide) ?_
            exact ih27 lo ((((lo + hi) / 2) + (2 * b)) + 1) (gg + 1) (by omega) (by first | assumption | omega) (by first | assumption | omega) (by first | assumption | omega) (by first | rw [hr1, hs, srw_up hw2 c68 c87] | rw [hr1, hs, srw_dn hw2 c68 c87]) (by first | (rw [hr2, hs, srw_up hw2 c68 c87]; show gg + (_ + 1) = _; omega) | (rw [hr2, hs, srw_dn hw2 c68 c87]; show gg + (_ + 1) = _; omega)) (by first | rw [hr3, hs, srw_up hw2 c68 c87] | rw [hr3, hs, srw_dn hw2 c68 c87]) _ _ hP hD hS ls (lv_sub hl [5, 6, 7, 8, 1, 0] rfl)
          · skip
            refine lv_iload hx hb dL_search_90 (lv_at hl 1 rfl) ?_
            refine lv_iconst (v := nI 2) hx hb dL_search_92 (by decide) ?_
            refine lv_aload_n hx hb dL_search_93 rfl (lv_at hl 2 rfl) ?_
            refine lv_iconst (v := nI 1) hx hb dL_search_94 (by decide) ?_
            refine wv_iald hx hb hK hP 0 1 rfl rfl (k := 1) (by omega) (by decide) dL_search_95 ?_
            refine wv_ti (y := nI b) rfl ?_
            refine lv_imul hx hb dL_search_96 ?_
            refine wv_ti (pk_mul _ _) ?_
            refine lv_isub hx hb dL_search_97 ?_
            refine wv_ti (pk_sub (by omega)) ?_
            refine lv_goto (tgt := 111) hx hb dL_search_98 (by decide) ?_
            refine lv_istore (lv' := [(9, .int (nI (((lo + hi) / 2) - (2 * b)))), (8, .int (bI (ahd fl (v ((lo + hi) / 2)) x))), (7, .int (nI ((lo + hi) / 2))), (0, .ref g), (1, .ref vv), (2, .long x), (4, .ref tt), (5, .int (nI lo)), (6, .int (nI hi))]) hx hb dL_search_111 hl (by decide) rfl (fun ls hl => ?_)
            refine lv_iload hx hb dL_search_113 (lv_at hl 1 rfl) ?_
            refine wv_ifeqB (tgt := 130) hx hb dL_search_115 (by decide) (fun c115 => by exfalso; rw [c87] at c115; cases c115) (fun c115 => ?_)
            refine lv_iload hx hb dL_search_118 (lv_at hl 0 rfl) ?_
            refine lv_iload hx hb dL_search_120 (lv_at hl 7 rfl) ?_
            refine wv_icmp_le (tgt := 130) hx hb (by omega) (by omega) dL_search_122 (by decide) (fun c122 => by exfalso; omega) (fun c122 => ?_)
            refine lv_iload hx hb dL_search_125 (lv_at hl 0 rfl) ?_
            refine lv_goto (tgt := 132) hx hb dL_search_127 (by decide) ?_
            refine lv_istore (lv' := [(5, .int (nI (((lo + hi) / 2) - (2 * b)))), (9, .int (nI (((lo + hi) / 2) - (2 * b)))), (8, .int (bI (ahd fl (v ((lo + hi) / 2)) x))), (7, .int (nI ((lo + hi) / 2))), (0, .ref g), (1, .ref vv), (2, .long x), (4, .ref tt), (6, .int (nI hi))]) hx hb dL_search_132 hl (by decide) rfl (fun ls hl => ?_)
            refine lv_iload hx hb dL_search_134 (lv_at hl 2 rfl) ?_
            refine wv_ifneB (tgt := 151) hx hb dL_search_136 (by decide) (fun c136 => ?_) (fun c136 => by exfalso; rw [c87] at c136; cases c136)
            refine lv_iload hx hb dL_search_151 (lv_at hl 8 rfl) ?_
            refine lv_istore (lv' := [(6, .int (nI hi)), (5, .int (nI (((lo + hi) / 2) - (2 * b)))), (9, .int (nI (((lo + hi) / 2) - (2 * b)))), (8, .int (bI (ahd fl (v ((lo + hi) / 2)) x))), (7, .int (nI ((lo + hi) / 2))), (0, .ref g), (1, .ref vv), (2, .long x), (4, .ref tt)]) hx hb dL_search_153 hl (by decide) rfl (fun ls hl => ?_)
            refine lv_goto (tgt := 27) hx hb dL_search_155 (by decide) ?_
            exact ih27 (((lo + hi) / 2) - (2 * b)) hi (gg + 1) (by omega) (by first | assumption | omega) (by first | assumption | omega) (by first | assumption | omega) (by first | rw [hr1, hs, srw_up hw2 c68 c87] | rw [hr1, hs, srw_dn hw2 c68 c87]) (by first | (rw [hr2, hs, srw_up hw2 c68 c87]; show gg + (_ + 1) = _; omega) | (rw [hr2, hs, srw_dn hw2 c68 c87]; show gg + (_ + 1) = _; omega)) (by first | rw [hr3, hs, srw_up hw2 c68 c87] | rw [hr3, hs, srw_dn hw2 c68 c87]) _ _ hP hD hS ls (lv_sub hl [5, 6, 7, 8, 1, 0] rfl)
        · skip
          have hst : (srw fl v (2 * b) x (32 - gg) lo hi) = (some ((lo + hi) / 2), 1, lo, hi) := by rw [hs]; exact srw_hit hw2 c68
          have hr9 : (srR fl v n b x).1 = some ((lo + hi) / 2) := by rw [hr1, hst]
          refine lv_iload hx hb dL_search_71 (lv_at hl 0 rfl) ?_
          have ew2_ta : sr2 fl v n b x = gg + 1 := by first | (rw [sr2_s hr9, hr2, hst]; done) | (rw [sr2_s hr9, hr2, hst]; rfl)
          have ew2_tl : sr3 fl v n b x = (-1000) := by rw [sr3_s hr9]
          have ew2_th : sr4 fl v n b x = (-1000) := by rw [sr4_s hr9]
          exact wv_iretM hx hb hr hlocks hP hD hS (by rw [sr1_s hr9]; rfl) (by rw [ew2_ta, ew2_th, ew2_tl]) dL_search_73
  exact loop27 (n - 0 + 1) 0 n 0 (by omega) (by first | assumption | omega) (by first | assumption | omega) (by first | assumption | omega) (by rfl) (by rw [Nat.zero_add]; rfl) (by rfl) _ _ hP hD hS ls (lv_sub hl [2, 3, 4, 5, 1, 0] rfl)
