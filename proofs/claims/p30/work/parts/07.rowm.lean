/-! The methods of a row that change it. -/
set_option maxHeartbeats 4000000 in
set_option maxRecDepth 100000 in
theorem kX3_refreshRanks (l : Launch) (D : va_G) (r : Nat) (va : Nat) (na : Nat) (ra : Nat) (cJ : ClassId) (cI : ClassId) (v : Nat → Int64) (nu : Nat → Int32) (rk : Nat → Int32) (n : Nat) (b : Nat) (fl : Bool) (me : Bool) (st : Int32) (lk : Int32) (cm : Int32) (hn : n ≤ 32) : MMv l yX3_refreshRanks wsX3_refreshRanks ({ frames := 2, cells := 0, slots := 0, locals := 48 } : Room) [.ref r] D (RowC r va na ra cJ cI v nu rk n b fl me st lk cm) [(cJ, .long), (cI, .int)] (RowC r va na ra cJ cI v nu (rfr fl v n rk n) n b fl me st lk cm) := by
  refine MMv_of (cc := cX3_refreshRanks) (maxL := 2) (ret := none) (by decide +kernel) rfl (Nat.le_of_ble_eq_true rfl) ?_
  intro p e s m args below meth c hx hb hr hts hown hlocks hml hP hK hN hD ls hl
  have hown : s.vm.findClass RX3 = some m.cls := hown
  have hl : lv_has ls 2 [(0, .ref r)] := hl
  have hS : va_S (va_A (RowC r va na ra cJ cI v nu rk n b fl me st lk cm) s.heap.size) s.heap s.heap [] := va_S.rf
  have hA := wk_hA (RowC r va na ra cJ cI v nu rk n b fl me st lk cm) s.heap.size
  have hD9 : True := trivial
  have hinX3 : ∀ w ∈ wsX30, w ∈ wsX3_refreshRanks := by decide +kernel
  refine lv_iconst (v := nI 0) hx hb dX3_refreshRanks_0 (by decide) ?_
  refine lv_istore_n (lv' := [(1, .int (nI 0)), (0, .ref r)]) hx hb dX3_refreshRanks_1 rfl hl (by decide) rfl (fun ls hl => ?_)
  have el_w0_rk : rfr fl v n rk 0 = rk := by exact rfr_0 fl v n rk
  have loop2 : ∀ (K : Nat) (i : Nat), n - i < K → i ≤ n → ∀ (H : Heap) (locs : List Loc), va_P D vwCl (RowC r va na ra cJ cI v nu (rfr fl v n rk i) n b fl me st lk cm) H → va_D (va_A (RowC r va na ra cJ cI v nu rk n b fl me st lk cm) s.heap.size) (RowC r va na ra cJ cI v nu (rfr fl v n rk i) n b fl me st lk cm) → va_S (va_A (RowC r va na ra cJ cI v nu rk n b fl me st lk cm) s.heap.size) s.heap H locs → ∀ ls : Array Slot, lv_has ls 2 [(0, .ref r), (1, .int (nI i))] → W p l e ({ frames := 2, cells := 0, slots := 0, locals := 48 } : Room) s m args below meth c H locs 0 0 (ZMv below args s D (RowC r va na ra cJ cI v nu rk n b fl me st lk cm) (RowC r va na ra cJ cI v nu (rfr fl v n rk n) n b fl me st lk cm)) (F0 m 2 ls []) := by
    intro K
    induction K with
    | zero => intro i hK0; exact absurd hK0 (Nat.not_lt_zero _)
    | succ K ih2 =>
      intro i hKm hi H locs hP hD hS ls hl
      refine lv_iload_n hx hb dX3_refreshRanks_2 rfl (lv_at hl 1 rfl) ?_
      refine lv_aload_n hx hb dX3_refreshRanks_3 rfl (lv_at hl 0 rfl) ?_
      refine va_get (D := D) (ci := 2) (C := RX3) (T := TX3) (N := 10) hx hb hts hinX3 hown hK hP 0 rfl rfl 3 (by decide) (hts (.fieldLink RX3 32 "NearRanks$Row" "size" "I") (by decide +kernel)) (fun _ h9 => h9) rfl dX3_refreshRanks_4 ?_
      refine wv_icmp_ge (tgt := 27) hx hb (by omega) (by omega) dX3_refreshRanks_7 (by decide) (fun c7 => ?_) (fun c7 => ?_)
      · skip
        have ew0_rk : rfr fl v n rk n = rfr fl v n rk i := by rw [show i = n by omega]
        exact wv_vretM hx hb hr hlocks hP hD hS (by rw [ew0_rk]) dX3_refreshRanks_27
      · skip
        refine lv_aload_n hx hb dX3_refreshRanks_10 rfl (lv_at hl 0 rfl) ?_
        refine va_get (D := D) (ci := 2) (C := RX3) (T := TX3) (N := 10) hx hb hts hinX3 hown hK hP 0 rfl rfl 2 (by decide) (hts (.fieldLink RX3 19 "NearRanks$Row" "ranks" "[I") (by decide +kernel)) (fun _ h9 => h9) rfl dX3_refreshRanks_11 ?_
        refine lv_iload_n hx hb dX3_refreshRanks_14 rfl (lv_at hl 1 rfl) ?_
        refine lv_aload_n hx hb dX3_refreshRanks_15 rfl (lv_at hl 0 rfl) ?_
        refine lv_iload_n hx hb dX3_refreshRanks_16 rfl (lv_at hl 1 rfl) ?_
        refine wv_callPi (As := [.int (nI i)]) (rest := [.int (nI i), .ref ra]) ⟨hx, hb, hml, hown, hts⟩ (kX3_countRank l D r va na ra cJ cI v nu (rfr fl v n rk i) n b fl me st lk cm i (by first | assumption | omega) (by first | assumption | omega)) (cwV 1 hts gX3_refreshRanks_X3_countRank rfl rfl rfl (by decide +kernel) ⟨Nat.le_of_ble_eq_true rfl, Nat.le_of_ble_eq_true rfl⟩) hK hN hP hS hA [0, 1, 2, 3] [0, 1] rfl rfl 0 2 rfl rfl rfl rfl hl.1 rfl (Nat.le_of_ble_eq_true rfl) dX3_refreshRanks_17 ⟨Nat.zero_le _, Nat.zero_le _⟩ (fun H locs hz9 hP hS => ?_)
        refine wv_iast hx hb hK hP hD hS 3 1 rfl rfl (k := i) (by omega) (by decide) dX3_refreshRanks_20 (fun H locs hP hD hS => ?_)
        have hP : va_P D vwCl (RowC r va na ra cJ cI v nu (upd (rfr fl v n rk i) i (nI (rk0 fl v n i))) n b fl me st lk cm) H := hP
        have hD : va_D _ (RowC r va na ra cJ cI v nu (upd (rfr fl v n rk i) i (nI (rk0 fl v n i))) n b fl me st lk cm) := hD
        refine lv_iinc (v := nI (i + 1)) (lv' := [(1, .int (nI (i + 1))), (0, .ref r)]) hx hb dX3_refreshRanks_21 hl (k := 1) rfl (nI_1 _) (by decide) rfl (fun ls hl => ?_)
        refine lv_goto (tgt := 2) hx hb dX3_refreshRanks_24 (by decide) ?_
        have el_w0_rk : rfr fl v n rk (i + 1) = upd (rfr fl v n rk i) i (nI (rk0 fl v n i)) := by exact rfr_s fl v n rk i
        exact ih2 (i + 1) (by omega) (by first | assumption | omega) _ _ (by first | (rw [el_w0_rk]; exact hP) | (simp only [el_w0_rk]; exact hP) | exact hP) (by first | (rw [el_w0_rk]; exact hD) | (simp only [el_w0_rk]; exact hD) | exact hD) hS ls (by first | (rw [el_w0_rk]; exact lv_sub hl [1, 0] rfl) | (simp only [el_w0_rk]; exact lv_sub hl [1, 0] rfl) | exact lv_sub hl [1, 0] rfl)
  exact loop2 (n - 0 + 1) 0 (by omega) (by first | assumption | omega) _ _ (by first | (rw [el_w0_rk]; exact hP) | (simp only [el_w0_rk]; exact hP) | exact hP) (by first | (rw [el_w0_rk]; exact hD) | (simp only [el_w0_rk]; exact hD) | exact hD) hS ls (by first | (rw [el_w0_rk]; exact lv_sub hl [1, 0] rfl) | (simp only [el_w0_rk]; exact lv_sub hl [1, 0] rfl) | exact lv_sub hl [1, 0] rfl)

set_option maxHeartbeats 4000000 in
set_option maxRecDepth 100000 in
theorem kX3_insertElement_ok (l : Launch) (D : va_G) (r : Nat) (va : Nat) (na : Nat) (ra : Nat) (cJ : ClassId) (cI : ClassId) (v : Nat → Int64) (nu : Nat → Int32) (rk : Nat → Int32) (n : Nat) (b : Nat) (fl : Bool) (me : Bool) (st : Int32) (lk : Int32) (cm : Int32) (k : Nat) (x : Int64) (hn : n < 32) (hk : k ≤ n) : MMi l yX3_insertElement wsX3_insertElement ({ frames := 3, cells := 0, slots := 0, locals := 69 } : Room) [.ref r, .int (nI k), .long x] D (RowC r va na ra cJ cI v nu rk n b fl me st lk cm) [(cJ, .long), (cI, .int)] (nI 1) (RowC r va na ra cJ cI (insA v n k x) (insA nu n k cm) (rfr fl (insA v n k x) (n + 1) rk (n + 1)) (n + 1) b fl me st lk (cm + (nI 1))) := by
  refine MMi_of (cc := cX3_insertElement) (maxL := 5) (ret := some .boolean) (by decide +kernel) rfl (Nat.le_of_ble_eq_true rfl) ?_
  intro p e s m args below meth c hx hb hr hts hown hlocks hml hP hK hN hD ls hl
  have hown : s.vm.findClass RX3 = some m.cls := hown
  have hl : lv_has ls 5 [(0, .ref r), (1, .int (nI k)), (2, .long x)] := hl
  have hS : va_S (va_A (RowC r va na ra cJ cI v nu rk n b fl me st lk cm) s.heap.size) s.heap s.heap [] := va_S.rf
  have hA := wk_hA (RowC r va na ra cJ cI v nu rk n b fl me st lk cm) s.heap.size
  have hD9 : True := trivial
  have hinX3 : ∀ w ∈ wsX30, w ∈ wsX3_insertElement := by decide +kernel
  refine lv_aload_n hx hb dX3_insertElement_0 rfl (lv_at hl 0 rfl) ?_
  refine wv_callPi (As := []) (rest := []) ⟨hx, hb, hml, hown, hts⟩ (kX3_hasRoom l D r va na ra cJ cI v nu rk n b fl me st lk cm (by first | assumption | omega)) (cwV 0 hts gX3_insertElement_X3_hasRoom rfl rfl rfl (by decide +kernel) ⟨Nat.le_of_ble_eq_true rfl, Nat.le_of_ble_eq_true rfl⟩) hK hN hP hS hA [0, 1, 2, 3] [0, 1] rfl rfl 0 2 rfl rfl rfl rfl hl.1 rfl (Nat.le_of_ble_eq_true rfl) dX3_insertElement_1 ⟨Nat.zero_le _, Nat.zero_le _⟩ (fun H locs hz9 hP hS => ?_)
  refine wv_ifeqD (tgt := 15) hx hb dX3_insertElement_4 (by decide) (fun c4 => by exfalso; exact c4 hn) (fun c4 => ?_)
  refine lv_aload_n hx hb dX3_insertElement_7 rfl (lv_at hl 0 rfl) ?_
  refine lv_iload_n hx hb dX3_insertElement_8 rfl (lv_at hl 1 rfl) ?_
  refine wv_callPi (As := [.int (nI k)]) (rest := []) ⟨hx, hb, hml, hown, hts⟩ (kX3_canOpen l D r va na ra cJ cI v nu rk n b fl me st lk cm (nI k)) (cwV 1 hts gX3_insertElement_X3_canOpen rfl rfl rfl (by decide +kernel) ⟨Nat.le_of_ble_eq_true rfl, Nat.le_of_ble_eq_true rfl⟩) hK hN hP hS hA [0, 1, 2, 3] [0, 1] rfl rfl 0 2 rfl rfl rfl rfl hl.1 rfl (Nat.le_of_ble_eq_true rfl) dX3_insertElement_9 ⟨Nat.zero_le _, Nat.zero_le _⟩ (fun H locs hz9 hP hS => ?_)
  refine wv_ti (y := bI true) (by rw [opn_t hk (by omega)]) ?_
  refine wv_ifneB (tgt := 17) hx hb dX3_insertElement_12 (by decide) (fun _ => ?_) (fun h => by cases h)
  refine lv_aload_n hx hb dX3_insertElement_17 rfl (lv_at hl 0 rfl) ?_
  refine va_get (D := D) (ci := 2) (C := RX3) (T := TX3) (N := 10) hx hb hts hinX3 hown hK hP 0 rfl rfl 3 (by decide) (hts (.fieldLink RX3 32 "NearRanks$Row" "size" "I") (by decide +kernel)) (fun _ h9 => h9) rfl dX3_insertElement_18 ?_
  refine lv_istore (lv' := [(4, .int (nI n)), (0, .ref r), (1, .int (nI k)), (2, .long x)]) hx hb dX3_insertElement_21 hl (by decide) rfl (fun ls hl => ?_)
  have el_w0_v : opa v n n = v := by exact opa_n v n
  have el_w0_nu : opa nu n n = nu := by exact opa_n nu n
  have loop23 : ∀ (K : Nat) (i : Nat), i < K → k ≤ i → i ≤ n → ∀ (H : Heap) (locs : List Loc), va_P D vwCl (RowC r va na ra cJ cI (opa v n i) (opa nu n i) rk n b fl me st lk cm) H → va_D (va_A (RowC r va na ra cJ cI v nu rk n b fl me st lk cm) s.heap.size) (RowC r va na ra cJ cI (opa v n i) (opa nu n i) rk n b fl me st lk cm) → va_S (va_A (RowC r va na ra cJ cI v nu rk n b fl me st lk cm) s.heap.size) s.heap H locs → ∀ ls : Array Slot, lv_has ls 5 [(0, .ref r), (1, .int (nI k)), (2, .long x), (4, .int (nI i))] → W p l e ({ frames := 3, cells := 0, slots := 0, locals := 69 } : Room) s m args below meth c H locs 0 0 (ZMi below args s D (RowC r va na ra cJ cI v nu rk n b fl me st lk cm) (nI 1) (RowC r va na ra cJ cI (insA v n k x) (insA nu n k cm) (rfr fl (insA v n k x) (n + 1) rk (n + 1)) (n + 1) b fl me st lk (cm + (nI 1)))) (F0 m 23 ls []) := by
    intro K
    induction K with
    | zero => intro i hK0; exact absurd hK0 (Nat.not_lt_zero _)
    | succ K ih23 =>
      intro i hKm hki hin H locs hP hD hS ls hl
      refine lv_iload hx hb dX3_insertElement_23 (lv_at hl 3 rfl) ?_
      refine lv_iload_n hx hb dX3_insertElement_25 rfl (lv_at hl 1 rfl) ?_
      refine wv_icmp_le (tgt := 67) hx hb (by omega) (by omega) dX3_insertElement_26 (by decide) (fun c26 => ?_) (fun c26 => ?_)
      · skip
        have ei : i = k := by omega
        rw [ei] at hP hD
        have hP : va_P D vwCl (RowC r va na ra cJ cI (opa v n k) (opa nu n k) rk n b fl me st lk cm) _ := hP
        have hD : va_D _ (RowC r va na ra cJ cI (opa v n k) (opa nu n k) rk n b fl me st lk cm) := hD
        refine lv_aload_n hx hb dX3_insertElement_67 rfl (lv_at hl 0 rfl) ?_
        refine va_get (D := D) (ci := 2) (C := RX3) (T := TX3) (N := 10) hx hb hts hinX3 hown hK hP 0 rfl rfl 0 (by decide) (hts (.fieldLink RX3 9 "NearRanks$Row" "values" "[J") (by decide +kernel)) (fun _ h9 => h9) rfl dX3_insertElement_68 ?_
        refine lv_iload_n hx hb dX3_insertElement_71 rfl (lv_at hl 1 rfl) ?_
        refine lv_lload_n hx hb dX3_insertElement_72 rfl (lv_at hl 2 rfl) ?_
        refine wv_last hx hb hK hP hD hS 1 0 rfl rfl (k := k) (by omega) (by decide) dX3_insertElement_73 (fun H locs hP hD hS => ?_)
        have hP : va_P D vwCl (RowC r va na ra cJ cI (vp_updL (opa v n k) k x) (opa nu n k) rk n b fl me st lk cm) H := hP
        have hD : va_D _ (RowC r va na ra cJ cI (vp_updL (opa v n k) k x) (opa nu n k) rk n b fl me st lk cm) := hD
        have er : vp_updL (opa v n k) k x = insA v n k x := insA_L v n k x
        rw [er] at hP hD
        clear er
        refine lv_aload_n hx hb dX3_insertElement_74 rfl (lv_at hl 0 rfl) ?_
        refine va_get (D := D) (ci := 2) (C := RX3) (T := TX3) (N := 10) hx hb hts hinX3 hown hK hP 0 rfl rfl 1 (by decide) (hts (.fieldLink RX3 15 "NearRanks$Row" "numbers" "[I") (by decide +kernel)) (fun _ h9 => h9) rfl dX3_insertElement_75 ?_
        refine lv_iload_n hx hb dX3_insertElement_78 rfl (lv_at hl 1 rfl) ?_
        refine lv_aload_n hx hb dX3_insertElement_79 rfl (lv_at hl 0 rfl) ?_
        refine va_get (D := D) (ci := 2) (C := RX3) (T := TX3) (N := 10) hx hb hts hinX3 hown hK hP 0 rfl rfl 9 (by decide) (hts (.fieldLink RX3 48 "NearRanks$Row" "came" "I") (by decide +kernel)) (fun _ h9 => h9) rfl dX3_insertElement_80 ?_
        refine wv_iast hx hb hK hP hD hS 2 1 rfl rfl (k := k) (by omega) (by decide) dX3_insertElement_83 (fun H locs hP hD hS => ?_)
        have hP : va_P D vwCl (RowC r va na ra cJ cI (insA v n k x) (upd (opa nu n k) k cm) rk n b fl me st lk cm) H := hP
        have hD : va_D _ (RowC r va na ra cJ cI (insA v n k x) (upd (opa nu n k) k cm) rk n b fl me st lk cm) := hD
        have er : upd (opa nu n k) k cm = insA nu n k cm := insA_I nu n k cm
        rw [er] at hP hD
        clear er
        refine lv_aload_n hx hb dX3_insertElement_84 rfl (lv_at hl 0 rfl) ?_
        refine lv_dup hx hb dX3_insertElement_85 rfl ?_
        refine va_get (D := D) (ci := 2) (C := RX3) (T := TX3) (N := 10) hx hb hts hinX3 hown hK hP 0 rfl rfl 9 (by decide) (hts (.fieldLink RX3 48 "NearRanks$Row" "came" "I") (by decide +kernel)) (fun _ h9 => h9) rfl dX3_insertElement_86 ?_
        refine lv_iconst (v := nI 1) hx hb dX3_insertElement_89 (by decide) ?_
        refine lv_iadd hx hb dX3_insertElement_90 ?_
        refine va_put (D := D) (ci := 2) (v := .int (cm + (nI 1))) (ty := .int) (C := RX3) (T := TX3) (N := 10) hx hb hts hinX3 tyX3 tyX3_ok nmX3 hown hK hP hD hS 0 rfl rfl 9 (by decide) (hts (.fieldLink RX3 48 "NearRanks$Row" "came" "I") (by decide +kernel)) (fun _ h9 => h9) rfl (by decide +kernel) rfl rfl (Nat.le_of_ble_eq_true rfl) dX3_insertElement_91 (fun H locs hP hD hS => ?_)
        have hP : va_P D vwCl (RowC r va na ra cJ cI (insA v n k x) (insA nu n k cm) rk n b fl me st lk (cm + (nI 1))) H := hP
        have hD : va_D _ (RowC r va na ra cJ cI (insA v n k x) (insA nu n k cm) rk n b fl me st lk (cm + (nI 1))) := hD
        refine lv_aload_n hx hb dX3_insertElement_94 rfl (lv_at hl 0 rfl) ?_
        refine lv_dup hx hb dX3_insertElement_95 rfl ?_
        refine va_get (D := D) (ci := 2) (C := RX3) (T := TX3) (N := 10) hx hb hts hinX3 hown hK hP 0 rfl rfl 3 (by decide) (hts (.fieldLink RX3 32 "NearRanks$Row" "size" "I") (by decide +kernel)) (fun _ h9 => h9) rfl dX3_insertElement_96 ?_
        refine lv_iconst (v := nI 1) hx hb dX3_insertElement_99 (by decide) ?_
        refine lv_iadd hx hb dX3_insertElement_100 ?_
        refine wv_ti (nI_add _ _) ?_
        refine va_put (D := D) (ci := 2) (v := .int (nI (n + 1))) (ty := .int) (C := RX3) (T := TX3) (N := 10) hx hb hts hinX3 tyX3 tyX3_ok nmX3 hown hK hP hD hS 0 rfl rfl 3 (by decide) (hts (.fieldLink RX3 32 "NearRanks$Row" "size" "I") (by decide +kernel)) (fun _ h9 => h9) rfl (by decide +kernel) rfl rfl (Nat.le_of_ble_eq_true rfl) dX3_insertElement_101 (fun H locs hP hD hS => ?_)
        have hP : va_P D vwCl (RowC r va na ra cJ cI (insA v n k x) (insA nu n k cm) rk (n + 1) b fl me st lk (cm + (nI 1))) H := hP
        have hD : va_D _ (RowC r va na ra cJ cI (insA v n k x) (insA nu n k cm) rk (n + 1) b fl me st lk (cm + (nI 1))) := hD
        refine lv_aload_n hx hb dX3_insertElement_104 rfl (lv_at hl 0 rfl) ?_
        refine wv_callMv (As := []) (rest := []) (wr := []) (ws1 := RowC r va na ra cJ cI (insA v n k x) (insA nu n k cm) (rfr fl (insA v n k x) (n + 1) rk (n + 1)) (n + 1) b fl me st lk (cm + (nI 1))) ⟨hx, hb, hml, hown, hts⟩ (kX3_refreshRanks l D r va na ra cJ cI (insA v n k x) (insA nu n k cm) rk (n + 1) b fl me st lk (cm + (nI 1)) (by first | assumption | omega)) (cwV 0 hts gX3_insertElement_X3_refreshRanks rfl rfl rfl (by decide +kernel) ⟨Nat.le_of_ble_eq_true rfl, Nat.le_of_ble_eq_true rfl⟩) hK hN hP hD hS hA [0, 1, 2, 3] [] [0, 1] [0, 1, 2, 3] rfl rfl (by decide) rfl (by decide) (by decide) rfl (by decide) rfl 0 2 rfl rfl rfl rfl hl.1 rfl (Nat.le_of_ble_eq_true rfl) dX3_insertElement_105 ⟨Nat.zero_le _, Nat.zero_le _⟩ (fun H locs hz9 hP hD hS => ?_)
        refine lv_iconst (v := nI 1) hx hb dX3_insertElement_108 (by decide) ?_
        exact wv_zretM (b := true) hx hb hr hlocks hP hD hS rfl rfl rfl dX3_insertElement_109
      · skip
        refine lv_aload_n hx hb dX3_insertElement_29 rfl (lv_at hl 0 rfl) ?_
        refine va_get (D := D) (ci := 2) (C := RX3) (T := TX3) (N := 10) hx hb hts hinX3 hown hK hP 0 rfl rfl 0 (by decide) (hts (.fieldLink RX3 9 "NearRanks$Row" "values" "[J") (by decide +kernel)) (fun _ h9 => h9) rfl dX3_insertElement_30 ?_
        refine lv_iload hx hb dX3_insertElement_33 (lv_at hl 3 rfl) ?_
        refine lv_aload_n hx hb dX3_insertElement_35 rfl (lv_at hl 0 rfl) ?_
        refine va_get (D := D) (ci := 2) (C := RX3) (T := TX3) (N := 10) hx hb hts hinX3 hown hK hP 0 rfl rfl 0 (by decide) (hts (.fieldLink RX3 9 "NearRanks$Row" "values" "[J") (by decide +kernel)) (fun _ h9 => h9) rfl dX3_insertElement_36 ?_
        refine lv_iload hx hb dX3_insertElement_39 (lv_at hl 3 rfl) ?_
        refine lv_iconst (v := nI 1) hx hb dX3_insertElement_41 (by decide) ?_
        refine lv_isub hx hb dX3_insertElement_42 ?_
        refine wv_ti (pk_sub (by omega)) ?_
        refine wv_lald hx hb hK hP 1 0 rfl rfl (k := i - 1) (by omega) (by decide) dX3_insertElement_43 ?_
        refine wv_last hx hb hK hP hD hS 1 0 rfl rfl (k := i) (by omega) (by decide) dX3_insertElement_44 (fun H locs hP hD hS => ?_)
        have hP : va_P D vwCl (RowC r va na ra cJ cI (vp_updL (opa v n i) i ((opa v n i) (i - 1))) (opa nu n i) rk n b fl me st lk cm) H := hP
        have hD : va_D _ (RowC r va na ra cJ cI (vp_updL (opa v n i) i ((opa v n i) (i - 1))) (opa nu n i) rk n b fl me st lk cm) := hD
        refine lv_aload_n hx hb dX3_insertElement_45 rfl (lv_at hl 0 rfl) ?_
        refine va_get (D := D) (ci := 2) (C := RX3) (T := TX3) (N := 10) hx hb hts hinX3 hown hK hP 0 rfl rfl 1 (by decide) (hts (.fieldLink RX3 15 "NearRanks$Row" "numbers" "[I") (by decide +kernel)) (fun _ h9 => h9) rfl dX3_insertElement_46 ?_
        refine lv_iload hx hb dX3_insertElement_49 (lv_at hl 3 rfl) ?_
        refine lv_aload_n hx hb dX3_insertElement_51 rfl (lv_at hl 0 rfl) ?_
        refine va_get (D := D) (ci := 2) (C := RX3) (T := TX3) (N := 10) hx hb hts hinX3 hown hK hP 0 rfl rfl 1 (by decide) (hts (.fieldLink RX3 15 "NearRanks$Row" "numbers" "[I") (by decide +kernel)) (fun _ h9 => h9) rfl dX3_insertElement_52 ?_
        refine lv_iload hx hb dX3_insertElement_55 (lv_at hl 3 rfl) ?_
        refine lv_iconst (v := nI 1) hx hb dX3_insertElement_57 (by decide) ?_
        refine lv_isub hx hb dX3_insertElement_58 ?_
        refine wv_ti (pk_sub (by omega)) ?_
        refine wv_iald hx hb hK hP 2 1 rfl rfl (k := i - 1) (by omega) (by decide) dX3_insertElement_59 ?_
        refine wv_iast hx hb hK hP hD hS 2 1 rfl rfl (k := i) (by omega) (by decide) dX3_insertElement_60 (fun H locs hP hD hS => ?_)
        have hP : va_P D vwCl (RowC r va na ra cJ cI (vp_updL (opa v n i) i ((opa v n i) (i - 1))) (upd (opa nu n i) i ((opa nu n i) (i - 1))) rk n b fl me st lk cm) H := hP
        have hD : va_D _ (RowC r va na ra cJ cI (vp_updL (opa v n i) i ((opa v n i) (i - 1))) (upd (opa nu n i) i ((opa nu n i) (i - 1))) rk n b fl me st lk cm) := hD
        refine lv_iinc (v := nI (i - 1)) (lv' := [(4, .int (nI (i - 1))), (0, .ref r), (1, .int (nI k)), (2, .long x)]) hx hb dX3_insertElement_61 hl (k := 3) rfl (sb_m1 (by omega)) (by decide) rfl (fun ls hl => ?_)
        refine lv_goto (tgt := 23) hx hb dX3_insertElement_64 (by decide) ?_
        have el_w0_v : opa v n (i - 1) = vp_updL (opa v n i) i ((opa v n i) (i - 1)) := by exact opa_sL v (by omega) hin
        have el_w0_nu : opa nu n (i - 1) = upd (opa nu n i) i ((opa nu n i) (i - 1)) := by exact opa_sI nu (by omega) hin
        exact ih23 (i - 1) (by omega) (by first | assumption | omega) (by first | assumption | omega) _ _ (by first | (rw [el_w0_nu, el_w0_v]; exact hP) | (simp only [el_w0_nu, el_w0_v]; exact hP) | exact hP) (by first | (rw [el_w0_nu, el_w0_v]; exact hD) | (simp only [el_w0_nu, el_w0_v]; exact hD) | exact hD) hS ls (by first | (rw [el_w0_nu, el_w0_v]; exact lv_sub hl [1, 2, 3, 0] rfl) | (simp only [el_w0_nu, el_w0_v]; exact lv_sub hl [1, 2, 3, 0] rfl) | exact lv_sub hl [1, 2, 3, 0] rfl)
  exact loop23 (n + 1) n (by omega) (by first | assumption | omega) (by first | assumption | omega) _ _ (by first | (rw [el_w0_nu, el_w0_v]; exact hP) | (simp only [el_w0_nu, el_w0_v]; exact hP) | exact hP) (by first | (rw [el_w0_nu, el_w0_v]; exact hD) | (simp only [el_w0_nu, el_w0_v]; exact hD) | exact hD) hS ls (by first | (rw [el_w0_nu, el_w0_v]; exact lv_sub hl [1, 2, 3, 0] rfl) | (simp only [el_w0_nu, el_w0_v]; exact lv_sub hl [1, 2, 3, 0] rfl) | exact lv_sub hl [1, 2, 3, 0] rfl)

set_option maxHeartbeats 4000000 in
set_option maxRecDepth 100000 in
theorem kX3_insertElement_no (l : Launch) (D : va_G) (r : Nat) (va : Nat) (na : Nat) (ra : Nat) (cJ : ClassId) (cI : ClassId) (v : Nat → Int64) (nu : Nat → Int32) (rk : Nat → Int32) (n : Nat) (b : Nat) (fl : Bool) (me : Bool) (st : Int32) (lk : Int32) (cm : Int32) (x : Int32) (y : Int64) (hn : n ≤ 32) (hno : ¬ (n < 32 ∧ opn x n = true)) : PMi l yX3_insertElement wsX3_insertElement ({ frames := 1, cells := 0, slots := 0, locals := 21 } : Room) [.ref r, .int x, .long y] D (RowC r va na ra cJ cI v nu rk n b fl me st lk cm) [(cJ, .long), (cI, .int)] (nI 0) := by
  refine PMi_of (cc := cX3_insertElement) (maxL := 5) (ret := some .boolean) (by decide +kernel) rfl (Nat.le_of_ble_eq_true rfl) ?_
  intro p e s m args below meth c hx hb hr hts hown hlocks hml hP hK hN ls hl
  have hown : s.vm.findClass RX3 = some m.cls := hown
  have hl : lv_has ls 5 [(0, .ref r), (1, .int x), (2, .long y)] := hl
  have hS : va_S (va_A [] s.heap.size) s.heap s.heap [] := va_S.rf
  have hA := wk_hA [] s.heap.size
  have hD9 : True := trivial
  refine lv_aload_n hx hb dX3_insertElement_0 rfl (lv_at hl 0 rfl) ?_
  refine wv_callPi (As := []) (rest := []) ⟨hx, hb, hml, hown, hts⟩ (kX3_hasRoom l D r va na ra cJ cI v nu rk n b fl me st lk cm (by first | assumption | omega)) (cwV 0 hts gX3_insertElement_X3_hasRoom rfl rfl rfl (by decide +kernel) ⟨Nat.le_of_ble_eq_true rfl, Nat.le_of_ble_eq_true rfl⟩) hK hN hP hS hA [0, 1, 2, 3] [0, 1] rfl rfl 0 2 rfl rfl rfl rfl hl.1 rfl (Nat.le_of_ble_eq_true rfl) dX3_insertElement_1 ⟨Nat.zero_le _, Nat.zero_le _⟩ (fun H locs hz9 hP hS => ?_)
  refine wv_ifeqD (tgt := 15) hx hb dX3_insertElement_4 (by decide) (fun c4 => ?_) (fun c4 => ?_)
  · skip
    refine lv_iconst (v := nI 0) hx hb dX3_insertElement_15 (by decide) ?_
    exact wv_zretP (b := false) hx hb hr hlocks hS (rfl : nI 0 = bI false) rfl dX3_insertElement_16
  · skip
    refine lv_aload_n hx hb dX3_insertElement_7 rfl (lv_at hl 0 rfl) ?_
    refine lv_iload_n hx hb dX3_insertElement_8 rfl (lv_at hl 1 rfl) ?_
    refine wv_callPi (As := [.int x]) (rest := []) ⟨hx, hb, hml, hown, hts⟩ (kX3_canOpen l D r va na ra cJ cI v nu rk n b fl me st lk cm x) (cwV 1 hts gX3_insertElement_X3_canOpen rfl rfl rfl (by decide +kernel) ⟨Nat.le_of_ble_eq_true rfl, Nat.le_of_ble_eq_true rfl⟩) hK hN hP hS hA [0, 1, 2, 3] [0, 1] rfl rfl 0 2 rfl rfl rfl rfl hl.1 rfl (Nat.le_of_ble_eq_true rfl) dX3_insertElement_9 ⟨Nat.zero_le _, Nat.zero_le _⟩ (fun H locs hz9 hP hS => ?_)
    refine wv_ifneB (tgt := 17) hx hb dX3_insertElement_12 (by decide) (fun c12 => by exfalso; exact hno ⟨c4, c12⟩) (fun c12 => ?_)
    refine lv_iconst (v := nI 0) hx hb dX3_insertElement_15 (by decide) ?_
    exact wv_zretP (b := false) hx hb hr hlocks hS (rfl : nI 0 = bI false) rfl dX3_insertElement_16

set_option maxHeartbeats 4000000 in
set_option maxRecDepth 100000 in
theorem kX3_takeOut_ok (l : Launch) (D : va_G) (r : Nat) (va : Nat) (na : Nat) (ra : Nat) (cJ : ClassId) (cI : ClassId) (v : Nat → Int64) (nu : Nat → Int32) (rk : Nat → Int32) (n : Nat) (b : Nat) (fl : Bool) (me : Bool) (st : Int32) (lk : Int32) (cm : Int32) (k : Nat) (hn : n ≤ 32) (hk : k < n) : MMi l yX3_takeOut wsX3_takeOut ({ frames := 3, cells := 0, slots := 0, locals := 69 } : Room) [.ref r, .int (nI k)] D (RowC r va na ra cJ cI v nu rk n b fl me st lk cm) [(cJ, .long), (cI, .int)] (nI 1) (RowC r va na ra cJ cI (cla v k (n - 1)) (cla nu k (n - 1)) (rfr fl (cla v k (n - 1)) (n - 1) rk (n - 1)) (n - 1) b fl me st lk cm) := by
  refine MMi_of (cc := cX3_takeOut) (maxL := 3) (ret := some .boolean) (by decide +kernel) rfl (Nat.le_of_ble_eq_true rfl) ?_
  intro p e s m args below meth c hx hb hr hts hown hlocks hml hP hK hN hD ls hl
  have hown : s.vm.findClass RX3 = some m.cls := hown
  have hl : lv_has ls 3 [(0, .ref r), (1, .int (nI k))] := hl
  have hS : va_S (va_A (RowC r va na ra cJ cI v nu rk n b fl me st lk cm) s.heap.size) s.heap s.heap [] := va_S.rf
  have hA := wk_hA (RowC r va na ra cJ cI v nu rk n b fl me st lk cm) s.heap.size
  have hD9 : True := trivial
  have hinX3 : ∀ w ∈ wsX30, w ∈ wsX3_takeOut := by decide +kernel
  refine lv_aload_n hx hb dX3_takeOut_0 rfl (lv_at hl 0 rfl) ?_
  refine lv_iload_n hx hb dX3_takeOut_1 rfl (lv_at hl 1 rfl) ?_
  refine wv_callPi (As := [.int (nI k)]) (rest := []) ⟨hx, hb, hml, hown, hts⟩ (kX3_isPlace l D r va na ra cJ cI v nu rk n b fl me st lk cm (nI k)) (cwV 1 hts gX3_takeOut_X3_isPlace rfl rfl rfl (by decide +kernel) ⟨Nat.le_of_ble_eq_true rfl, Nat.le_of_ble_eq_true rfl⟩) hK hN hP hS hA [0, 1, 2, 3] [0, 1] rfl rfl 0 2 rfl rfl rfl rfl hl.1 rfl (Nat.le_of_ble_eq_true rfl) dX3_takeOut_2 ⟨Nat.zero_le _, Nat.zero_le _⟩ (fun H locs hz9 hP hS => ?_)
  refine wv_ti (y := bI true) (by rw [inR_t hk (by omega)]) ?_
  refine wv_ifneB (tgt := 10) hx hb dX3_takeOut_5 (by decide) (fun _ => ?_) (fun h => by cases h)
  refine lv_aload_n hx hb dX3_takeOut_10 rfl (lv_at hl 0 rfl) ?_
  refine lv_dup hx hb dX3_takeOut_11 rfl ?_
  refine va_get (D := D) (ci := 2) (C := RX3) (T := TX3) (N := 10) hx hb hts hinX3 hown hK hP 0 rfl rfl 3 (by decide) (hts (.fieldLink RX3 32 "NearRanks$Row" "size" "I") (by decide +kernel)) (fun _ h9 => h9) rfl dX3_takeOut_12 ?_
  refine lv_iconst (v := nI 1) hx hb dX3_takeOut_15 (by decide) ?_
  refine lv_isub hx hb dX3_takeOut_16 ?_
  refine wv_ti (pk_sub (by omega)) ?_
  refine va_put (D := D) (ci := 2) (v := .int (nI (n - 1))) (ty := .int) (C := RX3) (T := TX3) (N := 10) hx hb hts hinX3 tyX3 tyX3_ok nmX3 hown hK hP hD hS 0 rfl rfl 3 (by decide) (hts (.fieldLink RX3 32 "NearRanks$Row" "size" "I") (by decide +kernel)) (fun _ h9 => h9) rfl (by decide +kernel) rfl rfl (Nat.le_of_ble_eq_true rfl) dX3_takeOut_17 (fun H locs hP hD hS => ?_)
  have hP : va_P D vwCl (RowC r va na ra cJ cI v nu rk (n - 1) b fl me st lk cm) H := hP
  have hD : va_D _ (RowC r va na ra cJ cI v nu rk (n - 1) b fl me st lk cm) := hD
  refine lv_iload_n hx hb dX3_takeOut_20 rfl (lv_at hl 1 rfl) ?_
  refine lv_istore_n (lv' := [(2, .int (nI k)), (0, .ref r), (1, .int (nI k))]) hx hb dX3_takeOut_21 rfl hl (by decide) rfl (fun ls hl => ?_)
  have el_w0_v : cla v k k = v := by exact cla_0 v k
  have el_w0_nu : cla nu k k = nu := by exact cla_0 nu k
  have loop22 : ∀ (K : Nat) (i : Nat), n - i < K → k ≤ i → i ≤ n - 1 → ∀ (H : Heap) (locs : List Loc), va_P D vwCl (RowC r va na ra cJ cI (cla v k i) (cla nu k i) rk (n - 1) b fl me st lk cm) H → va_D (va_A (RowC r va na ra cJ cI v nu rk n b fl me st lk cm) s.heap.size) (RowC r va na ra cJ cI (cla v k i) (cla nu k i) rk (n - 1) b fl me st lk cm) → va_S (va_A (RowC r va na ra cJ cI v nu rk n b fl me st lk cm) s.heap.size) s.heap H locs → ∀ ls : Array Slot, lv_has ls 3 [(0, .ref r), (1, .int (nI k)), (2, .int (nI i))] → W p l e ({ frames := 3, cells := 0, slots := 0, locals := 69 } : Room) s m args below meth c H locs 0 0 (ZMi below args s D (RowC r va na ra cJ cI v nu rk n b fl me st lk cm) (nI 1) (RowC r va na ra cJ cI (cla v k (n - 1)) (cla nu k (n - 1)) (rfr fl (cla v k (n - 1)) (n - 1) rk (n - 1)) (n - 1) b fl me st lk cm)) (F0 m 22 ls []) := by
    intro K
    induction K with
    | zero => intro i hK0; exact absurd hK0 (Nat.not_lt_zero _)
    | succ K ih22 =>
      intro i hKm hki hin H locs hP hD hS ls hl
      refine lv_iload_n hx hb dX3_takeOut_22 rfl (lv_at hl 2 rfl) ?_
      refine lv_aload_n hx hb dX3_takeOut_23 rfl (lv_at hl 0 rfl) ?_
      refine va_get (D := D) (ci := 2) (C := RX3) (T := TX3) (N := 10) hx hb hts hinX3 hown hK hP 0 rfl rfl 3 (by decide) (hts (.fieldLink RX3 32 "NearRanks$Row" "size" "I") (by decide +kernel)) (fun _ h9 => h9) rfl dX3_takeOut_24 ?_
      refine wv_icmp_ge (tgt := 64) hx hb (by omega) (by omega) dX3_takeOut_27 (by decide) (fun c27 => ?_) (fun c27 => ?_)
      · skip
        have ei : i = n - 1 := by omega
        rw [ei] at hP hD
        have hP : va_P D vwCl (RowC r va na ra cJ cI (cla v k (n - 1)) (cla nu k (n - 1)) rk (n - 1) b fl me st lk cm) _ := hP
        have hD : va_D _ (RowC r va na ra cJ cI (cla v k (n - 1)) (cla nu k (n - 1)) rk (n - 1) b fl me st lk cm) := hD
        refine lv_aload_n hx hb dX3_takeOut_64 rfl (lv_at hl 0 rfl) ?_
        refine wv_callMv (As := []) (rest := []) (wr := []) (ws1 := RowC r va na ra cJ cI (cla v k (n - 1)) (cla nu k (n - 1)) (rfr fl (cla v k (n - 1)) (n - 1) rk (n - 1)) (n - 1) b fl me st lk cm) ⟨hx, hb, hml, hown, hts⟩ (kX3_refreshRanks l D r va na ra cJ cI (cla v k (n - 1)) (cla nu k (n - 1)) rk (n - 1) b fl me st lk cm (by first | assumption | omega)) (cwV 0 hts gX3_takeOut_X3_refreshRanks rfl rfl rfl (by decide +kernel) ⟨Nat.le_of_ble_eq_true rfl, Nat.le_of_ble_eq_true rfl⟩) hK hN hP hD hS hA [0, 1, 2, 3] [] [0, 1] [0, 1, 2, 3] rfl rfl (by decide) rfl (by decide) (by decide) rfl (by decide) rfl 0 2 rfl rfl rfl rfl hl.1 rfl (Nat.le_of_ble_eq_true rfl) dX3_takeOut_65 ⟨Nat.zero_le _, Nat.zero_le _⟩ (fun H locs hz9 hP hD hS => ?_)
        refine lv_iconst (v := nI 1) hx hb dX3_takeOut_68 (by decide) ?_
        exact wv_zretM (b := true) hx hb hr hlocks hP hD hS rfl rfl rfl dX3_takeOut_69
      · skip
        refine lv_aload_n hx hb dX3_takeOut_30 rfl (lv_at hl 0 rfl) ?_
        refine va_get (D := D) (ci := 2) (C := RX3) (T := TX3) (N := 10) hx hb hts hinX3 hown hK hP 0 rfl rfl 0 (by decide) (hts (.fieldLink RX3 9 "NearRanks$Row" "values" "[J") (by decide +kernel)) (fun _ h9 => h9) rfl dX3_takeOut_31 ?_
        refine lv_iload_n hx hb dX3_takeOut_34 rfl (lv_at hl 2 rfl) ?_
        refine lv_aload_n hx hb dX3_takeOut_35 rfl (lv_at hl 0 rfl) ?_
        refine va_get (D := D) (ci := 2) (C := RX3) (T := TX3) (N := 10) hx hb hts hinX3 hown hK hP 0 rfl rfl 0 (by decide) (hts (.fieldLink RX3 9 "NearRanks$Row" "values" "[J") (by decide +kernel)) (fun _ h9 => h9) rfl dX3_takeOut_36 ?_
        refine lv_iload_n hx hb dX3_takeOut_39 rfl (lv_at hl 2 rfl) ?_
        refine lv_iconst (v := nI 1) hx hb dX3_takeOut_40 (by decide) ?_
        refine lv_iadd hx hb dX3_takeOut_41 ?_
        refine wv_ti (nI_add _ _) ?_
        refine wv_lald hx hb hK hP 1 0 rfl rfl (k := i + 1) (by omega) (by decide) dX3_takeOut_42 ?_
        refine wv_last hx hb hK hP hD hS 1 0 rfl rfl (k := i) (by omega) (by decide) dX3_takeOut_43 (fun H locs hP hD hS => ?_)
        have hP : va_P D vwCl (RowC r va na ra cJ cI (vp_updL (cla v k i) i ((cla v k i) (i + 1))) (cla nu k i) rk (n - 1) b fl me st lk cm) H := hP
        have hD : va_D _ (RowC r va na ra cJ cI (vp_updL (cla v k i) i ((cla v k i) (i + 1))) (cla nu k i) rk (n - 1) b fl me st lk cm) := hD
        refine lv_aload_n hx hb dX3_takeOut_44 rfl (lv_at hl 0 rfl) ?_
        refine va_get (D := D) (ci := 2) (C := RX3) (T := TX3) (N := 10) hx hb hts hinX3 hown hK hP 0 rfl rfl 1 (by decide) (hts (.fieldLink RX3 15 "NearRanks$Row" "numbers" "[I") (by decide +kernel)) (fun _ h9 => h9) rfl dX3_takeOut_45 ?_
        refine lv_iload_n hx hb dX3_takeOut_48 rfl (lv_at hl 2 rfl) ?_
        refine lv_aload_n hx hb dX3_takeOut_49 rfl (lv_at hl 0 rfl) ?_
        refine va_get (D := D) (ci := 2) (C := RX3) (T := TX3) (N := 10) hx hb hts hinX3 hown hK hP 0 rfl rfl 1 (by decide) (hts (.fieldLink RX3 15 "NearRanks$Row" "numbers" "[I") (by decide +kernel)) (fun _ h9 => h9) rfl dX3_takeOut_50 ?_
        refine lv_iload_n hx hb dX3_takeOut_53 rfl (lv_at hl 2 rfl) ?_
        refine lv_iconst (v := nI 1) hx hb dX3_takeOut_54 (by decide) ?_
        refine lv_iadd hx hb dX3_takeOut_55 ?_
        refine wv_ti (nI_add _ _) ?_
        refine wv_iald hx hb hK hP 2 1 rfl rfl (k := i + 1) (by omega) (by decide) dX3_takeOut_56 ?_
        refine wv_iast hx hb hK hP hD hS 2 1 rfl rfl (k := i) (by omega) (by decide) dX3_takeOut_57 (fun H locs hP hD hS => ?_)
        have hP : va_P D vwCl (RowC r va na ra cJ cI (vp_updL (cla v k i) i ((cla v k i) (i + 1))) (upd (cla nu k i) i ((cla nu k i) (i + 1))) rk (n - 1) b fl me st lk cm) H := hP
        have hD : va_D _ (RowC r va na ra cJ cI (vp_updL (cla v k i) i ((cla v k i) (i + 1))) (upd (cla nu k i) i ((cla nu k i) (i + 1))) rk (n - 1) b fl me st lk cm) := hD
        refine lv_iinc (v := nI (i + 1)) (lv' := [(2, .int (nI (i + 1))), (0, .ref r), (1, .int (nI k))]) hx hb dX3_takeOut_58 hl (k := 2) rfl (nI_1 _) (by decide) rfl (fun ls hl => ?_)
        refine lv_goto (tgt := 22) hx hb dX3_takeOut_61 (by decide) ?_
        have el_w0_v : cla v k (i + 1) = vp_updL (cla v k i) i ((cla v k i) (i + 1)) := by exact cla_sL v hki
        have el_w0_nu : cla nu k (i + 1) = upd (cla nu k i) i ((cla nu k i) (i + 1)) := by exact cla_sI nu hki
        exact ih22 (i + 1) (by omega) (by first | assumption | omega) (by first | assumption | omega) _ _ (by first | (rw [el_w0_nu, el_w0_v]; exact hP) | (simp only [el_w0_nu, el_w0_v]; exact hP) | exact hP) (by first | (rw [el_w0_nu, el_w0_v]; exact hD) | (simp only [el_w0_nu, el_w0_v]; exact hD) | exact hD) hS ls (by first | (rw [el_w0_nu, el_w0_v]; exact lv_sub hl [1, 2, 0] rfl) | (simp only [el_w0_nu, el_w0_v]; exact lv_sub hl [1, 2, 0] rfl) | exact lv_sub hl [1, 2, 0] rfl)
  exact loop22 (n - k + 1) k (by omega) (by first | assumption | omega) (by first | assumption | omega) _ _ (by first | (rw [el_w0_nu, el_w0_v]; exact hP) | (simp only [el_w0_nu, el_w0_v]; exact hP) | exact hP) (by first | (rw [el_w0_nu, el_w0_v]; exact hD) | (simp only [el_w0_nu, el_w0_v]; exact hD) | exact hD) hS ls (by first | (rw [el_w0_nu, el_w0_v]; exact lv_sub hl [1, 2, 0] rfl) | (simp only [el_w0_nu, el_w0_v]; exact lv_sub hl [1, 2, 0] rfl) | exact lv_sub hl [1, 2, 0] rfl)

set_option maxHeartbeats 4000000 in
set_option maxRecDepth 100000 in
theorem kX3_takeOut_no (l : Launch) (D : va_G) (r : Nat) (va : Nat) (na : Nat) (ra : Nat) (cJ : ClassId) (cI : ClassId) (v : Nat → Int64) (nu : Nat → Int32) (rk : Nat → Int32) (n : Nat) (b : Nat) (fl : Bool) (me : Bool) (st : Int32) (lk : Int32) (cm : Int32) (x : Int32) (hno : inR x n = false) : PMi l yX3_takeOut wsX3_takeOut ({ frames := 1, cells := 0, slots := 0, locals := 21 } : Room) [.ref r, .int x] D (RowC r va na ra cJ cI v nu rk n b fl me st lk cm) [(cJ, .long), (cI, .int)] (nI 0) := by
  refine PMi_of (cc := cX3_takeOut) (maxL := 3) (ret := some .boolean) (by decide +kernel) rfl (Nat.le_of_ble_eq_true rfl) ?_
  intro p e s m args below meth c hx hb hr hts hown hlocks hml hP hK hN ls hl
  have hown : s.vm.findClass RX3 = some m.cls := hown
  have hl : lv_has ls 3 [(0, .ref r), (1, .int x)] := hl
  have hS : va_S (va_A [] s.heap.size) s.heap s.heap [] := va_S.rf
  have hA := wk_hA [] s.heap.size
  have hD9 : True := trivial
  refine lv_aload_n hx hb dX3_takeOut_0 rfl (lv_at hl 0 rfl) ?_
  refine lv_iload_n hx hb dX3_takeOut_1 rfl (lv_at hl 1 rfl) ?_
  refine wv_callPi (As := [.int x]) (rest := []) ⟨hx, hb, hml, hown, hts⟩ (kX3_isPlace l D r va na ra cJ cI v nu rk n b fl me st lk cm x) (cwV 1 hts gX3_takeOut_X3_isPlace rfl rfl rfl (by decide +kernel) ⟨Nat.le_of_ble_eq_true rfl, Nat.le_of_ble_eq_true rfl⟩) hK hN hP hS hA [0, 1, 2, 3] [0, 1] rfl rfl 0 2 rfl rfl rfl rfl hl.1 rfl (Nat.le_of_ble_eq_true rfl) dX3_takeOut_2 ⟨Nat.zero_le _, Nat.zero_le _⟩ (fun H locs hz9 hP hS => ?_)
  refine wv_ifneB (tgt := 10) hx hb dX3_takeOut_5 (by decide) (fun c5 => by exfalso; rw [hno] at c5; cases c5) (fun c5 => ?_)
  refine lv_iconst (v := nI 0) hx hb dX3_takeOut_8 (by decide) ?_
  exact wv_zretP (b := false) hx hb hr hlocks hS (rfl : nI 0 = bI false) rfl dX3_takeOut_9

set_option maxHeartbeats 4000000 in
set_option maxRecDepth 100000 in
theorem kX3_changeValue_ok (l : Launch) (D : va_G) (r : Nat) (va : Nat) (na : Nat) (ra : Nat) (cJ : ClassId) (cI : ClassId) (v : Nat → Int64) (nu : Nat → Int32) (rk : Nat → Int32) (n : Nat) (b : Nat) (fl : Bool) (me : Bool) (st : Int32) (lk : Int32) (cm : Int32) (k : Nat) (x : Int64) (hn : n ≤ 32) (hk : k < n) : MMi l yX3_changeValue wsX3_changeValue ({ frames := 3, cells := 0, slots := 0, locals := 69 } : Room) [.ref r, .int (nI k), .long x] D (RowC r va na ra cJ cI v nu rk n b fl me st lk cm) [(cJ, .long), (cI, .int)] (nI 1) (RowC r va na ra cJ cI (vp_updL v k x) nu (rfr fl (vp_updL v k x) n rk n) n b fl me st lk cm) := by
  refine MMi_of (cc := cX3_changeValue) (maxL := 4) (ret := some .boolean) (by decide +kernel) rfl (Nat.le_of_ble_eq_true rfl) ?_
  intro p e s m args below meth c hx hb hr hts hown hlocks hml hP hK hN hD ls hl
  have hown : s.vm.findClass RX3 = some m.cls := hown
  have hl : lv_has ls 4 [(0, .ref r), (1, .int (nI k)), (2, .long x)] := hl
  have hS : va_S (va_A (RowC r va na ra cJ cI v nu rk n b fl me st lk cm) s.heap.size) s.heap s.heap [] := va_S.rf
  have hA := wk_hA (RowC r va na ra cJ cI v nu rk n b fl me st lk cm) s.heap.size
  have hD9 : True := trivial
  have hinX3 : ∀ w ∈ wsX30, w ∈ wsX3_changeValue := by decide +kernel
  refine lv_aload_n hx hb dX3_changeValue_0 rfl (lv_at hl 0 rfl) ?_
  refine lv_iload_n hx hb dX3_changeValue_1 rfl (lv_at hl 1 rfl) ?_
  refine wv_callPi (As := [.int (nI k)]) (rest := []) ⟨hx, hb, hml, hown, hts⟩ (kX3_isPlace l D r va na ra cJ cI v nu rk n b fl me st lk cm (nI k)) (cwV 1 hts gX3_changeValue_X3_isPlace rfl rfl rfl (by decide +kernel) ⟨Nat.le_of_ble_eq_true rfl, Nat.le_of_ble_eq_true rfl⟩) hK hN hP hS hA [0, 1, 2, 3] [0, 1] rfl rfl 0 2 rfl rfl rfl rfl hl.1 rfl (Nat.le_of_ble_eq_true rfl) dX3_changeValue_2 ⟨Nat.zero_le _, Nat.zero_le _⟩ (fun H locs hz9 hP hS => ?_)
  refine wv_ti (y := bI true) (by rw [inR_t hk (by omega)]) ?_
  refine wv_ifneB (tgt := 10) hx hb dX3_changeValue_5 (by decide) (fun _ => ?_) (fun h => by cases h)
  refine lv_aload_n hx hb dX3_changeValue_10 rfl (lv_at hl 0 rfl) ?_
  refine va_get (D := D) (ci := 2) (C := RX3) (T := TX3) (N := 10) hx hb hts hinX3 hown hK hP 0 rfl rfl 0 (by decide) (hts (.fieldLink RX3 9 "NearRanks$Row" "values" "[J") (by decide +kernel)) (fun _ h9 => h9) rfl dX3_changeValue_11 ?_
  refine lv_iload_n hx hb dX3_changeValue_14 rfl (lv_at hl 1 rfl) ?_
  refine lv_lload_n hx hb dX3_changeValue_15 rfl (lv_at hl 2 rfl) ?_
  refine wv_last hx hb hK hP hD hS 1 0 rfl rfl (k := k) (by omega) (by decide) dX3_changeValue_16 (fun H locs hP hD hS => ?_)
  have hP : va_P D vwCl (RowC r va na ra cJ cI (vp_updL v k x) nu rk n b fl me st lk cm) H := hP
  have hD : va_D _ (RowC r va na ra cJ cI (vp_updL v k x) nu rk n b fl me st lk cm) := hD
  refine lv_aload_n hx hb dX3_changeValue_17 rfl (lv_at hl 0 rfl) ?_
  refine wv_callMv (As := []) (rest := []) (wr := []) (ws1 := RowC r va na ra cJ cI (vp_updL v k x) nu (rfr fl (vp_updL v k x) n rk n) n b fl me st lk cm) ⟨hx, hb, hml, hown, hts⟩ (kX3_refreshRanks l D r va na ra cJ cI (vp_updL v k x) nu rk n b fl me st lk cm (by first | assumption | omega)) (cwV 0 hts gX3_changeValue_X3_refreshRanks rfl rfl rfl (by decide +kernel) ⟨Nat.le_of_ble_eq_true rfl, Nat.le_of_ble_eq_true rfl⟩) hK hN hP hD hS hA [0, 1, 2, 3] [] [0, 1] [0, 1, 2, 3] rfl rfl (by decide) rfl (by decide) (by decide) rfl (by decide) rfl 0 2 rfl rfl rfl rfl hl.1 rfl (Nat.le_of_ble_eq_true rfl) dX3_changeValue_18 ⟨Nat.zero_le _, Nat.zero_le _⟩ (fun H locs hz9 hP hD hS => ?_)
  refine lv_iconst (v := nI 1) hx hb dX3_changeValue_21 (by decide) ?_
  exact wv_zretM (b := true) hx hb hr hlocks hP hD hS rfl rfl rfl dX3_changeValue_22

set_option maxHeartbeats 4000000 in
set_option maxRecDepth 100000 in
theorem kX3_changeValue_no (l : Launch) (D : va_G) (r : Nat) (va : Nat) (na : Nat) (ra : Nat) (cJ : ClassId) (cI : ClassId) (v : Nat → Int64) (nu : Nat → Int32) (rk : Nat → Int32) (n : Nat) (b : Nat) (fl : Bool) (me : Bool) (st : Int32) (lk : Int32) (cm : Int32) (x : Int32) (y : Int64) (hno : inR x n = false) : PMi l yX3_changeValue wsX3_changeValue ({ frames := 1, cells := 0, slots := 0, locals := 21 } : Room) [.ref r, .int x, .long y] D (RowC r va na ra cJ cI v nu rk n b fl me st lk cm) [(cJ, .long), (cI, .int)] (nI 0) := by
  refine PMi_of (cc := cX3_changeValue) (maxL := 4) (ret := some .boolean) (by decide +kernel) rfl (Nat.le_of_ble_eq_true rfl) ?_
  intro p e s m args below meth c hx hb hr hts hown hlocks hml hP hK hN ls hl
  have hown : s.vm.findClass RX3 = some m.cls := hown
  have hl : lv_has ls 4 [(0, .ref r), (1, .int x), (2, .long y)] := hl
  have hS : va_S (va_A [] s.heap.size) s.heap s.heap [] := va_S.rf
  have hA := wk_hA [] s.heap.size
  have hD9 : True := trivial
  refine lv_aload_n hx hb dX3_changeValue_0 rfl (lv_at hl 0 rfl) ?_
  refine lv_iload_n hx hb dX3_changeValue_1 rfl (lv_at hl 1 rfl) ?_
  refine wv_callPi (As := [.int x]) (rest := []) ⟨hx, hb, hml, hown, hts⟩ (kX3_isPlace l D r va na ra cJ cI v nu rk n b fl me st lk cm x) (cwV 1 hts gX3_changeValue_X3_isPlace rfl rfl rfl (by decide +kernel) ⟨Nat.le_of_ble_eq_true rfl, Nat.le_of_ble_eq_true rfl⟩) hK hN hP hS hA [0, 1, 2, 3] [0, 1] rfl rfl 0 2 rfl rfl rfl rfl hl.1 rfl (Nat.le_of_ble_eq_true rfl) dX3_changeValue_2 ⟨Nat.zero_le _, Nat.zero_le _⟩ (fun H locs hz9 hP hS => ?_)
  refine wv_ifneB (tgt := 10) hx hb dX3_changeValue_5 (by decide) (fun c5 => by exfalso; rw [hno] at c5; cases c5) (fun c5 => ?_)
  refine lv_iconst (v := nI 0) hx hb dX3_changeValue_8 (by decide) ?_
  exact wv_zretP (b := false) hx hb hr hlocks hS (rfl : nI 0 = bI false) rfl dX3_changeValue_9

set_option maxHeartbeats 4000000 in
set_option maxRecDepth 100000 in
theorem kX3_changeBound_ok (l : Launch) (D : va_G) (r : Nat) (va : Nat) (na : Nat) (ra : Nat) (cJ : ClassId) (cI : ClassId) (v : Nat → Int64) (nu : Nat → Int32) (rk : Nat → Int32) (n : Nat) (b : Nat) (fl : Bool) (me : Bool) (st : Int32) (lk : Int32) (cm : Int32) (k : Nat) (hk : k ≤ 31) : MMi l yX3_changeBound wsX3_changeBound ({ frames := 1, cells := 0, slots := 0, locals := 21 } : Room) [.ref r, .int (nI k)] D (RowC r va na ra cJ cI v nu rk n b fl me st lk cm) [(cJ, .long), (cI, .int)] (nI 1) (RowC r va na ra cJ cI v nu rk n k fl me st lk cm) := by
  refine MMi_of (cc := cX3_changeBound) (maxL := 2) (ret := some .boolean) (by decide +kernel) rfl (Nat.le_of_ble_eq_true rfl) ?_
  intro p e s m args below meth c hx hb hr hts hown hlocks hml hP hK hN hD ls hl
  have hown : s.vm.findClass RX3 = some m.cls := hown
  have hl : lv_has ls 2 [(0, .ref r), (1, .int (nI k))] := hl
  have hS : va_S (va_A (RowC r va na ra cJ cI v nu rk n b fl me st lk cm) s.heap.size) s.heap s.heap [] := va_S.rf
  have hA := wk_hA (RowC r va na ra cJ cI v nu rk n b fl me st lk cm) s.heap.size
  have hD9 : True := trivial
  have hinX3 : ∀ w ∈ wsX30, w ∈ wsX3_changeBound := by decide +kernel
  refine lv_aload_n hx hb dX3_changeBound_0 rfl (lv_at hl 0 rfl) ?_
  refine lv_iload_n hx hb dX3_changeBound_1 rfl (lv_at hl 1 rfl) ?_
  refine wv_callPi (As := [.int (nI k)]) (rest := []) ⟨hx, hb, hml, hown, hts⟩ (kX3_isBound l D r va na ra cJ cI v nu rk n b fl me st lk cm (nI k)) (cwV 1 hts gX3_changeBound_X3_isBound rfl rfl rfl (by decide +kernel) ⟨Nat.le_of_ble_eq_true rfl, Nat.le_of_ble_eq_true rfl⟩) hK hN hP hS hA [0, 1, 2, 3] [0, 1] rfl rfl 0 2 rfl rfl rfl rfl hl.1 rfl (Nat.le_of_ble_eq_true rfl) dX3_changeBound_2 ⟨Nat.zero_le _, Nat.zero_le _⟩ (fun H locs hz9 hP hS => ?_)
  refine wv_ti (y := bI true) (by rw [inB_t hk]) ?_
  refine wv_ifneB (tgt := 10) hx hb dX3_changeBound_5 (by decide) (fun _ => ?_) (fun h => by cases h)
  refine lv_aload_n hx hb dX3_changeBound_10 rfl (lv_at hl 0 rfl) ?_
  refine lv_iload_n hx hb dX3_changeBound_11 rfl (lv_at hl 1 rfl) ?_
  refine va_put (D := D) (ci := 2) (v := .int (nI k)) (ty := .int) (C := RX3) (T := TX3) (N := 10) hx hb hts hinX3 tyX3 tyX3_ok nmX3 hown hK hP hD hS 0 rfl rfl 4 (by decide) (hts (.fieldLink RX3 22 "NearRanks$Row" "bound" "I") (by decide +kernel)) (fun _ h9 => h9) rfl (by decide +kernel) rfl rfl (Nat.le_of_ble_eq_true rfl) dX3_changeBound_12 (fun H locs hP hD hS => ?_)
  have hP : va_P D vwCl (RowC r va na ra cJ cI v nu rk n k fl me st lk cm) H := hP
  have hD : va_D _ (RowC r va na ra cJ cI v nu rk n k fl me st lk cm) := hD
  refine lv_iconst (v := nI 1) hx hb dX3_changeBound_15 (by decide) ?_
  exact wv_zretM (b := true) hx hb hr hlocks hP hD hS rfl rfl rfl dX3_changeBound_16

set_option maxHeartbeats 4000000 in
set_option maxRecDepth 100000 in
theorem kX3_changeBound_no (l : Launch) (D : va_G) (r : Nat) (va : Nat) (na : Nat) (ra : Nat) (cJ : ClassId) (cI : ClassId) (v : Nat → Int64) (nu : Nat → Int32) (rk : Nat → Int32) (n : Nat) (b : Nat) (fl : Bool) (me : Bool) (st : Int32) (lk : Int32) (cm : Int32) (x : Int32) (hno : inB x = false) : PMi l yX3_changeBound wsX3_changeBound ({ frames := 1, cells := 0, slots := 0, locals := 21 } : Room) [.ref r, .int x] D (RowC r va na ra cJ cI v nu rk n b fl me st lk cm) [(cJ, .long), (cI, .int)] (nI 0) := by
  refine PMi_of (cc := cX3_changeBound) (maxL := 2) (ret := some .boolean) (by decide +kernel) rfl (Nat.le_of_ble_eq_true rfl) ?_
  intro p e s m args below meth c hx hb hr hts hown hlocks hml hP hK hN ls hl
  have hown : s.vm.findClass RX3 = some m.cls := hown
  have hl : lv_has ls 2 [(0, .ref r), (1, .int x)] := hl
  have hS : va_S (va_A [] s.heap.size) s.heap s.heap [] := va_S.rf
  have hA := wk_hA [] s.heap.size
  have hD9 : True := trivial
  refine lv_aload_n hx hb dX3_changeBound_0 rfl (lv_at hl 0 rfl) ?_
  refine lv_iload_n hx hb dX3_changeBound_1 rfl (lv_at hl 1 rfl) ?_
  refine wv_callPi (As := [.int x]) (rest := []) ⟨hx, hb, hml, hown, hts⟩ (kX3_isBound l D r va na ra cJ cI v nu rk n b fl me st lk cm x) (cwV 1 hts gX3_changeBound_X3_isBound rfl rfl rfl (by decide +kernel) ⟨Nat.le_of_ble_eq_true rfl, Nat.le_of_ble_eq_true rfl⟩) hK hN hP hS hA [0, 1, 2, 3] [0, 1] rfl rfl 0 2 rfl rfl rfl rfl hl.1 rfl (Nat.le_of_ble_eq_true rfl) dX3_changeBound_2 ⟨Nat.zero_le _, Nat.zero_le _⟩ (fun H locs hz9 hP hS => ?_)
  refine wv_ifneB (tgt := 10) hx hb dX3_changeBound_5 (by decide) (fun c5 => by exfalso; rw [hno] at c5; cases c5) (fun c5 => ?_)
  refine lv_iconst (v := nI 0) hx hb dX3_changeBound_8 (by decide) ?_
  exact wv_zretP (b := false) hx hb hr hlocks hS (rfl : nI 0 = bI false) rfl dX3_changeBound_9

set_option maxHeartbeats 4000000 in
set_option maxRecDepth 100000 in
theorem kX3_changeOrder (l : Launch) (D : va_G) (r : Nat) (va : Nat) (na : Nat) (ra : Nat) (cJ : ClassId) (cI : ClassId) (v : Nat → Int64) (nu : Nat → Int32) (rk : Nat → Int32) (n : Nat) (b : Nat) (fl : Bool) (me : Bool) (st : Int32) (lk : Int32) (cm : Int32) (f : Bool) (hn : n ≤ 32) : MMv l yX3_changeOrder wsX3_changeOrder ({ frames := 3, cells := 0, slots := 0, locals := 69 } : Room) [.ref r, .int (bI f)] D (RowC r va na ra cJ cI v nu rk n b fl me st lk cm) [(cJ, .long), (cI, .int)] (RowC r va na ra cJ cI v nu (rfr f v n rk n) n b f me st lk cm) := by
  refine MMv_of (cc := cX3_changeOrder) (maxL := 2) (ret := none) (by decide +kernel) rfl (Nat.le_of_ble_eq_true rfl) ?_
  intro p e s m args below meth c hx hb hr hts hown hlocks hml hP hK hN hD ls hl
  have hown : s.vm.findClass RX3 = some m.cls := hown
  have hl : lv_has ls 2 [(0, .ref r), (1, .int (bI f))] := hl
  have hS : va_S (va_A (RowC r va na ra cJ cI v nu rk n b fl me st lk cm) s.heap.size) s.heap s.heap [] := va_S.rf
  have hA := wk_hA (RowC r va na ra cJ cI v nu rk n b fl me st lk cm) s.heap.size
  have hD9 : True := trivial
  have hinX3 : ∀ w ∈ wsX30, w ∈ wsX3_changeOrder := by decide +kernel
  refine lv_aload_n hx hb dX3_changeOrder_0 rfl (lv_at hl 0 rfl) ?_
  refine lv_iload_n hx hb dX3_changeOrder_1 rfl (lv_at hl 1 rfl) ?_
  refine va_put (D := D) (ci := 2) (v := .int (bI f)) (ty := .boolean) (C := RX3) (T := TX3) (N := 10) hx hb hts hinX3 tyX3 tyX3_ok nmX3 hown hK hP hD hS 0 rfl rfl 5 (by decide) (hts (.fieldLink RX3 35 "NearRanks$Row" "falling" "Z") (by decide +kernel)) (fun _ h9 => h9) rfl (by decide +kernel) (bI_nar _) (bI_fit _) (Nat.le_of_ble_eq_true rfl) dX3_changeOrder_2 (fun H locs hP hD hS => ?_)
  have hP : va_P D vwCl (RowC r va na ra cJ cI v nu rk n b f me st lk cm) H := hP
  have hD : va_D _ (RowC r va na ra cJ cI v nu rk n b f me st lk cm) := hD
  refine lv_aload_n hx hb dX3_changeOrder_5 rfl (lv_at hl 0 rfl) ?_
  refine wv_callMv (As := []) (rest := []) (wr := []) (ws1 := RowC r va na ra cJ cI v nu (rfr f v n rk n) n b f me st lk cm) ⟨hx, hb, hml, hown, hts⟩ (kX3_refreshRanks l D r va na ra cJ cI v nu rk n b f me st lk cm (by first | assumption | omega)) (cwV 0 hts gX3_changeOrder_X3_refreshRanks rfl rfl rfl (by decide +kernel) ⟨Nat.le_of_ble_eq_true rfl, Nat.le_of_ble_eq_true rfl⟩) hK hN hP hD hS hA [0, 1, 2, 3] [] [0, 1] [0, 1, 2, 3] rfl rfl (by decide) rfl (by decide) (by decide) rfl (by decide) rfl 0 2 rfl rfl rfl rfl hl.1 rfl (Nat.le_of_ble_eq_true rfl) dX3_changeOrder_6 ⟨Nat.zero_le _, Nat.zero_le _⟩ (fun H locs hz9 hP hD hS => ?_)
  exact wv_vretM hx hb hr hlocks hP hD hS rfl dX3_changeOrder_9

set_option maxHeartbeats 4000000 in
set_option maxRecDepth 100000 in
theorem kX3_swapElements_ok (l : Launch) (D : va_G) (r : Nat) (va : Nat) (na : Nat) (ra : Nat) (cJ : ClassId) (cI : ClassId) (v : Nat → Int64) (nu : Nat → Int32) (rk : Nat → Int32) (n : Nat) (b : Nat) (fl : Bool) (me : Bool) (st : Int32) (lk : Int32) (cm : Int32) (k : Nat) (hn : n ≤ 32) (hk1 : k + 1 < n) : MMi l yX3_swapElements wsX3_swapElements ({ frames := 1, cells := 0, slots := 0, locals := 21 } : Room) [.ref r, .int (nI k)] D (RowC r va na ra cJ cI v nu rk n b fl me st lk cm) [(cJ, .long), (cI, .int)] (nI 1) (RowC r va na ra cJ cI (swa v k) (swa nu k) (swr v rk k) n b fl me st lk cm) := by
  refine MMi_of (cc := cX3_swapElements) (maxL := 7) (ret := some .boolean) (by decide +kernel) rfl (Nat.le_of_ble_eq_true rfl) ?_
  intro p e s m args below meth c hx hb hr hts hown hlocks hml hP hK hN hD ls hl
  have hown : s.vm.findClass RX3 = some m.cls := hown
  have hl : lv_has ls 7 [(0, .ref r), (1, .int (nI k))] := hl
  have hS : va_S (va_A (RowC r va na ra cJ cI v nu rk n b fl me st lk cm) s.heap.size) s.heap s.heap [] := va_S.rf
  have hA := wk_hA (RowC r va na ra cJ cI v nu rk n b fl me st lk cm) s.heap.size
  have hD9 : True := trivial
  have hinX3 : ∀ w ∈ wsX30, w ∈ wsX3_swapElements := by decide +kernel
  refine lv_aload_n hx hb dX3_swapElements_0 rfl (lv_at hl 0 rfl) ?_
  refine lv_iload_n hx hb dX3_swapElements_1 rfl (lv_at hl 1 rfl) ?_
  refine wv_callPi (As := [.int (nI k)]) (rest := []) ⟨hx, hb, hml, hown, hts⟩ (kX3_hasNext l D r va na ra cJ cI v nu rk n b fl me st lk cm (nI k)) (cwV 1 hts gX3_swapElements_X3_hasNext rfl rfl rfl (by decide +kernel) ⟨Nat.le_of_ble_eq_true rfl, Nat.le_of_ble_eq_true rfl⟩) hK hN hP hS hA [0, 1, 2, 3] [0, 1] rfl rfl 0 2 rfl rfl rfl rfl hl.1 rfl (Nat.le_of_ble_eq_true rfl) dX3_swapElements_2 ⟨Nat.zero_le _, Nat.zero_le _⟩ (fun H locs hz9 hP hS => ?_)
  refine wv_ti (y := bI (decide (k + 1 < n))) (by rw [hnx_nI (by omega) (by omega)]) ?_
  refine wv_ifneD (tgt := 10) hx hb dX3_swapElements_5 (by decide) (fun c5 => ?_) (fun c5 => by exfalso; exact c5 hk1)
  refine lv_iload_n hx hb dX3_swapElements_10 rfl (lv_at hl 1 rfl) ?_
  refine lv_iconst (v := nI 1) hx hb dX3_swapElements_11 (by decide) ?_
  refine lv_iadd hx hb dX3_swapElements_12 ?_
  refine wv_ti (nI_add _ _) ?_
  refine lv_istore_n (lv' := [(2, .int (nI (k + 1))), (0, .ref r), (1, .int (nI k))]) hx hb dX3_swapElements_13 rfl hl (by decide) rfl (fun ls hl => ?_)
  refine lv_aload_n hx hb dX3_swapElements_14 rfl (lv_at hl 1 rfl) ?_
  refine va_get (D := D) (ci := 2) (C := RX3) (T := TX3) (N := 10) hx hb hts hinX3 hown hK hP 0 rfl rfl 1 (by decide) (hts (.fieldLink RX3 15 "NearRanks$Row" "numbers" "[I") (by decide +kernel)) (fun _ h9 => h9) rfl dX3_swapElements_15 ?_
  refine lv_iload_n hx hb dX3_swapElements_18 rfl (lv_at hl 2 rfl) ?_
  refine wv_iald hx hb hK hP 2 1 rfl rfl (k := k) (by omega) (by decide) dX3_swapElements_19 ?_
  refine lv_istore_n (lv' := [(3, .int (nu k)), (2, .int (nI (k + 1))), (0, .ref r), (1, .int (nI k))]) hx hb dX3_swapElements_20 rfl hl (by decide) rfl (fun ls hl => ?_)
  refine lv_aload_n hx hb dX3_swapElements_21 rfl (lv_at hl 2 rfl) ?_
  refine va_get (D := D) (ci := 2) (C := RX3) (T := TX3) (N := 10) hx hb hts hinX3 hown hK hP 0 rfl rfl 1 (by decide) (hts (.fieldLink RX3 15 "NearRanks$Row" "numbers" "[I") (by decide +kernel)) (fun _ h9 => h9) rfl dX3_swapElements_22 ?_
  refine lv_iload_n hx hb dX3_swapElements_25 rfl (lv_at hl 3 rfl) ?_
  refine lv_aload_n hx hb dX3_swapElements_26 rfl (lv_at hl 2 rfl) ?_
  refine va_get (D := D) (ci := 2) (C := RX3) (T := TX3) (N := 10) hx hb hts hinX3 hown hK hP 0 rfl rfl 1 (by decide) (hts (.fieldLink RX3 15 "NearRanks$Row" "numbers" "[I") (by decide +kernel)) (fun _ h9 => h9) rfl dX3_swapElements_27 ?_
  refine lv_iload_n hx hb dX3_swapElements_30 rfl (lv_at hl 1 rfl) ?_
  refine wv_iald hx hb hK hP 2 1 rfl rfl (k := k + 1) (by omega) (by decide) dX3_swapElements_31 ?_
  refine wv_iast hx hb hK hP hD hS 2 1 rfl rfl (k := k) (by omega) (by decide) dX3_swapElements_32 (fun H locs hP hD hS => ?_)
  have hP : va_P D vwCl (RowC r va na ra cJ cI v (upd nu k (nu (k + 1))) rk n b fl me st lk cm) H := hP
  have hD : va_D _ (RowC r va na ra cJ cI v (upd nu k (nu (k + 1))) rk n b fl me st lk cm) := hD
  refine lv_aload_n hx hb dX3_swapElements_33 rfl (lv_at hl 2 rfl) ?_
  refine va_get (D := D) (ci := 2) (C := RX3) (T := TX3) (N := 10) hx hb hts hinX3 hown hK hP 0 rfl rfl 1 (by decide) (hts (.fieldLink RX3 15 "NearRanks$Row" "numbers" "[I") (by decide +kernel)) (fun _ h9 => h9) rfl dX3_swapElements_34 ?_
  refine lv_iload_n hx hb dX3_swapElements_37 rfl (lv_at hl 1 rfl) ?_
  refine lv_iload_n hx hb dX3_swapElements_38 rfl (lv_at hl 0 rfl) ?_
  refine wv_iast hx hb hK hP hD hS 2 1 rfl rfl (k := k + 1) (by omega) (by decide) dX3_swapElements_39 (fun H locs hP hD hS => ?_)
  have hP : va_P D vwCl (RowC r va na ra cJ cI v (upd (upd nu k (nu (k + 1))) (k + 1) (nu k)) rk n b fl me st lk cm) H := hP
  have hD : va_D _ (RowC r va na ra cJ cI v (upd (upd nu k (nu (k + 1))) (k + 1) (nu k)) rk n b fl me st lk cm) := hD
  have er : upd (upd nu k (nu (k + 1))) (k + 1) (nu k) = swa nu k := swa_I nu k
  rw [er] at hP hD
  clear er
  refine lv_aload_n hx hb dX3_swapElements_40 rfl (lv_at hl 2 rfl) ?_
  refine va_get (D := D) (ci := 2) (C := RX3) (T := TX3) (N := 10) hx hb hts hinX3 hown hK hP 0 rfl rfl 0 (by decide) (hts (.fieldLink RX3 9 "NearRanks$Row" "values" "[J") (by decide +kernel)) (fun _ h9 => h9) rfl dX3_swapElements_41 ?_
  refine lv_iload_n hx hb dX3_swapElements_44 rfl (lv_at hl 3 rfl) ?_
  refine wv_lald hx hb hK hP 1 0 rfl rfl (k := k) (by omega) (by decide) dX3_swapElements_45 ?_
  refine lv_aload_n hx hb dX3_swapElements_46 rfl (lv_at hl 2 rfl) ?_
  refine va_get (D := D) (ci := 2) (C := RX3) (T := TX3) (N := 10) hx hb hts hinX3 hown hK hP 0 rfl rfl 0 (by decide) (hts (.fieldLink RX3 9 "NearRanks$Row" "values" "[J") (by decide +kernel)) (fun _ h9 => h9) rfl dX3_swapElements_47 ?_
  refine lv_iload_n hx hb dX3_swapElements_50 rfl (lv_at hl 1 rfl) ?_
  refine wv_lald hx hb hK hP 1 0 rfl rfl (k := k + 1) (by omega) (by decide) dX3_swapElements_51 ?_
  refine wv_lc_eq (tgt := 112) hx hb dX3_swapElements_52 dX3_swapElements_53 (by decide) (fun c53 => ?_) (fun c53 => ?_)
  · skip
    refine lv_iconst (v := nI 1) hx hb dX3_swapElements_112 (by decide) ?_
    have ew0_v : swa v k = v := by exact swa_eq c53
    have ew0_rk : swr v rk k = rk := by first | exact if_pos c53 | exact if_neg c53
    exact wv_zretM (b := true) hx hb hr hlocks hP hD hS rfl rfl (by rw [ew0_rk, ew0_v]) dX3_swapElements_113
  · skip
    refine lv_aload_n hx hb dX3_swapElements_56 rfl (lv_at hl 2 rfl) ?_
    refine va_get (D := D) (ci := 2) (C := RX3) (T := TX3) (N := 10) hx hb hts hinX3 hown hK hP 0 rfl rfl 0 (by decide) (hts (.fieldLink RX3 9 "NearRanks$Row" "values" "[J") (by decide +kernel)) (fun _ h9 => h9) rfl dX3_swapElements_57 ?_
    refine lv_iload_n hx hb dX3_swapElements_60 rfl (lv_at hl 3 rfl) ?_
    refine wv_lald hx hb hK hP 1 0 rfl rfl (k := k) (by omega) (by decide) dX3_swapElements_61 ?_
    refine lv_lstore (lv' := [(4, .long (v k)), (3, .int (nu k)), (2, .int (nI (k + 1))), (0, .ref r), (1, .int (nI k))]) hx hb dX3_swapElements_62 hl (by decide) rfl (fun ls hl => ?_)
    refine lv_aload_n hx hb dX3_swapElements_64 rfl (lv_at hl 3 rfl) ?_
    refine va_get (D := D) (ci := 2) (C := RX3) (T := TX3) (N := 10) hx hb hts hinX3 hown hK hP 0 rfl rfl 0 (by decide) (hts (.fieldLink RX3 9 "NearRanks$Row" "values" "[J") (by decide +kernel)) (fun _ h9 => h9) rfl dX3_swapElements_65 ?_
    refine lv_iload_n hx hb dX3_swapElements_68 rfl (lv_at hl 4 rfl) ?_
    refine lv_aload_n hx hb dX3_swapElements_69 rfl (lv_at hl 3 rfl) ?_
    refine va_get (D := D) (ci := 2) (C := RX3) (T := TX3) (N := 10) hx hb hts hinX3 hown hK hP 0 rfl rfl 0 (by decide) (hts (.fieldLink RX3 9 "NearRanks$Row" "values" "[J") (by decide +kernel)) (fun _ h9 => h9) rfl dX3_swapElements_70 ?_
    refine lv_iload_n hx hb dX3_swapElements_73 rfl (lv_at hl 2 rfl) ?_
    refine wv_lald hx hb hK hP 1 0 rfl rfl (k := k + 1) (by omega) (by decide) dX3_swapElements_74 ?_
    refine wv_last hx hb hK hP hD hS 1 0 rfl rfl (k := k) (by omega) (by decide) dX3_swapElements_75 (fun H locs hP hD hS => ?_)
    have hP : va_P D vwCl (RowC r va na ra cJ cI (vp_updL v k (v (k + 1))) (swa nu k) rk n b fl me st lk cm) H := hP
    have hD : va_D _ (RowC r va na ra cJ cI (vp_updL v k (v (k + 1))) (swa nu k) rk n b fl me st lk cm) := hD
    refine lv_aload_n hx hb dX3_swapElements_76 rfl (lv_at hl 3 rfl) ?_
    refine va_get (D := D) (ci := 2) (C := RX3) (T := TX3) (N := 10) hx hb hts hinX3 hown hK hP 0 rfl rfl 0 (by decide) (hts (.fieldLink RX3 9 "NearRanks$Row" "values" "[J") (by decide +kernel)) (fun _ h9 => h9) rfl dX3_swapElements_77 ?_
    refine lv_iload_n hx hb dX3_swapElements_80 rfl (lv_at hl 2 rfl) ?_
    refine lv_lload hx hb dX3_swapElements_81 (lv_at hl 0 rfl) ?_
    refine wv_last hx hb hK hP hD hS 1 0 rfl rfl (k := k + 1) (by omega) (by decide) dX3_swapElements_83 (fun H locs hP hD hS => ?_)
    have hP : va_P D vwCl (RowC r va na ra cJ cI (vp_updL (vp_updL v k (v (k + 1))) (k + 1) (v k)) (swa nu k) rk n b fl me st lk cm) H := hP
    have hD : va_D _ (RowC r va na ra cJ cI (vp_updL (vp_updL v k (v (k + 1))) (k + 1) (v k)) (swa nu k) rk n b fl me st lk cm) := hD
    have er : vp_updL (vp_updL v k (v (k + 1))) (k + 1) (v k) = swa v k := swa_L v k
    rw [er] at hP hD
    clear er
    refine lv_aload_n hx hb dX3_swapElements_84 rfl (lv_at hl 3 rfl) ?_
    refine va_get (D := D) (ci := 2) (C := RX3) (T := TX3) (N := 10) hx hb hts hinX3 hown hK hP 0 rfl rfl 2 (by decide) (hts (.fieldLink RX3 19 "NearRanks$Row" "ranks" "[I") (by decide +kernel)) (fun _ h9 => h9) rfl dX3_swapElements_85 ?_
    refine lv_iload_n hx hb dX3_swapElements_88 rfl (lv_at hl 4 rfl) ?_
    refine wv_iald hx hb hK hP 3 1 rfl rfl (k := k) (by omega) (by decide) dX3_swapElements_89 ?_
    refine lv_istore (lv' := [(6, .int (rk k)), (4, .long (v k)), (3, .int (nu k)), (2, .int (nI (k + 1))), (0, .ref r), (1, .int (nI k))]) hx hb dX3_swapElements_90 hl (by decide) rfl (fun ls hl => ?_)
    refine lv_aload_n hx hb dX3_swapElements_92 rfl (lv_at hl 4 rfl) ?_
    refine va_get (D := D) (ci := 2) (C := RX3) (T := TX3) (N := 10) hx hb hts hinX3 hown hK hP 0 rfl rfl 2 (by decide) (hts (.fieldLink RX3 19 "NearRanks$Row" "ranks" "[I") (by decide +kernel)) (fun _ h9 => h9) rfl dX3_swapElements_93 ?_
    refine lv_iload_n hx hb dX3_swapElements_96 rfl (lv_at hl 5 rfl) ?_
    refine lv_aload_n hx hb dX3_swapElements_97 rfl (lv_at hl 4 rfl) ?_
    refine va_get (D := D) (ci := 2) (C := RX3) (T := TX3) (N := 10) hx hb hts hinX3 hown hK hP 0 rfl rfl 2 (by decide) (hts (.fieldLink RX3 19 "NearRanks$Row" "ranks" "[I") (by decide +kernel)) (fun _ h9 => h9) rfl dX3_swapElements_98 ?_
    refine lv_iload_n hx hb dX3_swapElements_101 rfl (lv_at hl 3 rfl) ?_
    refine wv_iald hx hb hK hP 3 1 rfl rfl (k := k + 1) (by omega) (by decide) dX3_swapElements_102 ?_
    refine wv_iast hx hb hK hP hD hS 3 1 rfl rfl (k := k) (by omega) (by decide) dX3_swapElements_103 (fun H locs hP hD hS => ?_)
    have hP : va_P D vwCl (RowC r va na ra cJ cI (swa v k) (swa nu k) (upd rk k (rk (k + 1))) n b fl me st lk cm) H := hP
    have hD : va_D _ (RowC r va na ra cJ cI (swa v k) (swa nu k) (upd rk k (rk (k + 1))) n b fl me st lk cm) := hD
    refine lv_aload_n hx hb dX3_swapElements_104 rfl (lv_at hl 4 rfl) ?_
    refine va_get (D := D) (ci := 2) (C := RX3) (T := TX3) (N := 10) hx hb hts hinX3 hown hK hP 0 rfl rfl 2 (by decide) (hts (.fieldLink RX3 19 "NearRanks$Row" "ranks" "[I") (by decide +kernel)) (fun _ h9 => h9) rfl dX3_swapElements_105 ?_
    refine lv_iload_n hx hb dX3_swapElements_108 rfl (lv_at hl 3 rfl) ?_
    refine lv_iload hx hb dX3_swapElements_109 (lv_at hl 0 rfl) ?_
    refine wv_iast hx hb hK hP hD hS 3 1 rfl rfl (k := k + 1) (by omega) (by decide) dX3_swapElements_111 (fun H locs hP hD hS => ?_)
    have hP : va_P D vwCl (RowC r va na ra cJ cI (swa v k) (swa nu k) (upd (upd rk k (rk (k + 1))) (k + 1) (rk k)) n b fl me st lk cm) H := hP
    have hD : va_D _ (RowC r va na ra cJ cI (swa v k) (swa nu k) (upd (upd rk k (rk (k + 1))) (k + 1) (rk k)) n b fl me st lk cm) := hD
    have er : upd (upd rk k (rk (k + 1))) (k + 1) (rk k) = swa rk k := swa_I rk k
    rw [er] at hP hD
    clear er
    refine lv_iconst (v := nI 1) hx hb dX3_swapElements_112 (by decide) ?_
    have ew0_rk : swr v rk k = swa rk k := by first | exact if_pos c53 | exact if_neg c53
    exact wv_zretM (b := true) hx hb hr hlocks hP hD hS rfl rfl (by rw [ew0_rk]) dX3_swapElements_113

set_option maxHeartbeats 4000000 in
set_option maxRecDepth 100000 in
theorem kX3_swapElements_no (l : Launch) (D : va_G) (r : Nat) (va : Nat) (na : Nat) (ra : Nat) (cJ : ClassId) (cI : ClassId) (v : Nat → Int64) (nu : Nat → Int32) (rk : Nat → Int32) (n : Nat) (b : Nat) (fl : Bool) (me : Bool) (st : Int32) (lk : Int32) (cm : Int32) (x : Int32) (hno : hnx x n = false) : PMi l yX3_swapElements wsX3_swapElements ({ frames := 1, cells := 0, slots := 0, locals := 21 } : Room) [.ref r, .int x] D (RowC r va na ra cJ cI v nu rk n b fl me st lk cm) [(cJ, .long), (cI, .int)] (nI 0) := by
  refine PMi_of (cc := cX3_swapElements) (maxL := 7) (ret := some .boolean) (by decide +kernel) rfl (Nat.le_of_ble_eq_true rfl) ?_
  intro p e s m args below meth c hx hb hr hts hown hlocks hml hP hK hN ls hl
  have hown : s.vm.findClass RX3 = some m.cls := hown
  have hl : lv_has ls 7 [(0, .ref r), (1, .int x)] := hl
  have hS : va_S (va_A [] s.heap.size) s.heap s.heap [] := va_S.rf
  have hA := wk_hA [] s.heap.size
  have hD9 : True := trivial
  refine lv_aload_n hx hb dX3_swapElements_0 rfl (lv_at hl 0 rfl) ?_
  refine lv_iload_n hx hb dX3_swapElements_1 rfl (lv_at hl 1 rfl) ?_
  refine wv_callPi (As := [.int x]) (rest := []) ⟨hx, hb, hml, hown, hts⟩ (kX3_hasNext l D r va na ra cJ cI v nu rk n b fl me st lk cm x) (cwV 1 hts gX3_swapElements_X3_hasNext rfl rfl rfl (by decide +kernel) ⟨Nat.le_of_ble_eq_true rfl, Nat.le_of_ble_eq_true rfl⟩) hK hN hP hS hA [0, 1, 2, 3] [0, 1] rfl rfl 0 2 rfl rfl rfl rfl hl.1 rfl (Nat.le_of_ble_eq_true rfl) dX3_swapElements_2 ⟨Nat.zero_le _, Nat.zero_le _⟩ (fun H locs hz9 hP hS => ?_)
  refine wv_ifneB (tgt := 10) hx hb dX3_swapElements_5 (by decide) (fun c5 => by exfalso; rw [hno] at c5; cases c5) (fun c5 => ?_)
  refine lv_iconst (v := nI 0) hx hb dX3_swapElements_8 (by decide) ?_
  exact wv_zretP (b := false) hx hb hr hlocks hS (rfl : nI 0 = bI false) rfl dX3_swapElements_9

set_option maxHeartbeats 4000000 in
set_option maxRecDepth 100000 in
theorem kX3_mendOnce_no (l : Launch) (D : va_G) (r : Nat) (va : Nat) (na : Nat) (ra : Nat) (cJ : ClassId) (cI : ClassId) (v : Nat → Int64) (nu : Nat → Int32) (rk : Nat → Int32) (n : Nat) (b : Nat) (fl : Bool) (me : Bool) (st : Int32) (lk : Int32) (cm : Int32) (hn : n ≤ 32) (hb : b ≤ 31) (hrk : ∀ i, i < n → rk i = nI (rk0 fl v n i)) (hw : (wpl (far fl v n) b n).2 = none) : PMi l yX3_mendOnce wsX3_mendOnce ({ frames := 3, cells := 0, slots := 0, locals := 66 } : Room) [.ref r] D (RowC r va na ra cJ cI v nu rk n b fl me st lk cm) [(cJ, .long), (cI, .int)] ((-1000)) := by
  refine PMi_of (cc := cX3_mendOnce) (maxL := 3) (ret := some .int) (by decide +kernel) rfl (Nat.le_of_ble_eq_true rfl) ?_
  intro p e s m args below meth c hx hb hr hts hown hlocks hml hP hK hN ls hl
  have hown : s.vm.findClass RX3 = some m.cls := hown
  have hl : lv_has ls 3 [(0, .ref r)] := hl
  have hS : va_S (va_A [] s.heap.size) s.heap s.heap [] := va_S.rf
  have hA := wk_hA [] s.heap.size
  have hD9 : True := trivial
  refine lv_aload_n hx hb dX3_mendOnce_0 rfl (lv_at hl 0 rfl) ?_
  refine wv_callPi (As := []) (rest := []) ⟨hx, hb, hml, hown, hts⟩ (kX3_worstPlace l D r va na ra cJ cI v nu rk n b fl me st lk cm (by first | assumption | omega) (by first | assumption | omega) (by first | assumption | omega)) (cwV 0 hts gX3_mendOnce_X3_worstPlace rfl rfl rfl (by decide +kernel) ⟨Nat.le_of_ble_eq_true rfl, Nat.le_of_ble_eq_true rfl⟩) hK hN hP hS hA [0, 1, 2, 3] [0, 1] rfl rfl 0 2 rfl rfl rfl rfl hl.1 rfl (Nat.le_of_ble_eq_true rfl) dX3_mendOnce_1 ⟨Nat.zero_le _, Nat.zero_le _⟩ (fun H locs hz9 hP hS => ?_)
  refine wv_ti (y := (-1000)) (by rw [hw]; rfl) ?_
  refine lv_istore_n (lv' := [(1, .int (-1000)), (0, .ref r)]) hx hb dX3_mendOnce_4 rfl hl (by decide) rfl (fun ls hl => ?_)
  refine lv_iload_n hx hb dX3_mendOnce_5 rfl (lv_at hl 0 rfl) ?_
  refine lv_sipush (v := (-1000)) hx hb dX3_mendOnce_6 (by decide) ?_
  refine lv_icmp_ne (tgt := 18) hx hb dX3_mendOnce_9 (by decide) (fun c9 => by exfalso; exact c9 rfl) (fun c9 => ?_)
  refine lv_sipush (v := (-1000)) hx hb dX3_mendOnce_12 (by decide) ?_
  refine lv_goto (tgt := 23) hx hb dX3_mendOnce_15 (by decide) ?_
  refine lv_istore_n (lv' := [(2, .int (-1000)), (1, .int (-1000)), (0, .ref r)]) hx hb dX3_mendOnce_23 rfl hl (by decide) rfl (fun ls hl => ?_)
  refine lv_iload_n hx hb dX3_mendOnce_24 rfl (lv_at hl 0 rfl) ?_
  refine lv_sipush (v := (-1000)) hx hb dX3_mendOnce_25 (by decide) ?_
  refine lv_icmp_eq (tgt := 47) hx hb dX3_mendOnce_28 (by decide) (fun c28 => ?_) (fun c28 => by exfalso; exact c28 rfl)
  refine lv_iload_n hx hb dX3_mendOnce_47 rfl (lv_at hl 0 rfl) ?_
  exact wv_iretP hx hb hr hlocks hS rfl dX3_mendOnce_48

set_option maxHeartbeats 4000000 in
set_option maxRecDepth 100000 in
theorem kX3_mendOnce_ok (l : Launch) (D : va_G) (r : Nat) (va : Nat) (na : Nat) (ra : Nat) (cJ : ClassId) (cI : ClassId) (v : Nat → Int64) (nu : Nat → Int32) (rk : Nat → Int32) (n : Nat) (b : Nat) (fl : Bool) (me : Bool) (st : Int32) (lk : Int32) (cm : Int32) (k : Nat) (q : Nat) (hn : n ≤ 32) (hb : b ≤ 31) (hrk : ∀ i, i < n → rk i = nI (rk0 fl v n i)) (hw : (wpl (far fl v n) b n).2 = some k) (hq : fno fl v n k = some q) : MMi l yX3_mendOnce wsX3_mendOnce ({ frames := 3, cells := 0, slots := 0, locals := 67 } : Room) [.ref r] D (RowC r va na ra cJ cI v nu rk n b fl me st lk cm) [(cJ, .long), (cI, .int)] (nI q) (RowC r va na ra cJ cI (swa v q) (swa nu q) (swr v rk q) n b fl me (st + (nI 1)) lk cm) := by
  refine MMi_of (cc := cX3_mendOnce) (maxL := 3) (ret := some .int) (by decide +kernel) rfl (Nat.le_of_ble_eq_true rfl) ?_
  intro p e s m args below meth c hx hb hr hts hown hlocks hml hP hK hN hD ls hl
  have hown : s.vm.findClass RX3 = some m.cls := hown
  have hl : lv_has ls 3 [(0, .ref r)] := hl
  have hS : va_S (va_A (RowC r va na ra cJ cI v nu rk n b fl me st lk cm) s.heap.size) s.heap s.heap [] := va_S.rf
  have hA := wk_hA (RowC r va na ra cJ cI v nu rk n b fl me st lk cm) s.heap.size
  have hD9 : True := trivial
  have hinX3 : ∀ w ∈ wsX30, w ∈ wsX3_mendOnce := by decide +kernel
  have hk := (wpl_some hw).1
  have hq1 := fal_lt (fno_fal hq)
  refine lv_aload_n hx hb dX3_mendOnce_0 rfl (lv_at hl 0 rfl) ?_
  refine wv_callPi (As := []) (rest := []) ⟨hx, hb, hml, hown, hts⟩ (kX3_worstPlace l D r va na ra cJ cI v nu rk n b fl me st lk cm (by first | assumption | omega) (by first | assumption | omega) (by first | assumption | omega)) (cwV 0 hts gX3_mendOnce_X3_worstPlace rfl rfl rfl (by decide +kernel) ⟨Nat.le_of_ble_eq_true rfl, Nat.le_of_ble_eq_true rfl⟩) hK hN hP hS hA [0, 1, 2, 3] [0, 1] rfl rfl 0 2 rfl rfl rfl rfl hl.1 rfl (Nat.le_of_ble_eq_true rfl) dX3_mendOnce_1 ⟨Nat.zero_le _, Nat.zero_le _⟩ (fun H locs hz9 hP hS => ?_)
  refine wv_ti (y := nI k) (by rw [hw]; rfl) ?_
  refine lv_istore_n (lv' := [(1, .int (nI k)), (0, .ref r)]) hx hb dX3_mendOnce_4 rfl hl (by decide) rfl (fun ls hl => ?_)
  refine lv_iload_n hx hb dX3_mendOnce_5 rfl (lv_at hl 0 rfl) ?_
  refine lv_sipush (v := (-1000)) hx hb dX3_mendOnce_6 (by decide) ?_
  refine lv_icmp_ne (tgt := 18) hx hb dX3_mendOnce_9 (by decide) (fun c9 => ?_) (fun c9 => by exfalso; exact nI_nn (by omega) c9)
  refine lv_aload_n hx hb dX3_mendOnce_18 rfl (lv_at hl 1 rfl) ?_
  refine lv_iload_n hx hb dX3_mendOnce_19 rfl (lv_at hl 0 rfl) ?_
  refine wv_callPi (As := [.int (nI k)]) (rest := []) ⟨hx, hb, hml, hown, hts⟩ (kX3_fallNearest l D r va na ra cJ cI v nu rk n b fl me st lk cm k (by first | assumption | omega) (by first | assumption | omega) (by first | assumption | omega)) (cwV 1 hts gX3_mendOnce_X3_fallNearest rfl rfl rfl (by decide +kernel) ⟨Nat.le_of_ble_eq_true rfl, Nat.le_of_ble_eq_true rfl⟩) hK hN hP hS hA [0, 1, 2, 3] [0, 1] rfl rfl 0 2 rfl rfl rfl rfl hl.1 rfl (Nat.le_of_ble_eq_true rfl) dX3_mendOnce_20 ⟨Nat.zero_le _, Nat.zero_le _⟩ (fun H locs hz9 hP hS => ?_)
  refine wv_ti (y := nI q) (by rw [hq]; rfl) ?_
  refine lv_istore_n (lv' := [(2, .int (nI q)), (1, .int (nI k)), (0, .ref r)]) hx hb dX3_mendOnce_23 rfl hl (by decide) rfl (fun ls hl => ?_)
  refine lv_iload_n hx hb dX3_mendOnce_24 rfl (lv_at hl 0 rfl) ?_
  refine lv_sipush (v := (-1000)) hx hb dX3_mendOnce_25 (by decide) ?_
  refine lv_icmp_eq (tgt := 47) hx hb dX3_mendOnce_28 (by decide) (fun c28 => by exfalso; exact nI_nn (by omega) c28) (fun c28 => ?_)
  refine lv_aload_n hx hb dX3_mendOnce_31 rfl (lv_at hl 2 rfl) ?_
  refine lv_iload_n hx hb dX3_mendOnce_32 rfl (lv_at hl 0 rfl) ?_
  refine wv_callMi (As := [.int (nI q)]) (rest := []) (wr := []) (ws1 := RowC r va na ra cJ cI (swa v q) (swa nu q) (swr v rk q) n b fl me st lk cm) ⟨hx, hb, hml, hown, hts⟩ (kX3_swapElements_ok l D r va na ra cJ cI v nu rk n b fl me st lk cm q (by first | assumption | omega) (by first | assumption | omega)) (cwV 1 hts gX3_mendOnce_X3_swapElements rfl rfl rfl (by decide +kernel) ⟨Nat.le_of_ble_eq_true rfl, Nat.le_of_ble_eq_true rfl⟩) hK hN hP hD hS hA [0, 1, 2, 3] [] [0, 1] [0, 1, 2, 3] rfl rfl (by decide) rfl (by decide) (by decide) rfl (by decide) rfl 0 2 rfl rfl rfl rfl hl.1 rfl (Nat.le_of_ble_eq_true rfl) dX3_mendOnce_33 ⟨Nat.zero_le _, Nat.zero_le _⟩ (fun H locs hz9 hP hD hS => ?_)
  refine lv_pop hx hb dX3_mendOnce_36 rfl ?_
  refine lv_aload_n hx hb dX3_mendOnce_37 rfl (lv_at hl 2 rfl) ?_
  refine lv_dup hx hb dX3_mendOnce_38 rfl ?_
  refine va_get (D := D) (ci := 2) (C := RX3) (T := TX3) (N := 10) hx hb hts hinX3 hown hK hP 0 rfl rfl 7 (by decide) (hts (.fieldLink RX3 42 "NearRanks$Row" "steps" "I") (by decide +kernel)) (fun _ h9 => h9) rfl dX3_mendOnce_39 ?_
  refine lv_iconst (v := nI 1) hx hb dX3_mendOnce_42 (by decide) ?_
  refine lv_iadd hx hb dX3_mendOnce_43 ?_
  refine va_put (D := D) (ci := 2) (v := .int (st + (nI 1))) (ty := .int) (C := RX3) (T := TX3) (N := 10) hx hb hts hinX3 tyX3 tyX3_ok nmX3 hown hK hP hD hS 0 rfl rfl 7 (by decide) (hts (.fieldLink RX3 42 "NearRanks$Row" "steps" "I") (by decide +kernel)) (fun _ h9 => h9) rfl (by decide +kernel) rfl rfl (Nat.le_of_ble_eq_true rfl) dX3_mendOnce_44 (fun H locs hP hD hS => ?_)
  have hP : va_P D vwCl (RowC r va na ra cJ cI (swa v q) (swa nu q) (swr v rk q) n b fl me (st + (nI 1)) lk cm) H := hP
  have hD : va_D _ (RowC r va na ra cJ cI (swa v q) (swa nu q) (swr v rk q) n b fl me (st + (nI 1)) lk cm) := hD
  refine lv_iload_n hx hb dX3_mendOnce_47 rfl (lv_at hl 0 rfl) ?_
  exact wv_iretM hx hb hr hlocks hP hD hS rfl rfl dX3_mendOnce_48

set_option maxHeartbeats 4000000 in
set_option maxRecDepth 100000 in
theorem kX3_mendFully (l : Launch) (D : va_G) (r : Nat) (va : Nat) (na : Nat) (ra : Nat) (cJ : ClassId) (cI : ClassId) (v : Nat → Int64) (nu : Nat → Int32) (rk : Nat → Int32) (n : Nat) (b : Nat) (fl : Bool) (me : Bool) (st : Int32) (lk : Int32) (cm : Int32) (hn : n ≤ 32) (hb : b ≤ 31) (hrk : ∀ i, i < n → rk i = nI (rk0 fl v n i)) : MMi l yX3_mendFully wsX3_mendFully ({ frames := 4, cells := 0, slots := 0, locals := 89 } : Room) [.ref r] D (RowC r va na ra cJ cI v nu rk n b fl me st lk cm) [(cJ, .long), (cI, .int)] (nI ((mL fl n b 1000 v).length)) (RowC r va na ra cJ cI (sws v (mL fl n b 1000 v)) (sws nu (mL fl n b 1000 v)) (rks v rk (mL fl n b 1000 v)) n b fl me (st + (nI (mL fl n b 1000 v).length)) lk cm) := by
  refine MMi_of (cc := cX3_mendFully) (maxL := 2) (ret := some .int) (by decide +kernel) rfl (Nat.le_of_ble_eq_true rfl) ?_
  intro p e s m args below meth c hx hb hr hts hown hlocks hml hP hK hN hD ls hl
  have hown : s.vm.findClass RX3 = some m.cls := hown
  have hl : lv_has ls 2 [(0, .ref r)] := hl
  have hS : va_S (va_A (RowC r va na ra cJ cI v nu rk n b fl me st lk cm) s.heap.size) s.heap s.heap [] := va_S.rf
  have hA := wk_hA (RowC r va na ra cJ cI v nu rk n b fl me st lk cm) s.heap.size
  have hD9 : True := trivial
  refine lv_iconst (v := nI 0) hx hb dX3_mendFully_0 (by decide) ?_
  refine lv_istore_n (lv' := [(1, .int (nI 0)), (0, .ref r)]) hx hb dX3_mendFully_1 rfl hl (by decide) rfl (fun ls hl => ?_)
  have loop2 : ∀ (K : Nat) (v1 : Nat → Int64) (nu1 : Nat → Int32) (rk1 : Nat → Int32) (st1 : Int32) (i : Nat), 1001 - i < K → i ≤ 1000 → (∀ j, j < n → rk1 j = nI (rk0 fl v1 n j)) → (mL fl n b 1000 v).length = i + (mL fl n b (1000 - i) v1).length → sws v (mL fl n b 1000 v) = sws v1 (mL fl n b (1000 - i) v1) → sws nu (mL fl n b 1000 v) = sws nu1 (mL fl n b (1000 - i) v1) → rks v rk (mL fl n b 1000 v) = rks v1 rk1 (mL fl n b (1000 - i) v1) → st1 = st + nI i → ∀ (H : Heap) (locs : List Loc), va_P D vwCl (RowC r va na ra cJ cI v1 nu1 rk1 n b fl me st1 lk cm) H → va_D (va_A (RowC r va na ra cJ cI v nu rk n b fl me st lk cm) s.heap.size) (RowC r va na ra cJ cI v1 nu1 rk1 n b fl me st1 lk cm) → va_S (va_A (RowC r va na ra cJ cI v nu rk n b fl me st lk cm) s.heap.size) s.heap H locs → ∀ ls : Array Slot, lv_has ls 2 [(0, .ref r), (1, .int (nI i))] → W p l e ({ frames := 4, cells := 0, slots := 0, locals := 89 } : Room) s m args below meth c H locs 0 0 (ZMi below args s D (RowC r va na ra cJ cI v nu rk n b fl me st lk cm) (nI ((mL fl n b 1000 v).length)) (RowC r va na ra cJ cI (sws v (mL fl n b 1000 v)) (sws nu (mL fl n b 1000 v)) (rks v rk (mL fl n b 1000 v)) n b fl me (st + (nI (mL fl n b 1000 v).length)) lk cm)) (F0 m 2 ls []) := by
    intro K
    induction K with
    | zero => intro v1 nu1 rk1 st1 i hK0; exact absurd hK0 (Nat.not_lt_zero _)
    | succ K ih2 =>
      intro v1 nu1 rk1 st1 i hKm hi hrk1 hLn hV hU hR hT H locs hP hD hS ls hl
      refine lv_iload_n hx hb dX3_mendFully_2 rfl (lv_at hl 1 rfl) ?_
      refine lv_sipush (v := nI 1000) hx hb dX3_mendFully_3 (by decide) ?_
      refine wv_icmp_ge (tgt := 25) hx hb (by omega) (by omega) dX3_mendFully_6 (by decide) (fun c6 => ?_) (fun c6 => ?_)
      · skip
        refine lv_iload_n hx hb dX3_mendFully_25 rfl (lv_at hl 1 rfl) ?_
        have ew0_v : sws v (mL fl n b 1000 v) = v1 := by rw [hV, show 1000 - i = 0 by omega]; rfl
        have ew0_nu : sws nu (mL fl n b 1000 v) = nu1 := by rw [hU, show 1000 - i = 0 by omega]; rfl
        have ew0_rk : rks v rk (mL fl n b 1000 v) = rk1 := by rw [hR, show 1000 - i = 0 by omega]; rfl
        have ew0_st : st + (nI (mL fl n b 1000 v).length) = st1 := by rw [hT, hLn, show 1000 - i = 0 by omega]; rfl
        exact wv_iretM hx hb hr hlocks hP hD hS (by rw [hLn, show 1000 - i = 0 by omega]; rfl) (by rw [ew0_st, ew0_rk, ew0_nu, ew0_v]) dX3_mendFully_26
      · skip
        refine lv_aload_n hx hb dX3_mendFully_9 rfl (lv_at hl 0 rfl) ?_
        rcases hw : (wpl (far fl v1 n) b n).2 with _ | k
        · skip
          have hm : mq fl n b v1 = none := by unfold mq; rw [hw]
          refine wv_callPi (As := []) (rest := []) ⟨hx, hb, hml, hown, hts⟩ (kX3_mendOnce_no l D r va na ra cJ cI v1 nu1 rk1 n b fl me st1 lk cm (by first | assumption | omega) (by first | assumption | omega) (by first | assumption | omega) (by first | assumption | omega)) (cwV 0 hts gX3_mendFully_X3_mendOnce rfl rfl rfl (by decide +kernel) ⟨Nat.le_of_ble_eq_true rfl, Nat.le_of_ble_eq_true rfl⟩) hK hN hP hS hA [0, 1, 2, 3] [0, 1] rfl rfl 0 2 rfl rfl rfl rfl hl.1 rfl (Nat.le_of_ble_eq_true rfl) dX3_mendFully_10 ⟨Nat.zero_le _, Nat.zero_le _⟩ (fun H locs hz9 hP hS => ?_)
          refine lv_sipush (v := (-1000)) hx hb dX3_mendFully_13 (by decide) ?_
          refine lv_icmp_eq (tgt := 25) hx hb dX3_mendFully_16 (by decide) (fun c16 => ?_) (fun c16 => by exfalso; exact c16 rfl)
          refine lv_iload_n hx hb dX3_mendFully_25 rfl (lv_at hl 1 rfl) ?_
          have ew0_v : sws v (mL fl n b 1000 v) = v1 := by rw [hV, mL_n hm]; rfl
          have ew0_nu : sws nu (mL fl n b 1000 v) = nu1 := by rw [hU, mL_n hm]; rfl
          have ew0_rk : rks v rk (mL fl n b 1000 v) = rk1 := by rw [hR, mL_n hm]; rfl
          have ew0_st : st + (nI (mL fl n b 1000 v).length) = st1 := by rw [hT, hLn, mL_n hm]; rfl
          exact wv_iretM hx hb hr hlocks hP hD hS (by rw [hLn, mL_n hm]; rfl) (by rw [ew0_st, ew0_rk, ew0_nu, ew0_v]) dX3_mendFully_26
        · skip
          obtain ⟨q, hq⟩ := fno_ex (v := v1) hw
          have hm : mq fl n b v1 = some q := by unfold mq; rw [hw]; exact hq
          have hq1 := fal_lt (mq_fal hm)
          have hs : mL fl n b (1000 - i) v1 = q :: mL fl n b (1000 - (i + 1)) (swa v1 q) := by rw [show 1000 - i = (1000 - (i + 1)) + 1 by omega]; exact mL_s hm
          refine wv_callMi (As := []) (rest := []) (wr := []) (ws1 := RowC r va na ra cJ cI (swa v1 q) (swa nu1 q) (swr v1 rk1 q) n b fl me (st1 + (nI 1)) lk cm) ⟨hx, hb, hml, hown, hts⟩ (kX3_mendOnce_ok l D r va na ra cJ cI v1 nu1 rk1 n b fl me st1 lk cm k q (by first | assumption | omega) (by first | assumption | omega) (by first | assumption | omega) (by first | assumption | omega) (by first | assumption | omega)) (cwV 0 hts gX3_mendFully_X3_mendOnce rfl rfl rfl (by decide +kernel) ⟨Nat.le_of_ble_eq_true rfl, Nat.le_of_ble_eq_true rfl⟩) hK hN hP hD hS hA [0, 1, 2, 3] [] [0, 1] [0, 1, 2, 3] rfl rfl (by decide) rfl (by decide) (by decide) rfl (by decide) rfl 0 2 rfl rfl rfl rfl hl.1 rfl (Nat.le_of_ble_eq_true rfl) dX3_mendFully_10 ⟨Nat.zero_le _, Nat.zero_le _⟩ (fun H locs hz9 hP hD hS => ?_)
          refine lv_sipush (v := (-1000)) hx hb dX3_mendFully_13 (by decide) ?_
          refine lv_icmp_eq (tgt := 25) hx hb dX3_mendFully_16 (by decide) (fun c16 => by exfalso; exact nI_nn (by omega) c16) (fun c16 => ?_)
          refine lv_iinc (v := nI (i + 1)) (lv' := [(1, .int (nI (i + 1))), (0, .ref r)]) hx hb dX3_mendFully_19 hl (k := 1) rfl (nI_1 _) (by decide) rfl (fun ls hl => ?_)
          refine lv_goto (tgt := 2) hx hb dX3_mendFully_22 (by decide) ?_
          exact ih2 (swa v1 q) (swa nu1 q) (swr v1 rk1 q) (st1 + (nI 1)) (i + 1) (by omega) (by first | assumption | omega) (by exact swr_hrk hq1 hrk1) (by rw [hLn, hs, List.length_cons]; omega) (by rw [hV, hs]; rfl) (by rw [hU, hs]; rfl) (by rw [hR, hs]; rfl) (by rw [hT, Int32.add_assoc, nI_add]) _ _ hP hD hS ls (lv_sub hl [1, 0] rfl)
  exact loop2 (1001 - 0 + 1) v nu rk st 0 (by omega) (by first | assumption | omega) (by exact hrk) (by rw [Nat.zero_add]) (by rfl) (by rfl) (by rfl) (by rw [nI_0, Int32.add_zero]) _ _ hP hD hS ls (lv_sub hl [1, 0] rfl)

set_option maxHeartbeats 4000000 in
set_option maxRecDepth 100000 in
theorem kX3_copyFrom (l : Launch) (D : va_G) (r : Nat) (va : Nat) (na : Nat) (ra : Nat) (cJ : ClassId) (cI : ClassId) (v : Nat → Int64) (nu : Nat → Int32) (rk : Nat → Int32) (n : Nat) (b : Nat) (fl : Bool) (me : Bool) (st : Int32) (lk : Int32) (cm : Int32) (r2 : Nat) (va2 : Nat) (na2 : Nat) (ra2 : Nat) (v2 : Nat → Int64) (nu2 : Nat → Int32) (rk2 : Nat → Int32) (n2 : Nat) (b2 : Nat) (fl2 : Bool) (me2 : Bool) (st2 : Int32) (lk2 : Int32) (cm2 : Int32)  : MMv l yX3_copyFrom wsX3_copyFrom ({ frames := 1, cells := 0, slots := 0, locals := 40 } : Room) [.ref r, .ref r2] D ((RowC r va na ra cJ cI v nu rk n b fl me st lk cm) ++ (RowC r2 va2 na2 ra2 cJ cI v2 nu2 rk2 n2 b2 fl2 me2 st2 lk2 cm2)) [(cJ, .long), (cI, .int)] ((RowC r va na ra cJ cI (cp32 v2 v) (cp32 nu2 nu) (cp32 rk2 rk) n2 b2 fl2 me2 st2 lk2 cm2) ++ (RowC r2 va2 na2 ra2 cJ cI v2 nu2 rk2 n2 b2 fl2 me2 st2 lk2 cm2)) := by
  refine MMv_of (cc := cX3_copyFrom) (maxL := 2) (ret := none) (by decide +kernel) rfl (Nat.le_of_ble_eq_true rfl) ?_
  intro p e s m args below meth c hx hb hr hts hown hlocks hml hP hK hN hD ls hl
  have hown : s.vm.findClass RX3 = some m.cls := hown
  have hl : lv_has ls 2 [(0, .ref r), (1, .ref r2)] := hl
  have hS : va_S (va_A ((RowC r va na ra cJ cI v nu rk n b fl me st lk cm) ++ (RowC r2 va2 na2 ra2 cJ cI v2 nu2 rk2 n2 b2 fl2 me2 st2 lk2 cm2)) s.heap.size) s.heap s.heap [] := va_S.rf
  have hA := wk_hA ((RowC r va na ra cJ cI v nu rk n b fl me st lk cm) ++ (RowC r2 va2 na2 ra2 cJ cI v2 nu2 rk2 n2 b2 fl2 me2 st2 lk2 cm2)) s.heap.size
  have hD9 : True := trivial
  have hinX3 : ∀ w ∈ wsX30, w ∈ wsX3_copyFrom := by decide +kernel
  refine lv_aload_n hx hb dX3_copyFrom_0 rfl (lv_at hl 1 rfl) ?_
  refine va_get (D := D) (ci := 2) (C := RX3) (T := TX3) (N := 10) hx hb hts hinX3 hown hK hP 4 rfl rfl 0 (by decide) (hts (.fieldLink RX3 9 "NearRanks$Row" "values" "[J") (by decide +kernel)) (fun _ h9 => h9) rfl dX3_copyFrom_1 ?_
  refine lv_iconst (v := nI 0) hx hb dX3_copyFrom_4 (by decide) ?_
  refine lv_aload_n hx hb dX3_copyFrom_5 rfl (lv_at hl 0 rfl) ?_
  refine va_get (D := D) (ci := 2) (C := RX3) (T := TX3) (N := 10) hx hb hts hinX3 hown hK hP 0 rfl rfl 0 (by decide) (hts (.fieldLink RX3 9 "NearRanks$Row" "values" "[J") (by decide +kernel)) (fun _ h9 => h9) rfl dX3_copyFrom_6 ?_
  refine lv_iconst (v := nI 0) hx hb dX3_copyFrom_9 (by decide) ?_
  refine lv_bipush (v := nI 32) hx hb dX3_copyFrom_10 (by decide) ?_
  refine va_copyl hx hb (by rw [hml]; exact hl.1.symm) hown (hts (.methodLink RX3 26 arraycopyName) (by decide +kernel)) (hts (.native arraycopyName) (by decide +kernel)) (hts (.static arraycopyName) (by decide +kernel)) (hts (.initialized "java/lang/System") (by decide +kernel)) hK hP hD hS 5 1 0 0 rfl rfl rfl rfl rfl (by decide) (by decide) (by decide) (by decide) (by decide) (fun _ _ => rfl) (Nat.le_of_ble_eq_true rfl) (Nat.le_of_ble_eq_true rfl) dX3_copyFrom_12 (fun H locs hP hD hS => ?_)
  rw [wk_cp] at hP hD
  have hP : va_P D vwCl ((RowC r va na ra cJ cI (cp32 v2 v) nu rk n b fl me st lk cm) ++ (RowC r2 va2 na2 ra2 cJ cI v2 nu2 rk2 n2 b2 fl2 me2 st2 lk2 cm2)) H := hP
  have hD : va_D _ ((RowC r va na ra cJ cI (cp32 v2 v) nu rk n b fl me st lk cm) ++ (RowC r2 va2 na2 ra2 cJ cI v2 nu2 rk2 n2 b2 fl2 me2 st2 lk2 cm2)) := hD
  refine lv_aload_n hx hb dX3_copyFrom_15 rfl (lv_at hl 1 rfl) ?_
  refine va_get (D := D) (ci := 2) (C := RX3) (T := TX3) (N := 10) hx hb hts hinX3 hown hK hP 4 rfl rfl 1 (by decide) (hts (.fieldLink RX3 15 "NearRanks$Row" "numbers" "[I") (by decide +kernel)) (fun _ h9 => h9) rfl dX3_copyFrom_16 ?_
  refine lv_iconst (v := nI 0) hx hb dX3_copyFrom_19 (by decide) ?_
  refine lv_aload_n hx hb dX3_copyFrom_20 rfl (lv_at hl 0 rfl) ?_
  refine va_get (D := D) (ci := 2) (C := RX3) (T := TX3) (N := 10) hx hb hts hinX3 hown hK hP 0 rfl rfl 1 (by decide) (hts (.fieldLink RX3 15 "NearRanks$Row" "numbers" "[I") (by decide +kernel)) (fun _ h9 => h9) rfl dX3_copyFrom_21 ?_
  refine lv_iconst (v := nI 0) hx hb dX3_copyFrom_24 (by decide) ?_
  refine lv_bipush (v := nI 32) hx hb dX3_copyFrom_25 (by decide) ?_
  refine va_copyi hx hb (by rw [hml]; exact hl.1.symm) hown (hts (.methodLink RX3 26 arraycopyName) (by decide +kernel)) (hts (.native arraycopyName) (by decide +kernel)) (hts (.static arraycopyName) (by decide +kernel)) (hts (.initialized "java/lang/System") (by decide +kernel)) hK hP hD hS 6 2 1 1 rfl rfl rfl rfl rfl (by decide) (by decide) (by decide) (by decide) (by decide) (fun _ _ => rfl) (Nat.le_of_ble_eq_true rfl) (Nat.le_of_ble_eq_true rfl) dX3_copyFrom_27 (fun H locs hP hD hS => ?_)
  rw [wk_cp] at hP hD
  have hP : va_P D vwCl ((RowC r va na ra cJ cI (cp32 v2 v) (cp32 nu2 nu) rk n b fl me st lk cm) ++ (RowC r2 va2 na2 ra2 cJ cI v2 nu2 rk2 n2 b2 fl2 me2 st2 lk2 cm2)) H := hP
  have hD : va_D _ ((RowC r va na ra cJ cI (cp32 v2 v) (cp32 nu2 nu) rk n b fl me st lk cm) ++ (RowC r2 va2 na2 ra2 cJ cI v2 nu2 rk2 n2 b2 fl2 me2 st2 lk2 cm2)) := hD
  refine lv_aload_n hx hb dX3_copyFrom_30 rfl (lv_at hl 1 rfl) ?_
  refine va_get (D := D) (ci := 2) (C := RX3) (T := TX3) (N := 10) hx hb hts hinX3 hown hK hP 4 rfl rfl 2 (by decide) (hts (.fieldLink RX3 19 "NearRanks$Row" "ranks" "[I") (by decide +kernel)) (fun _ h9 => h9) rfl dX3_copyFrom_31 ?_
  refine lv_iconst (v := nI 0) hx hb dX3_copyFrom_34 (by decide) ?_
  refine lv_aload_n hx hb dX3_copyFrom_35 rfl (lv_at hl 0 rfl) ?_
  refine va_get (D := D) (ci := 2) (C := RX3) (T := TX3) (N := 10) hx hb hts hinX3 hown hK hP 0 rfl rfl 2 (by decide) (hts (.fieldLink RX3 19 "NearRanks$Row" "ranks" "[I") (by decide +kernel)) (fun _ h9 => h9) rfl dX3_copyFrom_36 ?_
  refine lv_iconst (v := nI 0) hx hb dX3_copyFrom_39 (by decide) ?_
  refine lv_bipush (v := nI 32) hx hb dX3_copyFrom_40 (by decide) ?_
  refine va_copyi hx hb (by rw [hml]; exact hl.1.symm) hown (hts (.methodLink RX3 26 arraycopyName) (by decide +kernel)) (hts (.native arraycopyName) (by decide +kernel)) (hts (.static arraycopyName) (by decide +kernel)) (hts (.initialized "java/lang/System") (by decide +kernel)) hK hP hD hS 7 3 1 1 rfl rfl rfl rfl rfl (by decide) (by decide) (by decide) (by decide) (by decide) (fun _ _ => rfl) (Nat.le_of_ble_eq_true rfl) (Nat.le_of_ble_eq_true rfl) dX3_copyFrom_42 (fun H locs hP hD hS => ?_)
  rw [wk_cp] at hP hD
  have hP : va_P D vwCl ((RowC r va na ra cJ cI (cp32 v2 v) (cp32 nu2 nu) (cp32 rk2 rk) n b fl me st lk cm) ++ (RowC r2 va2 na2 ra2 cJ cI v2 nu2 rk2 n2 b2 fl2 me2 st2 lk2 cm2)) H := hP
  have hD : va_D _ ((RowC r va na ra cJ cI (cp32 v2 v) (cp32 nu2 nu) (cp32 rk2 rk) n b fl me st lk cm) ++ (RowC r2 va2 na2 ra2 cJ cI v2 nu2 rk2 n2 b2 fl2 me2 st2 lk2 cm2)) := hD
  refine lv_aload_n hx hb dX3_copyFrom_45 rfl (lv_at hl 0 rfl) ?_
  refine lv_aload_n hx hb dX3_copyFrom_46 rfl (lv_at hl 1 rfl) ?_
  refine va_get (D := D) (ci := 2) (C := RX3) (T := TX3) (N := 10) hx hb hts hinX3 hown hK hP 4 rfl rfl 3 (by decide) (hts (.fieldLink RX3 32 "NearRanks$Row" "size" "I") (by decide +kernel)) (fun _ h9 => h9) rfl dX3_copyFrom_47 ?_
  refine va_put (D := D) (ci := 2) (v := .int (nI n2)) (ty := .int) (C := RX3) (T := TX3) (N := 10) hx hb hts hinX3 tyX3 tyX3_ok nmX3 hown hK hP hD hS 0 rfl rfl 3 (by decide) (hts (.fieldLink RX3 32 "NearRanks$Row" "size" "I") (by decide +kernel)) (fun _ h9 => h9) rfl (by decide +kernel) rfl rfl (Nat.le_of_ble_eq_true rfl) dX3_copyFrom_50 (fun H locs hP hD hS => ?_)
  have hP : va_P D vwCl ((RowC r va na ra cJ cI (cp32 v2 v) (cp32 nu2 nu) (cp32 rk2 rk) n2 b fl me st lk cm) ++ (RowC r2 va2 na2 ra2 cJ cI v2 nu2 rk2 n2 b2 fl2 me2 st2 lk2 cm2)) H := hP
  have hD : va_D _ ((RowC r va na ra cJ cI (cp32 v2 v) (cp32 nu2 nu) (cp32 rk2 rk) n2 b fl me st lk cm) ++ (RowC r2 va2 na2 ra2 cJ cI v2 nu2 rk2 n2 b2 fl2 me2 st2 lk2 cm2)) := hD
  refine lv_aload_n hx hb dX3_copyFrom_53 rfl (lv_at hl 0 rfl) ?_
  refine lv_aload_n hx hb dX3_copyFrom_54 rfl (lv_at hl 1 rfl) ?_
  refine va_get (D := D) (ci := 2) (C := RX3) (T := TX3) (N := 10) hx hb hts hinX3 hown hK hP 4 rfl rfl 4 (by decide) (hts (.fieldLink RX3 22 "NearRanks$Row" "bound" "I") (by decide +kernel)) (fun _ h9 => h9) rfl dX3_copyFrom_55 ?_
  refine va_put (D := D) (ci := 2) (v := .int (nI b2)) (ty := .int) (C := RX3) (T := TX3) (N := 10) hx hb hts hinX3 tyX3 tyX3_ok nmX3 hown hK hP hD hS 0 rfl rfl 4 (by decide) (hts (.fieldLink RX3 22 "NearRanks$Row" "bound" "I") (by decide +kernel)) (fun _ h9 => h9) rfl (by decide +kernel) rfl rfl (Nat.le_of_ble_eq_true rfl) dX3_copyFrom_58 (fun H locs hP hD hS => ?_)
  have hP : va_P D vwCl ((RowC r va na ra cJ cI (cp32 v2 v) (cp32 nu2 nu) (cp32 rk2 rk) n2 b2 fl me st lk cm) ++ (RowC r2 va2 na2 ra2 cJ cI v2 nu2 rk2 n2 b2 fl2 me2 st2 lk2 cm2)) H := hP
  have hD : va_D _ ((RowC r va na ra cJ cI (cp32 v2 v) (cp32 nu2 nu) (cp32 rk2 rk) n2 b2 fl me st lk cm) ++ (RowC r2 va2 na2 ra2 cJ cI v2 nu2 rk2 n2 b2 fl2 me2 st2 lk2 cm2)) := hD
  refine lv_aload_n hx hb dX3_copyFrom_61 rfl (lv_at hl 0 rfl) ?_
  refine lv_aload_n hx hb dX3_copyFrom_62 rfl (lv_at hl 1 rfl) ?_
  refine va_get (D := D) (ci := 2) (C := RX3) (T := TX3) (N := 10) hx hb hts hinX3 hown hK hP 4 rfl rfl 5 (by decide) (hts (.fieldLink RX3 35 "NearRanks$Row" "falling" "Z") (by decide +kernel)) (fun _ h9 => h9) rfl dX3_copyFrom_63 ?_
  refine va_put (D := D) (ci := 2) (v := .int (bI fl2)) (ty := .boolean) (C := RX3) (T := TX3) (N := 10) hx hb hts hinX3 tyX3 tyX3_ok nmX3 hown hK hP hD hS 0 rfl rfl 5 (by decide) (hts (.fieldLink RX3 35 "NearRanks$Row" "falling" "Z") (by decide +kernel)) (fun _ h9 => h9) rfl (by decide +kernel) (bI_nar _) (bI_fit _) (Nat.le_of_ble_eq_true rfl) dX3_copyFrom_66 (fun H locs hP hD hS => ?_)
  have hP : va_P D vwCl ((RowC r va na ra cJ cI (cp32 v2 v) (cp32 nu2 nu) (cp32 rk2 rk) n2 b2 fl2 me st lk cm) ++ (RowC r2 va2 na2 ra2 cJ cI v2 nu2 rk2 n2 b2 fl2 me2 st2 lk2 cm2)) H := hP
  have hD : va_D _ ((RowC r va na ra cJ cI (cp32 v2 v) (cp32 nu2 nu) (cp32 rk2 rk) n2 b2 fl2 me st lk cm) ++ (RowC r2 va2 na2 ra2 cJ cI v2 nu2 rk2 n2 b2 fl2 me2 st2 lk2 cm2)) := hD
  refine lv_aload_n hx hb dX3_copyFrom_69 rfl (lv_at hl 0 rfl) ?_
  refine lv_aload_n hx hb dX3_copyFrom_70 rfl (lv_at hl 1 rfl) ?_
  refine va_get (D := D) (ci := 2) (C := RX3) (T := TX3) (N := 10) hx hb hts hinX3 hown hK hP 4 rfl rfl 6 (by decide) (hts (.fieldLink RX3 39 "NearRanks$Row" "mendsItself" "Z") (by decide +kernel)) (fun _ h9 => h9) rfl dX3_copyFrom_71 ?_
  refine va_put (D := D) (ci := 2) (v := .int (bI me2)) (ty := .boolean) (C := RX3) (T := TX3) (N := 10) hx hb hts hinX3 tyX3 tyX3_ok nmX3 hown hK hP hD hS 0 rfl rfl 6 (by decide) (hts (.fieldLink RX3 39 "NearRanks$Row" "mendsItself" "Z") (by decide +kernel)) (fun _ h9 => h9) rfl (by decide +kernel) (bI_nar _) (bI_fit _) (Nat.le_of_ble_eq_true rfl) dX3_copyFrom_74 (fun H locs hP hD hS => ?_)
  have hP : va_P D vwCl ((RowC r va na ra cJ cI (cp32 v2 v) (cp32 nu2 nu) (cp32 rk2 rk) n2 b2 fl2 me2 st lk cm) ++ (RowC r2 va2 na2 ra2 cJ cI v2 nu2 rk2 n2 b2 fl2 me2 st2 lk2 cm2)) H := hP
  have hD : va_D _ ((RowC r va na ra cJ cI (cp32 v2 v) (cp32 nu2 nu) (cp32 rk2 rk) n2 b2 fl2 me2 st lk cm) ++ (RowC r2 va2 na2 ra2 cJ cI v2 nu2 rk2 n2 b2 fl2 me2 st2 lk2 cm2)) := hD
  refine lv_aload_n hx hb dX3_copyFrom_77 rfl (lv_at hl 0 rfl) ?_
  refine lv_aload_n hx hb dX3_copyFrom_78 rfl (lv_at hl 1 rfl) ?_
  refine va_get (D := D) (ci := 2) (C := RX3) (T := TX3) (N := 10) hx hb hts hinX3 hown hK hP 4 rfl rfl 7 (by decide) (hts (.fieldLink RX3 42 "NearRanks$Row" "steps" "I") (by decide +kernel)) (fun _ h9 => h9) rfl dX3_copyFrom_79 ?_
  refine va_put (D := D) (ci := 2) (v := .int st2) (ty := .int) (C := RX3) (T := TX3) (N := 10) hx hb hts hinX3 tyX3 tyX3_ok nmX3 hown hK hP hD hS 0 rfl rfl 7 (by decide) (hts (.fieldLink RX3 42 "NearRanks$Row" "steps" "I") (by decide +kernel)) (fun _ h9 => h9) rfl (by decide +kernel) rfl rfl (Nat.le_of_ble_eq_true rfl) dX3_copyFrom_82 (fun H locs hP hD hS => ?_)
  have hP : va_P D vwCl ((RowC r va na ra cJ cI (cp32 v2 v) (cp32 nu2 nu) (cp32 rk2 rk) n2 b2 fl2 me2 st2 lk cm) ++ (RowC r2 va2 na2 ra2 cJ cI v2 nu2 rk2 n2 b2 fl2 me2 st2 lk2 cm2)) H := hP
  have hD : va_D _ ((RowC r va na ra cJ cI (cp32 v2 v) (cp32 nu2 nu) (cp32 rk2 rk) n2 b2 fl2 me2 st2 lk cm) ++ (RowC r2 va2 na2 ra2 cJ cI v2 nu2 rk2 n2 b2 fl2 me2 st2 lk2 cm2)) := hD
  refine lv_aload_n hx hb dX3_copyFrom_85 rfl (lv_at hl 0 rfl) ?_
  refine lv_aload_n hx hb dX3_copyFrom_86 rfl (lv_at hl 1 rfl) ?_
  refine va_get (D := D) (ci := 2) (C := RX3) (T := TX3) (N := 10) hx hb hts hinX3 hown hK hP 4 rfl rfl 8 (by decide) (hts (.fieldLink RX3 45 "NearRanks$Row" "looks" "I") (by decide +kernel)) (fun _ h9 => h9) rfl dX3_copyFrom_87 ?_
  refine va_put (D := D) (ci := 2) (v := .int lk2) (ty := .int) (C := RX3) (T := TX3) (N := 10) hx hb hts hinX3 tyX3 tyX3_ok nmX3 hown hK hP hD hS 0 rfl rfl 8 (by decide) (hts (.fieldLink RX3 45 "NearRanks$Row" "looks" "I") (by decide +kernel)) (fun _ h9 => h9) rfl (by decide +kernel) rfl rfl (Nat.le_of_ble_eq_true rfl) dX3_copyFrom_90 (fun H locs hP hD hS => ?_)
  have hP : va_P D vwCl ((RowC r va na ra cJ cI (cp32 v2 v) (cp32 nu2 nu) (cp32 rk2 rk) n2 b2 fl2 me2 st2 lk2 cm) ++ (RowC r2 va2 na2 ra2 cJ cI v2 nu2 rk2 n2 b2 fl2 me2 st2 lk2 cm2)) H := hP
  have hD : va_D _ ((RowC r va na ra cJ cI (cp32 v2 v) (cp32 nu2 nu) (cp32 rk2 rk) n2 b2 fl2 me2 st2 lk2 cm) ++ (RowC r2 va2 na2 ra2 cJ cI v2 nu2 rk2 n2 b2 fl2 me2 st2 lk2 cm2)) := hD
  refine lv_aload_n hx hb dX3_copyFrom_93 rfl (lv_at hl 0 rfl) ?_
  refine lv_aload_n hx hb dX3_copyFrom_94 rfl (lv_at hl 1 rfl) ?_
  refine va_get (D := D) (ci := 2) (C := RX3) (T := TX3) (N := 10) hx hb hts hinX3 hown hK hP 4 rfl rfl 9 (by decide) (hts (.fieldLink RX3 48 "NearRanks$Row" "came" "I") (by decide +kernel)) (fun _ h9 => h9) rfl dX3_copyFrom_95 ?_
  refine va_put (D := D) (ci := 2) (v := .int cm2) (ty := .int) (C := RX3) (T := TX3) (N := 10) hx hb hts hinX3 tyX3 tyX3_ok nmX3 hown hK hP hD hS 0 rfl rfl 9 (by decide) (hts (.fieldLink RX3 48 "NearRanks$Row" "came" "I") (by decide +kernel)) (fun _ h9 => h9) rfl (by decide +kernel) rfl rfl (Nat.le_of_ble_eq_true rfl) dX3_copyFrom_98 (fun H locs hP hD hS => ?_)
  have hP : va_P D vwCl ((RowC r va na ra cJ cI (cp32 v2 v) (cp32 nu2 nu) (cp32 rk2 rk) n2 b2 fl2 me2 st2 lk2 cm2) ++ (RowC r2 va2 na2 ra2 cJ cI v2 nu2 rk2 n2 b2 fl2 me2 st2 lk2 cm2)) H := hP
  have hD : va_D _ ((RowC r va na ra cJ cI (cp32 v2 v) (cp32 nu2 nu) (cp32 rk2 rk) n2 b2 fl2 me2 st2 lk2 cm2) ++ (RowC r2 va2 na2 ra2 cJ cI v2 nu2 rk2 n2 b2 fl2 me2 st2 lk2 cm2)) := hD
  exact wv_vretM hx hb hr hlocks hP hD hS rfl dX3_copyFrom_101
