/-! The law: what it asks of the row after each call. -/
theorem lor_0 (x : Int64) : x ||| (lN 0) = x := by
  have h : (lN 0) = (0 : Int64) := rfl
  rw [h]
  exact Int64.or_zero
section GT
variable {p : Program} {l : Launch} {e : Env} {R : Room} {s : State} {m : MethodId} {args : Array Value} {below : List Frame} {meth : Method} {c : Code} {H : Heap} {locs : List Loc} {cells slots : Nat} {Q : State → Prop} {cc : ByteArray} {pc : Nat} {ls : Array Slot} {rest : List Value}
theorem wv_if_gt (hexec : p.tables.exec = Jvm.exec) (hb : c.code = cc) {x : Nat} (hx : x < 2 ^ 31) {off : Int} {tgt : Nat} (hdg : decode cc pc = .ok (.ifCond .gt off, 3)) (ht : (pc : Int) + off = (tgt : Int))
    (kt : 0 < x → W p l e R s m args below meth c H locs cells slots Q (F0 m tgt ls rest)) (kf : x = 0 → W p l e R s m args below meth c H locs cells slots Q (F0 m (pc + 3) ls rest)) : W p l e R s m args below meth c H locs cells slots Q (F0 m pc ls (.int (nI x) :: rest)) :=
  lv_if_gt hexec hb hdg ht (fun h => kt (Nat.pos_of_ne_zero fun z => absurd ((wk_le0 hx).mpr z) (Int32.not_le.mpr h))) (fun h => kf ((wk_le0 hx).mp (Int32.not_lt.mp h)))
end GT
set_option maxHeartbeats 4000000 in
set_option maxRecDepth 100000 in
theorem kL_isSo_in (l : Launch) (D : va_G) (x9 : Nat) (r : Nat) (r2 : Nat) (q : Nat) (co : Nat) (h : Nat) (va : Nat) (na : Nat) (ra : Nat) (cJ : ClassId) (cI : ClassId) (v : Nat → Int64) (nu : Nat → Int32) (rk : Nat → Int32) (n : Nat) (b : Nat) (fl : Bool) (me : Bool) (st : Int32) (lk : Int32) (cm : Int32) (pc1 : Int32) (lk1 : Nat) (lw : Int32) (hg : Int32) (ba : Nat) (cB : ClassId) (tb : Nat → Int32) (ln : Nat) (nx : Nat) (am : Int32) (wd : Value) (nb : Int32) (vl : Int64) (g : Nat) (vv : Nat) (nn : Nat) (hn : n ≤ 32) (hb : b ≤ 31) (hrk : ∀ i, i < n → rk i = nI (rk0 fl v n i)) (hln : ln = 0) (h0 : cnt (brk fl v n b) n = 0) : MMi l yL_isSo wsL_isSo ({ frames := 8, cells := 0, slots := 0, locals := 170 } : Room) [.ref x9, .ref g, .ref vv, .ref nn] D ((ObjC x9 r r2 q co h) ++ (RowC r va na ra cJ cI v nu rk n b fl me st lk cm) ++ (SrcC q pc1 lk1 lw hg) ++ (CmdC co ba cB tb ln nx am wd nb vl) ++ (GvC g cI n b fl me st lk cm) ++ (VvC vv cJ v) ++ (NnC nn cI nu)) [(cJ, .long), (cI, .int), (cB, .byte)] (bI true) ((ObjC x9 r r2 q co h) ++ (RowC r va na ra cJ cI v nu rk n b fl me st lk cm) ++ (SrcC q (lst pc1 (fun j => oI (sr1 fl v n b (v j))) n) (lst lk1 (fun j => sr2 fl v n b (v j)) n) (lst lw (fun j => sr3 fl v n b (v j)) n) (lst hg (fun j => sr4 fl v n b (v j)) n)) ++ (CmdC co ba cB tb ln nx am wd nb vl) ++ (GvC g cI n b fl me st lk cm) ++ (VvC vv cJ v) ++ (NnC nn cI nu)) := by
  refine MMi_of (cc := cL_isSo) (maxL := 15) (ret := some .boolean) (by decide +kernel) rfl (Nat.le_of_ble_eq_true rfl) ?_
  intro p e s m args below meth c hx hb hr hts hown hlocks hml hP hK hN hD ls hl
  have hown : s.vm.findClass RL = some m.cls := hown
  have hl : lv_has ls 15 [(0, .ref x9), (1, .ref g), (2, .ref vv), (3, .ref nn)] := hl
  have hS : va_S (va_A ((ObjC x9 r r2 q co h) ++ (RowC r va na ra cJ cI v nu rk n b fl me st lk cm) ++ (SrcC q pc1 lk1 lw hg) ++ (CmdC co ba cB tb ln nx am wd nb vl) ++ (GvC g cI n b fl me st lk cm) ++ (VvC vv cJ v) ++ (NnC nn cI nu)) s.heap.size) s.heap s.heap [] := va_S.rf
  have hA := wk_hA ((ObjC x9 r r2 q co h) ++ (RowC r va na ra cJ cI v nu rk n b fl me st lk cm) ++ (SrcC q pc1 lk1 lw hg) ++ (CmdC co ba cB tb ln nx am wd nb vl) ++ (GvC g cI n b fl me st lk cm) ++ (VvC vv cJ v) ++ (NnC nn cI nu)) s.heap.size
  have hD9 : True := trivial
  have hl0 : cnt (fun j => decide (sr1 fl v n b (v j) = none)) n = 0 := lost_0 h0
  have hcb : cnt (brk fl v n b) n ≤ n := cnt_le _ n
  refine lv_iconst (v := nI 0) hx hb dL_isSo_0 (by decide) ?_
  refine lv_istore (lv' := [(4, .int (nI 0)), (0, .ref x9), (1, .ref g), (2, .ref vv), (3, .ref nn)]) hx hb dL_isSo_1 hl (by decide) rfl (fun ls hl => ?_)
  refine lv_iconst (v := nI 0) hx hb dL_isSo_3 (by decide) ?_
  refine lv_istore (lv' := [(5, .int (nI 0)), (4, .int (nI 0)), (0, .ref x9), (1, .ref g), (2, .ref vv), (3, .ref nn)]) hx hb dL_isSo_4 hl (by decide) rfl (fun ls hl => ?_)
  refine lv_iconst (v := nI 0) hx hb dL_isSo_6 (by decide) ?_
  refine lv_istore (lv' := [(6, .int (nI 0)), (5, .int (nI 0)), (4, .int (nI 0)), (0, .ref x9), (1, .ref g), (2, .ref vv), (3, .ref nn)]) hx hb dL_isSo_7 hl (by decide) rfl (fun ls hl => ?_)
  refine lv_lconst (v := lN 0) hx hb dL_isSo_9 rfl ?_
  refine lv_lstore (lv' := [(7, .long (lN 0)), (6, .int (nI 0)), (5, .int (nI 0)), (4, .int (nI 0)), (0, .ref x9), (1, .ref g), (2, .ref vv), (3, .ref nn)]) hx hb dL_isSo_10 hl (by decide) rfl (fun ls hl => ?_)
  refine lv_iconst (v := nI 1) hx hb dL_isSo_12 (by decide) ?_
  refine lv_istore (lv' := [(9, .int (nI 1)), (7, .long (lN 0)), (6, .int (nI 0)), (5, .int (nI 0)), (4, .int (nI 0)), (0, .ref x9), (1, .ref g), (2, .ref vv), (3, .ref nn)]) hx hb dL_isSo_13 hl (by decide) rfl (fun ls hl => ?_)
  refine lv_iconst (v := nI 0) hx hb dL_isSo_15 (by decide) ?_
  refine lv_istore (lv' := [(10, .int (nI 0)), (9, .int (nI 1)), (7, .long (lN 0)), (6, .int (nI 0)), (5, .int (nI 0)), (4, .int (nI 0)), (0, .ref x9), (1, .ref g), (2, .ref vv), (3, .ref nn)]) hx hb dL_isSo_16 hl (by decide) rfl (fun ls hl => ?_)
  have el_l4 : mx (far fl v n) 0 = 0 := by rfl
  have el_l5 : cnt (fal fl v n) 0 = 0 := by rfl
  have el_l6 : sm (ivo fl v n) 0 = 0 := by rfl
  have el_l7 : bst fl v n b 0 = lN 0 := by rfl
  have loop18 : ∀ (K : Nat) (i : Nat), n - i < K → i ≤ n → ∀ (H : Heap) (locs : List Loc), va_P D vwCl ((ObjC x9 r r2 q co h) ++ (RowC r va na ra cJ cI v nu rk n b fl me st lk cm) ++ (SrcC q pc1 lk1 lw hg) ++ (CmdC co ba cB tb ln nx am wd nb vl) ++ (GvC g cI n b fl me st lk cm) ++ (VvC vv cJ v) ++ (NnC nn cI nu)) H → va_D (va_A ((ObjC x9 r r2 q co h) ++ (RowC r va na ra cJ cI v nu rk n b fl me st lk cm) ++ (SrcC q pc1 lk1 lw hg) ++ (CmdC co ba cB tb ln nx am wd nb vl) ++ (GvC g cI n b fl me st lk cm) ++ (VvC vv cJ v) ++ (NnC nn cI nu)) s.heap.size) ((ObjC x9 r r2 q co h) ++ (RowC r va na ra cJ cI v nu rk n b fl me st lk cm) ++ (SrcC q pc1 lk1 lw hg) ++ (CmdC co ba cB tb ln nx am wd nb vl) ++ (GvC g cI n b fl me st lk cm) ++ (VvC vv cJ v) ++ (NnC nn cI nu)) → va_S (va_A ((ObjC x9 r r2 q co h) ++ (RowC r va na ra cJ cI v nu rk n b fl me st lk cm) ++ (SrcC q pc1 lk1 lw hg) ++ (CmdC co ba cB tb ln nx am wd nb vl) ++ (GvC g cI n b fl me st lk cm) ++ (VvC vv cJ v) ++ (NnC nn cI nu)) s.heap.size) s.heap H locs → ∀ ls : Array Slot, lv_has ls 15 [(0, .ref x9), (1, .ref g), (2, .ref vv), (3, .ref nn), (4, .int (nI (mx (far fl v n) i))), (5, .int (nI (cnt (fal fl v n) i))), (6, .int (nI (sm (ivo fl v n) i))), (7, .long (bst fl v n b i)), (9, .int (nI 1)), (10, .int (nI i))] → W p l e ({ frames := 8, cells := 0, slots := 0, locals := 170 } : Room) s m args below meth c H locs 0 0 (ZMi below args s D ((ObjC x9 r r2 q co h) ++ (RowC r va na ra cJ cI v nu rk n b fl me st lk cm) ++ (SrcC q pc1 lk1 lw hg) ++ (CmdC co ba cB tb ln nx am wd nb vl) ++ (GvC g cI n b fl me st lk cm) ++ (VvC vv cJ v) ++ (NnC nn cI nu)) (bI true) ((ObjC x9 r r2 q co h) ++ (RowC r va na ra cJ cI v nu rk n b fl me st lk cm) ++ (SrcC q (lst pc1 (fun j => oI (sr1 fl v n b (v j))) n) (lst lk1 (fun j => sr2 fl v n b (v j)) n) (lst lw (fun j => sr3 fl v n b (v j)) n) (lst hg (fun j => sr4 fl v n b (v j)) n)) ++ (CmdC co ba cB tb ln nx am wd nb vl) ++ (GvC g cI n b fl me st lk cm) ++ (VvC vv cJ v) ++ (NnC nn cI nu))) (F0 m 18 ls []) := by
    intro K
    induction K with
    | zero => intro i hK0; exact absurd hK0 (Nat.not_lt_zero _)
    | succ K ih18 =>
      intro i hKm hi H locs hP hD hS ls hl
      refine lv_iload hx hb dL_isSo_18 (lv_at hl 9 rfl) ?_
      refine lv_aload_n hx hb dL_isSo_20 rfl (lv_at hl 1 rfl) ?_
      refine lv_iconst (v := nI 0) hx hb dL_isSo_21 (by decide) ?_
      refine wv_iald hx hb hK hP 8 1 rfl rfl (k := 0) (by omega) (by decide) dL_isSo_22 ?_
      refine wv_ti (y := nI n) rfl ?_
      refine wv_icmp_ge (tgt := 332) hx hb (by omega) (by omega) dL_isSo_23 (by decide) (fun c23 => ?_) (fun c23 => ?_)
      · skip
        have hin : i = n := by omega
        refine lv_aload_n hx hb dL_isSo_332 rfl (lv_at hl 1 rfl) ?_
        refine lv_aload_n hx hb dL_isSo_333 rfl (lv_at hl 2 rfl) ?_
        refine wv_callSi (As := [.ref g, .ref vv]) (rest := []) ⟨hx, hb, hml, hown, hts⟩ (kL_broken l D g cI n b fl me st lk cm vv cJ v (by first | assumption | omega) (by first | assumption | omega)) (va_cwS 2 hts gL_isSo_L_broken rfl rfl rfl (by decide +kernel) ⟨Nat.le_of_ble_eq_true rfl, Nat.le_of_ble_eq_true rfl⟩) hK hN hP hS hA [8, 9] [0, 1] rfl rfl rfl hl.1 rfl (Nat.le_of_ble_eq_true rfl) dL_isSo_334 ⟨Nat.zero_le _, Nat.zero_le _⟩ (fun H locs hz9 hP hS => ?_)
        refine lv_istore (lv' := [(10, .int (nI (cnt (brk fl v n b) n))), (0, .ref x9), (1, .ref g), (2, .ref vv), (3, .ref nn), (4, .int (nI (mx (far fl v n) i))), (5, .int (nI (cnt (fal fl v n) i))), (6, .int (nI (sm (ivo fl v n) i))), (7, .long (bst fl v n b i)), (9, .int (nI 1))]) hx hb dL_isSo_337 hl (by decide) rfl (fun ls hl => ?_)
        refine lv_iload hx hb dL_isSo_339 (lv_at hl 9 rfl) ?_
        refine lv_if_eq (tgt := 437) hx hb dL_isSo_341 (by decide) (fun h => absurd h (by decide)) (fun _ => ?_)
        refine lv_aload_n hx hb dL_isSo_344 rfl (lv_at hl 1 rfl) ?_
        refine wv_callPl (As := []) (rest := []) ⟨hx, hb, hml, hown, hts⟩ (kX6_broken l D x9 r r2 q co h va na ra cJ cI v nu rk n b fl me st lk cm (by first | assumption | omega) (by first | assumption | omega) (by first | assumption | omega)) (cwV 0 hts gL_isSo_X6_broken rfl rfl rfl (by decide +kernel) ⟨Nat.le_of_ble_eq_true rfl, Nat.le_of_ble_eq_true rfl⟩) hK hN hP hS hA [0, 1, 2, 3, 4] [0, 1] rfl rfl 0 4 rfl rfl rfl rfl hl.1 rfl (Nat.le_of_ble_eq_true rfl) dL_isSo_345 ⟨Nat.zero_le _, Nat.zero_le _⟩ (fun H locs hz9 hP hS => ?_)
        refine lv_lload hx hb dL_isSo_348 (lv_at hl 8 rfl) ?_
        refine wv_lc_ne (tgt := 437) hx hb dL_isSo_350 dL_isSo_351 (by decide) (fun c351 => by exfalso; exact c351 (by rw [hin])) (fun c351 => ?_)
        refine lv_iload hx hb dL_isSo_354 (lv_at hl 0 rfl) ?_
        refine wv_if_gt (tgt := 366) hx hb (by omega) dL_isSo_356 (by decide) (fun c356 => by exfalso; omega) (fun c356 => ?_)
        refine lv_aload_n hx hb dL_isSo_359 rfl (lv_at hl 1 rfl) ?_
        refine wv_callMi (As := []) (rest := []) (wr := (CmdC co ba cB tb ln nx am wd nb vl) ++ (GvC g cI n b fl me st lk cm) ++ (VvC vv cJ v) ++ (NnC nn cI nu)) (ws1 := (ObjC x9 r r2 q co h) ++ (RowC r va na ra cJ cI v nu rk n b fl me st lk cm) ++ (SrcC q (lst pc1 (fun j => oI (sr1 fl v n b (v j))) n) (lst lk1 (fun j => sr2 fl v n b (v j)) n) (lst lw (fun j => sr3 fl v n b (v j)) n) (lst hg (fun j => sr4 fl v n b (v j)) n)) ++ (CmdC co ba cB tb ln nx am wd nb vl) ++ (GvC g cI n b fl me st lk cm) ++ (VvC vv cJ v) ++ (NnC nn cI nu)) ⟨hx, hb, hml, hown, hts⟩ (kX6_lostValues l D x9 r r2 q co h va na ra cJ cI v nu rk n b fl me st lk cm pc1 lk1 lw hg (by first | assumption | omega) (by first | assumption | omega)) (cwV 0 hts gL_isSo_X6_lostValues rfl rfl rfl (by decide +kernel) ⟨Nat.le_of_ble_eq_true rfl, Nat.le_of_ble_eq_true rfl⟩) hK hN hP hD hS hA [0, 1, 2, 3, 4, 5] [6, 7, 8, 9, 10] [0, 1] [5, 6, 7, 8, 9, 10, 0, 1, 2, 3, 4] rfl rfl (by decide) rfl (by decide) (by decide) rfl (by decide) rfl 0 4 rfl rfl rfl rfl hl.1 rfl (Nat.le_of_ble_eq_true rfl) dL_isSo_360 ⟨Nat.zero_le _, Nat.zero_le _⟩ (fun H locs hz9 hP hD hS => ?_)
        refine wv_if_ne (tgt := 437) hx hb (by omega) dL_isSo_363 (by decide) (fun c363 => by exfalso; omega) (fun c363 => ?_)
        refine lv_aload_n hx hb dL_isSo_366 rfl (lv_at hl 1 rfl) ?_
        refine lv_iconst (v := nI 0) hx hb dL_isSo_367 (by decide) ?_
        refine wv_callSWPi (As := [.ref x9, .int (nI 0)]) (rest := []) ⟨hx, hb, hml, hown, hts⟩ (kL_wholeOf l D x9 r r2 q co h va na ra cJ cI v nu rk n b fl me st lk cm ba cB tb ln nx am wd nb vl 0 (by first | assumption | omega) (by first | assumption | omega) (by first | assumption | omega) (by first | assumption | omega)) (vx_cwSW 2 hts gL_isSo_L_wholeOf rfl rfl rfl (by decide +kernel) ⟨Nat.le_of_ble_eq_true rfl, Nat.le_of_ble_eq_true rfl⟩) hK hN hP hS hA [0, 1, 2, 3, 4, 6, 7] [0, 1, 2] rfl rfl rfl hl.1 rfl (Nat.le_of_ble_eq_true rfl) dL_isSo_368 ⟨Nat.zero_le _, Nat.zero_le _⟩ (fun H locs hz9 hP hS => ?_)
        refine lv_aload_n hx hb dL_isSo_371 rfl (lv_at hl 2 rfl) ?_
        refine lv_iconst (v := nI 0) hx hb dL_isSo_372 (by decide) ?_
        refine wv_iald hx hb hK hP 8 1 rfl rfl (k := 0) (by omega) (by decide) dL_isSo_373 ?_
        refine wv_ti (y := nI n) rfl ?_
        refine lv_icmp_ne (tgt := 437) hx hb dL_isSo_374 (by decide) (fun c374 => by exfalso; exact c374 rfl) (fun c374 => ?_)
        refine lv_aload_n hx hb dL_isSo_377 rfl (lv_at hl 1 rfl) ?_
        refine lv_iconst (v := nI 1) hx hb dL_isSo_378 (by decide) ?_
        refine wv_callSWPi (As := [.ref x9, .int (nI 1)]) (rest := []) ⟨hx, hb, hml, hown, hts⟩ (kL_wholeOf l D x9 r r2 q co h va na ra cJ cI v nu rk n b fl me st lk cm ba cB tb ln nx am wd nb vl 1 (by first | assumption | omega) (by first | assumption | omega) (by first | assumption | omega) (by first | assumption | omega)) (vx_cwSW 2 hts gL_isSo_L_wholeOf rfl rfl rfl (by decide +kernel) ⟨Nat.le_of_ble_eq_true rfl, Nat.le_of_ble_eq_true rfl⟩) hK hN hP hS hA [0, 1, 2, 3, 4, 6, 7] [0, 1, 2] rfl rfl rfl hl.1 rfl (Nat.le_of_ble_eq_true rfl) dL_isSo_379 ⟨Nat.zero_le _, Nat.zero_le _⟩ (fun H locs hz9 hP hS => ?_)
        refine lv_aload_n hx hb dL_isSo_382 rfl (lv_at hl 2 rfl) ?_
        refine lv_iconst (v := nI 1) hx hb dL_isSo_383 (by decide) ?_
        refine wv_iald hx hb hK hP 8 1 rfl rfl (k := 1) (by omega) (by decide) dL_isSo_384 ?_
        refine wv_ti (y := nI b) rfl ?_
        refine lv_icmp_ne (tgt := 437) hx hb dL_isSo_385 (by decide) (fun c385 => by exfalso; exact c385 rfl) (fun c385 => ?_)
        refine lv_aload_n hx hb dL_isSo_388 rfl (lv_at hl 1 rfl) ?_
        refine lv_iconst (v := nI 2) hx hb dL_isSo_389 (by decide) ?_
        refine wv_callSWPi (As := [.ref x9, .int (nI 2)]) (rest := []) ⟨hx, hb, hml, hown, hts⟩ (kL_wholeOf l D x9 r r2 q co h va na ra cJ cI v nu rk n b fl me st lk cm ba cB tb ln nx am wd nb vl 2 (by first | assumption | omega) (by first | assumption | omega) (by first | assumption | omega) (by first | assumption | omega)) (vx_cwSW 2 hts gL_isSo_L_wholeOf rfl rfl rfl (by decide +kernel) ⟨Nat.le_of_ble_eq_true rfl, Nat.le_of_ble_eq_true rfl⟩) hK hN hP hS hA [0, 1, 2, 3, 4, 6, 7] [0, 1, 2] rfl rfl rfl hl.1 rfl (Nat.le_of_ble_eq_true rfl) dL_isSo_390 ⟨Nat.zero_le _, Nat.zero_le _⟩ (fun H locs hz9 hP hS => ?_)
        refine lv_aload_n hx hb dL_isSo_393 rfl (lv_at hl 2 rfl) ?_
        refine lv_iconst (v := nI 2) hx hb dL_isSo_394 (by decide) ?_
        refine wv_iald hx hb hK hP 8 1 rfl rfl (k := 2) (by omega) (by decide) dL_isSo_395 ?_
        refine wv_ti (y := bI fl) rfl ?_
        refine lv_icmp_ne (tgt := 437) hx hb dL_isSo_396 (by decide) (fun c396 => by exfalso; exact c396 rfl) (fun c396 => ?_)
        refine lv_aload_n hx hb dL_isSo_399 rfl (lv_at hl 1 rfl) ?_
        refine lv_iconst (v := nI 3) hx hb dL_isSo_400 (by decide) ?_
        refine wv_callSWPi (As := [.ref x9, .int (nI 3)]) (rest := []) ⟨hx, hb, hml, hown, hts⟩ (kL_wholeOf l D x9 r r2 q co h va na ra cJ cI v nu rk n b fl me st lk cm ba cB tb ln nx am wd nb vl 3 (by first | assumption | omega) (by first | assumption | omega) (by first | assumption | omega) (by first | assumption | omega)) (vx_cwSW 2 hts gL_isSo_L_wholeOf rfl rfl rfl (by decide +kernel) ⟨Nat.le_of_ble_eq_true rfl, Nat.le_of_ble_eq_true rfl⟩) hK hN hP hS hA [0, 1, 2, 3, 4, 6, 7] [0, 1, 2] rfl rfl rfl hl.1 rfl (Nat.le_of_ble_eq_true rfl) dL_isSo_401 ⟨Nat.zero_le _, Nat.zero_le _⟩ (fun H locs hz9 hP hS => ?_)
        refine lv_aload_n hx hb dL_isSo_404 rfl (lv_at hl 2 rfl) ?_
        refine lv_iconst (v := nI 3) hx hb dL_isSo_405 (by decide) ?_
        refine wv_iald hx hb hK hP 8 1 rfl rfl (k := 3) (by omega) (by decide) dL_isSo_406 ?_
        refine wv_ti (y := bI me) rfl ?_
        refine lv_icmp_ne (tgt := 437) hx hb dL_isSo_407 (by decide) (fun c407 => by exfalso; exact c407 rfl) (fun c407 => ?_)
        refine lv_aload_n hx hb dL_isSo_410 rfl (lv_at hl 1 rfl) ?_
        refine lv_iconst (v := nI 4) hx hb dL_isSo_411 (by decide) ?_
        refine wv_callSWPi (As := [.ref x9, .int (nI 4)]) (rest := []) ⟨hx, hb, hml, hown, hts⟩ (kL_wholeOf l D x9 r r2 q co h va na ra cJ cI v nu rk n b fl me st lk cm ba cB tb ln nx am wd nb vl 4 (by first | assumption | omega) (by first | assumption | omega) (by first | assumption | omega) (by first | assumption | omega)) (vx_cwSW 2 hts gL_isSo_L_wholeOf rfl rfl rfl (by decide +kernel) ⟨Nat.le_of_ble_eq_true rfl, Nat.le_of_ble_eq_true rfl⟩) hK hN hP hS hA [0, 1, 2, 3, 4, 6, 7] [0, 1, 2] rfl rfl rfl hl.1 rfl (Nat.le_of_ble_eq_true rfl) dL_isSo_412 ⟨Nat.zero_le _, Nat.zero_le _⟩ (fun H locs hz9 hP hS => ?_)
        refine lv_iload hx hb dL_isSo_415 (lv_at hl 0 rfl) ?_
        refine lv_icmp_ne (tgt := 437) hx hb dL_isSo_417 (by decide) (fun c417 => by exfalso; exact c417 rfl) (fun c417 => ?_)
        refine lv_aload_n hx hb dL_isSo_420 rfl (lv_at hl 1 rfl) ?_
        refine lv_iconst (v := nI 5) hx hb dL_isSo_421 (by decide) ?_
        refine wv_callSWPi (As := [.ref x9, .int (nI 5)]) (rest := []) ⟨hx, hb, hml, hown, hts⟩ (kL_wholeOf l D x9 r r2 q co h va na ra cJ cI v nu rk n b fl me st lk cm ba cB tb ln nx am wd nb vl 5 (by first | assumption | omega) (by first | assumption | omega) (by first | assumption | omega) (by first | assumption | omega)) (vx_cwSW 2 hts gL_isSo_L_wholeOf rfl rfl rfl (by decide +kernel) ⟨Nat.le_of_ble_eq_true rfl, Nat.le_of_ble_eq_true rfl⟩) hK hN hP hS hA [0, 1, 2, 3, 4, 6, 7] [0, 1, 2] rfl rfl rfl hl.1 rfl (Nat.le_of_ble_eq_true rfl) dL_isSo_422 ⟨Nat.zero_le _, Nat.zero_le _⟩ (fun H locs hz9 hP hS => ?_)
        refine lv_aload_n hx hb dL_isSo_425 rfl (lv_at hl 2 rfl) ?_
        refine lv_aload_n hx hb dL_isSo_426 rfl (lv_at hl 3 rfl) ?_
        refine wv_callSi (As := [.ref g, .ref vv]) (rest := [.int (whV fl me v n b st lk cm ln 5)]) ⟨hx, hb, hml, hown, hts⟩ (kL_inversions l D g cI n b fl me st lk cm vv cJ v (by first | assumption | omega)) (va_cwS 2 hts gL_isSo_L_inversions rfl rfl rfl (by decide +kernel) ⟨Nat.le_of_ble_eq_true rfl, Nat.le_of_ble_eq_true rfl⟩) hK hN hP hS hA [8, 9] [0, 1] rfl rfl rfl hl.1 rfl (Nat.le_of_ble_eq_true rfl) dL_isSo_427 ⟨Nat.zero_le _, Nat.zero_le _⟩ (fun H locs hz9 hP hS => ?_)
        refine lv_icmp_ne (tgt := 437) hx hb dL_isSo_430 (by decide) (fun c430 => by exfalso; exact c430 (congrArg nI (ivs_tin fl v n))) (fun c430 => ?_)
        refine lv_iconst (v := nI 1) hx hb dL_isSo_433 (by decide) ?_
        refine lv_goto (tgt := 438) hx hb dL_isSo_434 (by decide) ?_
        refine lv_istore (lv' := [(9, .int (nI 1)), (10, .int (nI (cnt (brk fl v n b) n))), (0, .ref x9), (1, .ref g), (2, .ref vv), (3, .ref nn), (4, .int (nI (mx (far fl v n) i))), (5, .int (nI (cnt (fal fl v n) i))), (6, .int (nI (sm (ivo fl v n) i))), (7, .long (bst fl v n b i))]) hx hb dL_isSo_438 hl (by decide) rfl (fun ls hl => ?_)
        refine lv_iload hx hb dL_isSo_440 (lv_at hl 0 rfl) ?_
        refine lv_if_eq (tgt := 529) hx hb dL_isSo_442 (by decide) (fun h => absurd h (by decide)) (fun _ => ?_)
        refine lv_iconst (v := nI 2) hx hb dL_isSo_445 (by decide) ?_
        refine lv_aload_n hx hb dL_isSo_446 rfl (lv_at hl 2 rfl) ?_
        refine lv_iconst (v := nI 5) hx hb dL_isSo_447 (by decide) ?_
        refine wv_callSWPi (As := [.ref x9, .int (nI 5)]) (rest := [.int (nI 2)]) ⟨hx, hb, hml, hown, hts⟩ (kL_wholeOf l D x9 r r2 q co h va na ra cJ cI v nu rk n b fl me st lk cm ba cB tb ln nx am wd nb vl 5 (by first | assumption | omega) (by first | assumption | omega) (by first | assumption | omega) (by first | assumption | omega)) (vx_cwSW 2 hts gL_isSo_L_wholeOf rfl rfl rfl (by decide +kernel) ⟨Nat.le_of_ble_eq_true rfl, Nat.le_of_ble_eq_true rfl⟩) hK hN hP hS hA [0, 1, 2, 3, 4, 6, 7] [0, 1, 2] rfl rfl rfl hl.1 rfl (Nat.le_of_ble_eq_true rfl) dL_isSo_448 ⟨Nat.zero_le _, Nat.zero_le _⟩ (fun H locs hz9 hP hS => ?_)
        refine lv_imul hx hb dL_isSo_451 ?_
        refine lv_iload hx hb dL_isSo_452 (lv_at hl 8 rfl) ?_
        refine lv_icmp_ne (tgt := 529) hx hb dL_isSo_454 (by decide) (fun c454 => by exfalso; exact c454 (by show nI 2 * nI (ivs fl v n) = _; rw [pk_mul, hin, ivo_tin, ivs_tin])) (fun c454 => ?_)
        refine lv_aload_n hx hb dL_isSo_457 rfl (lv_at hl 2 rfl) ?_
        refine lv_bipush (v := nI 6) hx hb dL_isSo_458 (by decide) ?_
        refine wv_callSWPi (As := [.ref x9, .int (nI 6)]) (rest := []) ⟨hx, hb, hml, hown, hts⟩ (kL_wholeOf l D x9 r r2 q co h va na ra cJ cI v nu rk n b fl me st lk cm ba cB tb ln nx am wd nb vl 6 (by first | assumption | omega) (by first | assumption | omega) (by first | assumption | omega) (by first | assumption | omega)) (vx_cwSW 2 hts gL_isSo_L_wholeOf rfl rfl rfl (by decide +kernel) ⟨Nat.le_of_ble_eq_true rfl, Nat.le_of_ble_eq_true rfl⟩) hK hN hP hS hA [0, 1, 2, 3, 4, 6, 7] [0, 1, 2] rfl rfl rfl hl.1 rfl (Nat.le_of_ble_eq_true rfl) dL_isSo_460 ⟨Nat.zero_le _, Nat.zero_le _⟩ (fun H locs hz9 hP hS => ?_)
        refine lv_iload hx hb dL_isSo_463 (lv_at hl 7 rfl) ?_
        refine lv_icmp_ne (tgt := 529) hx hb dL_isSo_465 (by decide) (fun c465 => by exfalso; exact c465 (by rw [hin]; rfl)) (fun c465 => ?_)
        refine lv_aload_n hx hb dL_isSo_468 rfl (lv_at hl 2 rfl) ?_
        refine lv_bipush (v := nI 7) hx hb dL_isSo_469 (by decide) ?_
        refine wv_callSWPi (As := [.ref x9, .int (nI 7)]) (rest := []) ⟨hx, hb, hml, hown, hts⟩ (kL_wholeOf l D x9 r r2 q co h va na ra cJ cI v nu rk n b fl me st lk cm ba cB tb ln nx am wd nb vl 7 (by first | assumption | omega) (by first | assumption | omega) (by first | assumption | omega) (by first | assumption | omega)) (vx_cwSW 2 hts gL_isSo_L_wholeOf rfl rfl rfl (by decide +kernel) ⟨Nat.le_of_ble_eq_true rfl, Nat.le_of_ble_eq_true rfl⟩) hK hN hP hS hA [0, 1, 2, 3, 4, 6, 7] [0, 1, 2] rfl rfl rfl hl.1 rfl (Nat.le_of_ble_eq_true rfl) dL_isSo_471 ⟨Nat.zero_le _, Nat.zero_le _⟩ (fun H locs hz9 hP hS => ?_)
        refine lv_aload_n hx hb dL_isSo_474 rfl (lv_at hl 3 rfl) ?_
        refine lv_iconst (v := nI 4) hx hb dL_isSo_475 (by decide) ?_
        refine wv_iald hx hb hK hP 8 1 rfl rfl (k := 4) (by omega) (by decide) dL_isSo_476 ?_
        refine wv_ti (y := st) rfl ?_
        refine lv_icmp_ne (tgt := 529) hx hb dL_isSo_477 (by decide) (fun c477 => by exfalso; exact c477 rfl) (fun c477 => ?_)
        refine lv_aload_n hx hb dL_isSo_480 rfl (lv_at hl 2 rfl) ?_
        refine lv_bipush (v := nI 8) hx hb dL_isSo_481 (by decide) ?_
        refine wv_callSWPi (As := [.ref x9, .int (nI 8)]) (rest := []) ⟨hx, hb, hml, hown, hts⟩ (kL_wholeOf l D x9 r r2 q co h va na ra cJ cI v nu rk n b fl me st lk cm ba cB tb ln nx am wd nb vl 8 (by first | assumption | omega) (by first | assumption | omega) (by first | assumption | omega) (by first | assumption | omega)) (vx_cwSW 2 hts gL_isSo_L_wholeOf rfl rfl rfl (by decide +kernel) ⟨Nat.le_of_ble_eq_true rfl, Nat.le_of_ble_eq_true rfl⟩) hK hN hP hS hA [0, 1, 2, 3, 4, 6, 7] [0, 1, 2] rfl rfl rfl hl.1 rfl (Nat.le_of_ble_eq_true rfl) dL_isSo_483 ⟨Nat.zero_le _, Nat.zero_le _⟩ (fun H locs hz9 hP hS => ?_)
        refine lv_aload_n hx hb dL_isSo_486 rfl (lv_at hl 3 rfl) ?_
        refine lv_iconst (v := nI 5) hx hb dL_isSo_487 (by decide) ?_
        refine wv_iald hx hb hK hP 8 1 rfl rfl (k := 5) (by omega) (by decide) dL_isSo_488 ?_
        refine wv_ti (y := lk) rfl ?_
        refine lv_icmp_ne (tgt := 529) hx hb dL_isSo_489 (by decide) (fun c489 => by exfalso; exact c489 rfl) (fun c489 => ?_)
        refine lv_aload_n hx hb dL_isSo_492 rfl (lv_at hl 2 rfl) ?_
        refine lv_bipush (v := nI 9) hx hb dL_isSo_493 (by decide) ?_
        refine wv_callSWPi (As := [.ref x9, .int (nI 9)]) (rest := []) ⟨hx, hb, hml, hown, hts⟩ (kL_wholeOf l D x9 r r2 q co h va na ra cJ cI v nu rk n b fl me st lk cm ba cB tb ln nx am wd nb vl 9 (by first | assumption | omega) (by first | assumption | omega) (by first | assumption | omega) (by first | assumption | omega)) (vx_cwSW 2 hts gL_isSo_L_wholeOf rfl rfl rfl (by decide +kernel) ⟨Nat.le_of_ble_eq_true rfl, Nat.le_of_ble_eq_true rfl⟩) hK hN hP hS hA [0, 1, 2, 3, 4, 6, 7] [0, 1, 2] rfl rfl rfl hl.1 rfl (Nat.le_of_ble_eq_true rfl) dL_isSo_495 ⟨Nat.zero_le _, Nat.zero_le _⟩ (fun H locs hz9 hP hS => ?_)
        refine lv_aload_n hx hb dL_isSo_498 rfl (lv_at hl 3 rfl) ?_
        refine lv_bipush (v := nI 6) hx hb dL_isSo_499 (by decide) ?_
        refine wv_iald hx hb hK hP 8 1 rfl rfl (k := 6) (by omega) (by decide) dL_isSo_501 ?_
        refine wv_ti (y := cm) rfl ?_
        refine lv_icmp_ne (tgt := 529) hx hb dL_isSo_502 (by decide) (fun c502 => by exfalso; exact c502 rfl) (fun c502 => ?_)
        refine lv_aload_n hx hb dL_isSo_505 rfl (lv_at hl 2 rfl) ?_
        refine lv_bipush (v := nI 10) hx hb dL_isSo_506 (by decide) ?_
        refine wv_callSWPi (As := [.ref x9, .int (nI 10)]) (rest := []) ⟨hx, hb, hml, hown, hts⟩ (kL_wholeOf l D x9 r r2 q co h va na ra cJ cI v nu rk n b fl me st lk cm ba cB tb ln nx am wd nb vl 10 (by first | assumption | omega) (by first | assumption | omega) (by first | assumption | omega) (by first | assumption | omega)) (vx_cwSW 2 hts gL_isSo_L_wholeOf rfl rfl rfl (by decide +kernel) ⟨Nat.le_of_ble_eq_true rfl, Nat.le_of_ble_eq_true rfl⟩) hK hN hP hS hA [0, 1, 2, 3, 4, 6, 7] [0, 1, 2] rfl rfl rfl hl.1 rfl (Nat.le_of_ble_eq_true rfl) dL_isSo_508 ⟨Nat.zero_le _, Nat.zero_le _⟩ (fun H locs hz9 hP hS => ?_)
        refine lv_iload hx hb dL_isSo_511 (lv_at hl 6 rfl) ?_
        refine lv_icmp_ne (tgt := 529) hx hb dL_isSo_513 (by decide) (fun c513 => by exfalso; exact c513 (by rw [hin]; rfl)) (fun c513 => ?_)
        refine lv_aload_n hx hb dL_isSo_516 rfl (lv_at hl 2 rfl) ?_
        refine lv_bipush (v := nI 11) hx hb dL_isSo_517 (by decide) ?_
        refine wv_callSWPi (As := [.ref x9, .int (nI 11)]) (rest := []) ⟨hx, hb, hml, hown, hts⟩ (kL_wholeOf l D x9 r r2 q co h va na ra cJ cI v nu rk n b fl me st lk cm ba cB tb ln nx am wd nb vl 11 (by first | assumption | omega) (by first | assumption | omega) (by first | assumption | omega) (by first | assumption | omega)) (vx_cwSW 2 hts gL_isSo_L_wholeOf rfl rfl rfl (by decide +kernel) ⟨Nat.le_of_ble_eq_true rfl, Nat.le_of_ble_eq_true rfl⟩) hK hN hP hS hA [0, 1, 2, 3, 4, 6, 7] [0, 1, 2] rfl rfl rfl hl.1 rfl (Nat.le_of_ble_eq_true rfl) dL_isSo_519 ⟨Nat.zero_le _, Nat.zero_le _⟩ (fun H locs hz9 hP hS => ?_)
        refine lv_if_ne (tgt := 529) hx hb dL_isSo_522 (by decide) (fun c522 => by exfalso; exact c522 (by show nI ln = 0; rw [hln]; rfl)) (fun c522 => ?_)
        refine lv_iconst (v := nI 1) hx hb dL_isSo_525 (by decide) ?_
        refine lv_goto (tgt := 530) hx hb dL_isSo_526 (by decide) ?_
        exact wv_zretM (b := true) hx hb hr hlocks hP hD hS rfl (by rfl) rfl dL_isSo_530
      · skip
        have hfi := far_le (fl := fl) (v := v) (n := n) (k := i) (by omega)
        have hmi : mx (far fl v n) i ≤ n := mx_le (fun k hk => far_le (by omega))
        obtain ⟨p1, hp, hp1, hpv⟩ := rk_first (v := v) (p := i) hn hrk (by omega)
        refine lv_iload hx hb dL_isSo_26 (lv_at hl 8 rfl) ?_
        refine lv_if_eq (tgt := 332) hx hb dL_isSo_28 (by decide) (fun h => absurd h (by decide)) (fun _ => ?_)
        refine lv_aload_n hx hb dL_isSo_31 rfl (lv_at hl 1 rfl) ?_
        refine lv_aload_n hx hb dL_isSo_32 rfl (lv_at hl 2 rfl) ?_
        refine lv_iload hx hb dL_isSo_33 (lv_at hl 9 rfl) ?_
        refine wv_callSi (As := [.ref g, .ref vv, .int (nI i)]) (rest := []) ⟨hx, hb, hml, hown, hts⟩ (kL_off l D g cI n b fl me st lk cm vv cJ v i (by first | assumption | omega) (by first | assumption | omega)) (va_cwS 3 hts gL_isSo_L_off rfl rfl rfl (by decide +kernel) ⟨Nat.le_of_ble_eq_true rfl, Nat.le_of_ble_eq_true rfl⟩) hK hN hP hS hA [8, 9] [0, 1] rfl rfl rfl hl.1 rfl (Nat.le_of_ble_eq_true rfl) dL_isSo_35 ⟨Nat.zero_le _, Nat.zero_le _⟩ (fun H locs hz9 hP hS => ?_)
        refine lv_istore (lv' := [(11, .int (dst fl v n i)), (0, .ref x9), (1, .ref g), (2, .ref vv), (3, .ref nn), (4, .int (nI (mx (far fl v n) i))), (5, .int (nI (cnt (fal fl v n) i))), (6, .int (nI (sm (ivo fl v n) i))), (7, .long (bst fl v n b i)), (9, .int (nI 1)), (10, .int (nI i))]) hx hb dL_isSo_38 hl (by decide) rfl (fun ls hl => ?_)
        refine lv_aload_n hx hb dL_isSo_40 rfl (lv_at hl 2 rfl) ?_
        refine lv_aload_n hx hb dL_isSo_41 rfl (lv_at hl 3 rfl) ?_
        refine lv_iload hx hb dL_isSo_42 (lv_at hl 10 rfl) ?_
        refine wv_callSi (As := [.ref g, .ref vv, .int (nI i)]) (rest := []) ⟨hx, hb, hml, hown, hts⟩ (kL_far l D g cI n b fl me st lk cm vv cJ v i (by first | assumption | omega) (by first | assumption | omega)) (va_cwS 3 hts gL_isSo_L_far rfl rfl rfl (by decide +kernel) ⟨Nat.le_of_ble_eq_true rfl, Nat.le_of_ble_eq_true rfl⟩) hK hN hP hS hA [8, 9] [0, 1] rfl rfl rfl hl.1 rfl (Nat.le_of_ble_eq_true rfl) dL_isSo_44 ⟨Nat.zero_le _, Nat.zero_le _⟩ (fun H locs hz9 hP hS => ?_)
        refine lv_istore (lv' := [(12, .int (nI (far fl v n i))), (11, .int (dst fl v n i)), (0, .ref x9), (1, .ref g), (2, .ref vv), (3, .ref nn), (4, .int (nI (mx (far fl v n) i))), (5, .int (nI (cnt (fal fl v n) i))), (6, .int (nI (sm (ivo fl v n) i))), (7, .long (bst fl v n b i)), (9, .int (nI 1)), (10, .int (nI i))]) hx hb dL_isSo_47 hl (by decide) rfl (fun ls hl => ?_)
        refine lv_iconst (v := nI 0) hx hb dL_isSo_49 (by decide) ?_
        refine lv_istore (lv' := [(13, .int (nI 0)), (12, .int (nI (far fl v n i))), (11, .int (dst fl v n i)), (0, .ref x9), (1, .ref g), (2, .ref vv), (3, .ref nn), (4, .int (nI (mx (far fl v n) i))), (5, .int (nI (cnt (fal fl v n) i))), (6, .int (nI (sm (ivo fl v n) i))), (7, .long (bst fl v n b i)), (9, .int (nI 1)), (10, .int (nI i))]) hx hb dL_isSo_50 hl (by decide) rfl (fun ls hl => ?_)
        refine lv_iconst (v := nI 0) hx hb dL_isSo_52 (by decide) ?_
        refine lv_istore (lv' := [(14, .int (nI 0)), (13, .int (nI 0)), (12, .int (nI (far fl v n i))), (11, .int (dst fl v n i)), (0, .ref x9), (1, .ref g), (2, .ref vv), (3, .ref nn), (4, .int (nI (mx (far fl v n) i))), (5, .int (nI (cnt (fal fl v n) i))), (6, .int (nI (sm (ivo fl v n) i))), (7, .long (bst fl v n b i)), (9, .int (nI 1)), (10, .int (nI i))]) hx hb dL_isSo_53 hl (by decide) rfl (fun ls hl => ?_)
        have el_l13 : cnt (ivp fl v i) 0 = 0 := by rfl
        have loop55 : ∀ (K : Nat) (j : Nat), n - j < K → j ≤ n → ∀ (H : Heap) (locs : List Loc), va_P D vwCl ((ObjC x9 r r2 q co h) ++ (RowC r va na ra cJ cI v nu rk n b fl me st lk cm) ++ (SrcC q pc1 lk1 lw hg) ++ (CmdC co ba cB tb ln nx am wd nb vl) ++ (GvC g cI n b fl me st lk cm) ++ (VvC vv cJ v) ++ (NnC nn cI nu)) H → va_D (va_A ((ObjC x9 r r2 q co h) ++ (RowC r va na ra cJ cI v nu rk n b fl me st lk cm) ++ (SrcC q pc1 lk1 lw hg) ++ (CmdC co ba cB tb ln nx am wd nb vl) ++ (GvC g cI n b fl me st lk cm) ++ (VvC vv cJ v) ++ (NnC nn cI nu)) s.heap.size) ((ObjC x9 r r2 q co h) ++ (RowC r va na ra cJ cI v nu rk n b fl me st lk cm) ++ (SrcC q pc1 lk1 lw hg) ++ (CmdC co ba cB tb ln nx am wd nb vl) ++ (GvC g cI n b fl me st lk cm) ++ (VvC vv cJ v) ++ (NnC nn cI nu)) → va_S (va_A ((ObjC x9 r r2 q co h) ++ (RowC r va na ra cJ cI v nu rk n b fl me st lk cm) ++ (SrcC q pc1 lk1 lw hg) ++ (CmdC co ba cB tb ln nx am wd nb vl) ++ (GvC g cI n b fl me st lk cm) ++ (VvC vv cJ v) ++ (NnC nn cI nu)) s.heap.size) s.heap H locs → ∀ ls : Array Slot, lv_has ls 15 [(0, .ref x9), (1, .ref g), (2, .ref vv), (3, .ref nn), (4, .int (nI (mx (far fl v n) i))), (5, .int (nI (cnt (fal fl v n) i))), (6, .int (nI (sm (ivo fl v n) i))), (7, .long (bst fl v n b i)), (9, .int (nI 1)), (10, .int (nI i)), (11, .int (dst fl v n i)), (12, .int (nI (far fl v n i))), (13, .int (nI (cnt (ivp fl v i) j))), (14, .int (nI j))] → W p l e ({ frames := 8, cells := 0, slots := 0, locals := 170 } : Room) s m args below meth c H locs 0 0 (ZMi below args s D ((ObjC x9 r r2 q co h) ++ (RowC r va na ra cJ cI v nu rk n b fl me st lk cm) ++ (SrcC q pc1 lk1 lw hg) ++ (CmdC co ba cB tb ln nx am wd nb vl) ++ (GvC g cI n b fl me st lk cm) ++ (VvC vv cJ v) ++ (NnC nn cI nu)) (bI true) ((ObjC x9 r r2 q co h) ++ (RowC r va na ra cJ cI v nu rk n b fl me st lk cm) ++ (SrcC q (lst pc1 (fun j => oI (sr1 fl v n b (v j))) n) (lst lk1 (fun j => sr2 fl v n b (v j)) n) (lst lw (fun j => sr3 fl v n b (v j)) n) (lst hg (fun j => sr4 fl v n b (v j)) n)) ++ (CmdC co ba cB tb ln nx am wd nb vl) ++ (GvC g cI n b fl me st lk cm) ++ (VvC vv cJ v) ++ (NnC nn cI nu))) (F0 m 55 ls []) := by
          intro K
          induction K with
          | zero => intro j hK0; exact absurd hK0 (Nat.not_lt_zero _)
          | succ K ih55 =>
            intro j hKm hj H locs hP hD hS ls hl
            refine lv_iload hx hb dL_isSo_55 (lv_at hl 13 rfl) ?_
            refine lv_aload_n hx hb dL_isSo_57 rfl (lv_at hl 1 rfl) ?_
            refine lv_iconst (v := nI 0) hx hb dL_isSo_58 (by decide) ?_
            refine wv_iald hx hb hK hP 8 1 rfl rfl (k := 0) (by omega) (by decide) dL_isSo_59 ?_
            refine wv_ti (y := nI n) rfl ?_
            refine wv_icmp_ge (tgt := 123) hx hb (by omega) (by omega) dL_isSo_60 (by decide) (fun c60 => ?_) (fun c60 => ?_)
            · skip
              refine lv_iload hx hb dL_isSo_123 (lv_at hl 6 rfl) ?_
              refine lv_iload hx hb dL_isSo_125 (lv_at hl 12 rfl) ?_
              refine lv_iadd hx hb dL_isSo_127 ?_
              refine wv_ti (nI_add _ _) ?_
              refine lv_istore (lv' := [(6, .int (nI ((sm (ivo fl v n) i) + (cnt (ivp fl v i) j)))), (0, .ref x9), (1, .ref g), (2, .ref vv), (3, .ref nn), (4, .int (nI (mx (far fl v n) i))), (5, .int (nI (cnt (fal fl v n) i))), (7, .long (bst fl v n b i)), (9, .int (nI 1)), (10, .int (nI i)), (11, .int (dst fl v n i)), (12, .int (nI (far fl v n i))), (13, .int (nI (cnt (ivp fl v i) j))), (14, .int (nI j))]) hx hb dL_isSo_128 hl (by decide) rfl (fun ls hl => ?_)
              refine lv_iload hx hb dL_isSo_130 (lv_at hl 11 rfl) ?_
              refine lv_iload hx hb dL_isSo_132 (lv_at hl 5 rfl) ?_
              refine wv_icmp_le (tgt := 142) hx hb (by omega) (by omega) dL_isSo_134 (by decide) (fun c134 => ?_) (fun c134 => ?_)
              · skip
                refine lv_iload hx hb dL_isSo_142 (lv_at hl 5 rfl) ?_
                refine lv_istore (lv' := [(4, .int (nI (mx (far fl v n) i))), (6, .int (nI ((sm (ivo fl v n) i) + (cnt (ivp fl v i) j)))), (0, .ref x9), (1, .ref g), (2, .ref vv), (3, .ref nn), (5, .int (nI (cnt (fal fl v n) i))), (7, .long (bst fl v n b i)), (9, .int (nI 1)), (10, .int (nI i)), (11, .int (dst fl v n i)), (12, .int (nI (far fl v n i))), (13, .int (nI (cnt (ivp fl v i) j))), (14, .int (nI j))]) hx hb dL_isSo_144 hl (by decide) rfl (fun ls hl => ?_)
                refine lv_lload hx hb dL_isSo_146 (lv_at hl 7 rfl) ?_
                refine lv_iload hx hb dL_isSo_148 (lv_at hl 11 rfl) ?_
                refine lv_aload_n hx hb dL_isSo_150 rfl (lv_at hl 3 rfl) ?_
                refine lv_iconst (v := nI 1) hx hb dL_isSo_151 (by decide) ?_
                refine wv_iald hx hb hK hP 8 1 rfl rfl (k := 1) (by omega) (by decide) dL_isSo_152 ?_
                refine wv_ti (y := nI b) rfl ?_
                refine wv_icmp_le (tgt := 163) hx hb (by omega) (by omega) dL_isSo_153 (by decide) (fun c153 => ?_) (fun c153 => ?_)
                · skip
                  refine lv_lconst (v := lN 0) hx hb dL_isSo_163 rfl ?_
                  refine lv_lor hx hb dL_isSo_164 ?_
                  refine lv_lstore (lv' := [(7, .long ((bst fl v n b i) ||| (lN 0))), (4, .int (nI (mx (far fl v n) i))), (6, .int (nI ((sm (ivo fl v n) i) + (cnt (ivp fl v i) j)))), (0, .ref x9), (1, .ref g), (2, .ref vv), (3, .ref nn), (5, .int (nI (cnt (fal fl v n) i))), (9, .int (nI 1)), (10, .int (nI i)), (11, .int (dst fl v n i)), (12, .int (nI (far fl v n i))), (13, .int (nI (cnt (ivp fl v i) j))), (14, .int (nI j))]) hx hb dL_isSo_165 hl (by decide) rfl (fun ls hl => ?_)
                  refine lv_iload hx hb dL_isSo_167 (lv_at hl 7 rfl) ?_
                  refine lv_aload_n hx hb dL_isSo_169 rfl (lv_at hl 4 rfl) ?_
                  refine lv_aload_n hx hb dL_isSo_170 rfl (lv_at hl 5 rfl) ?_
                  refine lv_iload hx hb dL_isSo_171 (lv_at hl 9 rfl) ?_
                  refine wv_callSi (As := [.ref g, .ref vv, .int (nI i)]) (rest := [.int (nI (cnt (fal fl v n) i))]) ⟨hx, hb, hml, hown, hts⟩ (kL_fall l D g cI n b fl me st lk cm vv cJ v i (by first | assumption | omega) (by first | assumption | omega)) (va_cwS 3 hts gL_isSo_L_fall rfl rfl rfl (by decide +kernel) ⟨Nat.le_of_ble_eq_true rfl, Nat.le_of_ble_eq_true rfl⟩) hK hN hP hS hA [8, 9] [0, 1] rfl rfl rfl hl.1 rfl (Nat.le_of_ble_eq_true rfl) dL_isSo_173 ⟨Nat.zero_le _, Nat.zero_le _⟩ (fun H locs hz9 hP hS => ?_)
                  refine wv_ifeqB (tgt := 183) hx hb dL_isSo_176 (by decide) (fun c176 => ?_) (fun c176 => ?_)
                  · skip
                    refine lv_iconst (v := nI 0) hx hb dL_isSo_183 (by decide) ?_
                    refine lv_iadd hx hb dL_isSo_184 ?_
                    refine wv_ti (nI_add _ _) ?_
                    refine lv_istore (lv' := [(5, .int (nI ((cnt (fal fl v n) i) + 0))), (7, .long ((bst fl v n b i) ||| (lN 0))), (4, .int (nI (mx (far fl v n) i))), (6, .int (nI ((sm (ivo fl v n) i) + (cnt (ivp fl v i) j)))), (0, .ref x9), (1, .ref g), (2, .ref vv), (3, .ref nn), (9, .int (nI 1)), (10, .int (nI i)), (11, .int (dst fl v n i)), (12, .int (nI (far fl v n i))), (13, .int (nI (cnt (ivp fl v i) j))), (14, .int (nI j))]) hx hb dL_isSo_185 hl (by decide) rfl (fun ls hl => ?_)
                    refine lv_aload_n hx hb dL_isSo_187 rfl (lv_at hl 4 rfl) ?_
                    refine lv_iload hx hb dL_isSo_188 (lv_at hl 9 rfl) ?_
                    refine wv_callSWPl (As := [.ref x9, .int (nI i)]) (rest := []) ⟨hx, hb, hml, hown, hts⟩ (kL_atOf l D x9 r r2 q co h va na ra cJ cI v nu rk n b fl me st lk cm i (by first | assumption | omega) (by first | assumption | omega)) (vx_cwSW 2 hts gL_isSo_L_atOf rfl rfl rfl (by decide +kernel) ⟨Nat.le_of_ble_eq_true rfl, Nat.le_of_ble_eq_true rfl⟩) hK hN hP hS hA [0, 1, 2, 3, 4] [0, 1] rfl rfl rfl hl.1 rfl (Nat.le_of_ble_eq_true rfl) dL_isSo_190 ⟨Nat.zero_le _, Nat.zero_le _⟩ (fun H locs hz9 hP hS => ?_)
                    refine lv_aload_n hx hb dL_isSo_193 rfl (lv_at hl 6 rfl) ?_
                    refine lv_iload hx hb dL_isSo_194 (lv_at hl 9 rfl) ?_
                    refine wv_lald hx hb hK hP 9 0 rfl rfl (k := i) (by omega) (by decide) dL_isSo_196 ?_
                    refine wv_lc_ne (tgt := 323) hx hb dL_isSo_197 dL_isSo_198 (by decide) (fun c198 => by exfalso; exact c198 rfl) (fun c198 => ?_)
                    refine lv_aload_n hx hb dL_isSo_201 rfl (lv_at hl 4 rfl) ?_
                    refine lv_iload hx hb dL_isSo_202 (lv_at hl 9 rfl) ?_
                    refine lv_iconst (v := nI 0) hx hb dL_isSo_204 (by decide) ?_
                    refine wv_callSWPi (As := [.ref x9, .int (nI i), .int (nI 0)]) (rest := []) ⟨hx, hb, hml, hown, hts⟩ (kL_elementOf l D x9 r r2 q co h va na ra cJ cI v nu rk n b fl me st lk cm i 0 (by first | assumption | omega) (by first | assumption | omega) (by first | assumption | omega) (by first | assumption | omega) (by first | assumption | omega)) (vx_cwSW 3 hts gL_isSo_L_elementOf rfl rfl rfl (by decide +kernel) ⟨Nat.le_of_ble_eq_true rfl, Nat.le_of_ble_eq_true rfl⟩) hK hN hP hS hA [0, 1, 2, 3, 4] [0, 1] rfl rfl rfl hl.1 rfl (Nat.le_of_ble_eq_true rfl) dL_isSo_205 ⟨Nat.zero_le _, Nat.zero_le _⟩ (fun H locs hz9 hP hS => ?_)
                    refine lv_aload_n hx hb dL_isSo_208 rfl (lv_at hl 7 rfl) ?_
                    refine lv_iload hx hb dL_isSo_209 (lv_at hl 9 rfl) ?_
                    refine wv_iald hx hb hK hP 10 1 rfl rfl (k := i) (by omega) (by decide) dL_isSo_211 ?_
                    refine lv_icmp_ne (tgt := 323) hx hb dL_isSo_212 (by decide) (fun c212 => by exfalso; exact c212 rfl) (fun c212 => ?_)
                    refine lv_aload_n hx hb dL_isSo_215 rfl (lv_at hl 4 rfl) ?_
                    refine lv_iload hx hb dL_isSo_216 (lv_at hl 9 rfl) ?_
                    refine lv_iconst (v := nI 1) hx hb dL_isSo_218 (by decide) ?_
                    refine wv_callSWPi (As := [.ref x9, .int (nI i), .int (nI 1)]) (rest := []) ⟨hx, hb, hml, hown, hts⟩ (kL_elementOf l D x9 r r2 q co h va na ra cJ cI v nu rk n b fl me st lk cm i 1 (by first | assumption | omega) (by first | assumption | omega) (by first | assumption | omega) (by first | assumption | omega) (by first | assumption | omega)) (vx_cwSW 3 hts gL_isSo_L_elementOf rfl rfl rfl (by decide +kernel) ⟨Nat.le_of_ble_eq_true rfl, Nat.le_of_ble_eq_true rfl⟩) hK hN hP hS hA [0, 1, 2, 3, 4] [0, 1] rfl rfl rfl hl.1 rfl (Nat.le_of_ble_eq_true rfl) dL_isSo_219 ⟨Nat.zero_le _, Nat.zero_le _⟩ (fun H locs hz9 hP hS => ?_)
                    refine lv_iload hx hb dL_isSo_222 (lv_at hl 9 rfl) ?_
                    refine lv_iload hx hb dL_isSo_224 (lv_at hl 10 rfl) ?_
                    refine lv_isub hx hb dL_isSo_226 ?_
                    refine wv_ti (y := nI (rk0 fl v n i)) (dst_rk (by omega) hn) ?_
                    refine lv_icmp_ne (tgt := 323) hx hb dL_isSo_227 (by decide) (fun c227 => by exfalso; exact c227 rfl) (fun c227 => ?_)
                    refine lv_aload_n hx hb dL_isSo_230 rfl (lv_at hl 4 rfl) ?_
                    refine lv_iload hx hb dL_isSo_231 (lv_at hl 9 rfl) ?_
                    refine lv_iconst (v := nI 2) hx hb dL_isSo_233 (by decide) ?_
                    refine wv_callSWPi (As := [.ref x9, .int (nI i), .int (nI 2)]) (rest := []) ⟨hx, hb, hml, hown, hts⟩ (kL_elementOf l D x9 r r2 q co h va na ra cJ cI v nu rk n b fl me st lk cm i 2 (by first | assumption | omega) (by first | assumption | omega) (by first | assumption | omega) (by first | assumption | omega) (by first | assumption | omega)) (vx_cwSW 3 hts gL_isSo_L_elementOf rfl rfl rfl (by decide +kernel) ⟨Nat.le_of_ble_eq_true rfl, Nat.le_of_ble_eq_true rfl⟩) hK hN hP hS hA [0, 1, 2, 3, 4] [0, 1] rfl rfl rfl hl.1 rfl (Nat.le_of_ble_eq_true rfl) dL_isSo_234 ⟨Nat.zero_le _, Nat.zero_le _⟩ (fun H locs hz9 hP hS => ?_)
                    refine lv_iload hx hb dL_isSo_237 (lv_at hl 10 rfl) ?_
                    refine lv_icmp_ne (tgt := 323) hx hb dL_isSo_239 (by decide) (fun c239 => by exfalso; exact c239 rfl) (fun c239 => ?_)
                    refine lv_aload_n hx hb dL_isSo_242 rfl (lv_at hl 4 rfl) ?_
                    refine lv_iload hx hb dL_isSo_243 (lv_at hl 9 rfl) ?_
                    refine lv_iconst (v := nI 3) hx hb dL_isSo_245 (by decide) ?_
                    refine wv_callSWPi (As := [.ref x9, .int (nI i), .int (nI 3)]) (rest := []) ⟨hx, hb, hml, hown, hts⟩ (kL_elementOf l D x9 r r2 q co h va na ra cJ cI v nu rk n b fl me st lk cm i 3 (by first | assumption | omega) (by first | assumption | omega) (by first | assumption | omega) (by first | assumption | omega) (by first | assumption | omega)) (vx_cwSW 3 hts gL_isSo_L_elementOf rfl rfl rfl (by decide +kernel) ⟨Nat.le_of_ble_eq_true rfl, Nat.le_of_ble_eq_true rfl⟩) hK hN hP hS hA [0, 1, 2, 3, 4] [0, 1] rfl rfl rfl hl.1 rfl (Nat.le_of_ble_eq_true rfl) dL_isSo_246 ⟨Nat.zero_le _, Nat.zero_le _⟩ (fun H locs hz9 hP hS => ?_)
                    refine lv_iload hx hb dL_isSo_249 (lv_at hl 11 rfl) ?_
                    refine lv_aload_n hx hb dL_isSo_251 rfl (lv_at hl 5 rfl) ?_
                    refine lv_iconst (v := nI 1) hx hb dL_isSo_252 (by decide) ?_
                    refine wv_iald hx hb hK hP 8 1 rfl rfl (k := 1) (by omega) (by decide) dL_isSo_253 ?_
                    refine wv_ti (y := nI b) rfl ?_
                    refine wv_icmp_le (tgt := 261) hx hb (by omega) (by omega) dL_isSo_254 (by decide) (fun c254 => ?_) (fun c254 => by exfalso; omega)
                    refine lv_iconst (v := nI 0) hx hb dL_isSo_261 (by decide) ?_
                    refine lv_icmp_ne (tgt := 323) hx hb dL_isSo_262 (by decide) (fun c262 => by exfalso; exact c262 (by first | (show bI (brk fl v n b i) = _; rw [show brk fl v n b i = true from decide_eq_true (by omega)]; rfl) | (show bI (brk fl v n b i) = _; rw [show brk fl v n b i = false from decide_eq_false (by omega)]; rfl))) (fun c262 => ?_)
                    refine lv_aload_n hx hb dL_isSo_265 rfl (lv_at hl 4 rfl) ?_
                    refine lv_iload hx hb dL_isSo_266 (lv_at hl 9 rfl) ?_
                    refine lv_iconst (v := nI 4) hx hb dL_isSo_268 (by decide) ?_
                    refine wv_callSWPi (As := [.ref x9, .int (nI i), .int (nI 4)]) (rest := []) ⟨hx, hb, hml, hown, hts⟩ (kL_elementOf l D x9 r r2 q co h va na ra cJ cI v nu rk n b fl me st lk cm i 4 (by first | assumption | omega) (by first | assumption | omega) (by first | assumption | omega) (by first | assumption | omega) (by first | assumption | omega)) (vx_cwSW 3 hts gL_isSo_L_elementOf rfl rfl rfl (by decide +kernel) ⟨Nat.le_of_ble_eq_true rfl, Nat.le_of_ble_eq_true rfl⟩) hK hN hP hS hA [0, 1, 2, 3, 4] [0, 1] rfl rfl rfl hl.1 rfl (Nat.le_of_ble_eq_true rfl) dL_isSo_269 ⟨Nat.zero_le _, Nat.zero_le _⟩ (fun H locs hz9 hP hS => ?_)
                    refine lv_aload_n hx hb dL_isSo_272 rfl (lv_at hl 5 rfl) ?_
                    refine lv_aload_n hx hb dL_isSo_273 rfl (lv_at hl 6 rfl) ?_
                    refine lv_iload hx hb dL_isSo_274 (lv_at hl 9 rfl) ?_
                    refine wv_callSi (As := [.ref g, .ref vv, .int (nI i)]) (rest := [.int (elV fl v n b (nu i) i 4)]) ⟨hx, hb, hml, hown, hts⟩ (kL_fall l D g cI n b fl me st lk cm vv cJ v i (by first | assumption | omega) (by first | assumption | omega)) (va_cwS 3 hts gL_isSo_L_fall rfl rfl rfl (by decide +kernel) ⟨Nat.le_of_ble_eq_true rfl, Nat.le_of_ble_eq_true rfl⟩) hK hN hP hS hA [8, 9] [0, 1] rfl rfl rfl hl.1 rfl (Nat.le_of_ble_eq_true rfl) dL_isSo_276 ⟨Nat.zero_le _, Nat.zero_le _⟩ (fun H locs hz9 hP hS => ?_)
                    refine wv_ifeqB (tgt := 286) hx hb dL_isSo_279 (by decide) (fun c279 => ?_) (fun c279 => by exfalso; rw [c176] at c279; cases c279)
                    refine lv_iconst (v := nI 0) hx hb dL_isSo_286 (by decide) ?_
                    refine lv_icmp_ne (tgt := 323) hx hb dL_isSo_287 (by decide) (fun c287 => by exfalso; exact c287 (by show bI (fal fl v n i) = _; rw [c176]; rfl)) (fun c287 => ?_)
                    refine lv_aload_n hx hb dL_isSo_290 rfl (lv_at hl 4 rfl) ?_
                    refine lv_iload hx hb dL_isSo_291 (lv_at hl 9 rfl) ?_
                    refine lv_iconst (v := nI 5) hx hb dL_isSo_293 (by decide) ?_
                    refine wv_callSWPi (As := [.ref x9, .int (nI i), .int (nI 5)]) (rest := []) ⟨hx, hb, hml, hown, hts⟩ (kL_elementOf l D x9 r r2 q co h va na ra cJ cI v nu rk n b fl me st lk cm i 5 (by first | assumption | omega) (by first | assumption | omega) (by first | assumption | omega) (by first | assumption | omega) (by first | assumption | omega)) (vx_cwSW 3 hts gL_isSo_L_elementOf rfl rfl rfl (by decide +kernel) ⟨Nat.le_of_ble_eq_true rfl, Nat.le_of_ble_eq_true rfl⟩) hK hN hP hS hA [0, 1, 2, 3, 4] [0, 1] rfl rfl rfl hl.1 rfl (Nat.le_of_ble_eq_true rfl) dL_isSo_294 ⟨Nat.zero_le _, Nat.zero_le _⟩ (fun H locs hz9 hP hS => ?_)
                    refine lv_iload hx hb dL_isSo_297 (lv_at hl 12 rfl) ?_
                    refine lv_icmp_ne (tgt := 323) hx hb dL_isSo_299 (by decide) (fun c299 => by exfalso; exact c299 (by rw [show j = n by omega]; rfl)) (fun c299 => ?_)
                    refine lv_aload_n hx hb dL_isSo_302 rfl (lv_at hl 4 rfl) ?_
                    refine lv_iload hx hb dL_isSo_303 (lv_at hl 9 rfl) ?_
                    refine lv_iload hx hb dL_isSo_305 (lv_at hl 10 rfl) ?_
                    refine lv_isub hx hb dL_isSo_307 ?_
                    refine wv_ti (y := nI (rk0 fl v n i)) (dst_rk (by omega) hn) ?_
                    refine wv_callSWPl (As := [.ref x9, .int (nI (rk0 fl v n i))]) (rest := []) ⟨hx, hb, hml, hown, hts⟩ (kL_rankedOf l D x9 r r2 q co h va na ra cJ cI v nu rk n b fl me st lk cm (nI (rk0 fl v n i)) p1 (by first | assumption | omega) (by first | assumption | omega) (by first | assumption | omega)) (vx_cwSW 2 hts gL_isSo_L_rankedOf rfl rfl rfl (by decide +kernel) ⟨Nat.le_of_ble_eq_true rfl, Nat.le_of_ble_eq_true rfl⟩) hK hN hP hS hA [0, 1, 2, 3, 4] [0, 1] rfl rfl rfl hl.1 rfl (Nat.le_of_ble_eq_true rfl) dL_isSo_308 ⟨Nat.zero_le _, Nat.zero_le _⟩ (fun H locs hz9 hP hS => ?_)
                    refine lv_aload_n hx hb dL_isSo_311 rfl (lv_at hl 6 rfl) ?_
                    refine lv_iload hx hb dL_isSo_312 (lv_at hl 9 rfl) ?_
                    refine wv_lald hx hb hK hP 9 0 rfl rfl (k := i) (by omega) (by decide) dL_isSo_314 ?_
                    refine wv_lc_ne (tgt := 323) hx hb dL_isSo_315 dL_isSo_316 (by decide) (fun c316 => by exfalso; exact c316 hpv) (fun c316 => ?_)
                    refine lv_iconst (v := nI 1) hx hb dL_isSo_319 (by decide) ?_
                    refine lv_goto (tgt := 324) hx hb dL_isSo_320 (by decide) ?_
                    refine lv_istore (lv' := [(9, .int (nI 1)), (5, .int (nI ((cnt (fal fl v n) i) + 0))), (7, .long ((bst fl v n b i) ||| (lN 0))), (4, .int (nI (mx (far fl v n) i))), (6, .int (nI ((sm (ivo fl v n) i) + (cnt (ivp fl v i) j)))), (0, .ref x9), (1, .ref g), (2, .ref vv), (3, .ref nn), (10, .int (nI i)), (11, .int (dst fl v n i)), (12, .int (nI (far fl v n i))), (13, .int (nI (cnt (ivp fl v i) j))), (14, .int (nI j))]) hx hb dL_isSo_324 hl (by decide) rfl (fun ls hl => ?_)
                    refine lv_iinc (v := nI (i + 1)) (lv' := [(10, .int (nI (i + 1))), (9, .int (nI 1)), (5, .int (nI ((cnt (fal fl v n) i) + 0))), (7, .long ((bst fl v n b i) ||| (lN 0))), (4, .int (nI (mx (far fl v n) i))), (6, .int (nI ((sm (ivo fl v n) i) + (cnt (ivp fl v i) j)))), (0, .ref x9), (1, .ref g), (2, .ref vv), (3, .ref nn), (11, .int (dst fl v n i)), (12, .int (nI (far fl v n i))), (13, .int (nI (cnt (ivp fl v i) j))), (14, .int (nI j))]) hx hb dL_isSo_326 hl (k := 9) rfl (nI_1 _) (by decide) rfl (fun ls hl => ?_)
                    refine lv_goto (tgt := 18) hx hb dL_isSo_329 (by decide) ?_
                    have el_l4 : mx (far fl v n) (i + 1) = mx (far fl v n) i := by first | (rw [mx_s, Nat.max_eq_left (by omega)]; done) | (rw [mx_s, Nat.max_eq_right (by omega)]; done)
                    have el_l5 : cnt (fal fl v n) (i + 1) = (cnt (fal fl v n) i) + 0 := by first | exact cnt_t c176 | exact cnt_f c176
                    have el_l6 : sm (ivo fl v n) (i + 1) = (sm (ivo fl v n) i) + (cnt (ivp fl v i) j) := by rw [sm_s, show j = n by omega]; rfl
                    have el_l7 : bst fl v n b (i + 1) = (bst fl v n b i) ||| (lN 0) := by first | exact if_pos (decide_eq_true (by omega)) | (rw [lor_0]; exact if_neg (by rw [show brk fl v n b i = false from decide_eq_false (by omega)]; decide))
                    exact ih18 (i + 1) (by omega) (by first | assumption | omega) _ _ (by first | (rw [el_l5, el_l4, el_l6, el_l7]; exact hP) | (simp only [el_l5, el_l4, el_l6, el_l7]; exact hP) | exact hP) (by first | (rw [el_l5, el_l4, el_l6, el_l7]; exact hD) | (simp only [el_l5, el_l4, el_l6, el_l7]; exact hD) | exact hD) hS ls (by first | (rw [el_l5, el_l4, el_l6, el_l7]; exact lv_sub hl [6, 7, 8, 9, 4, 2, 5, 3, 1, 0] rfl) | (simp only [el_l5, el_l4, el_l6, el_l7]; exact lv_sub hl [6, 7, 8, 9, 4, 2, 5, 3, 1, 0] rfl) | exact lv_sub hl [6, 7, 8, 9, 4, 2, 5, 3, 1, 0] rfl)
                  · skip
                    refine lv_iconst (v := nI 1) hx hb dL_isSo_179 (by decide) ?_
                    refine lv_goto (tgt := 184) hx hb dL_isSo_180 (by decide) ?_
                    refine lv_iadd hx hb dL_isSo_184 ?_
                    refine wv_ti (nI_add _ _) ?_
                    refine lv_istore (lv' := [(5, .int (nI ((cnt (fal fl v n) i) + 1))), (7, .long ((bst fl v n b i) ||| (lN 0))), (4, .int (nI (mx (far fl v n) i))), (6, .int (nI ((sm (ivo fl v n) i) + (cnt (ivp fl v i) j)))), (0, .ref x9), (1, .ref g), (2, .ref vv), (3, .ref nn), (9, .int (nI 1)), (10, .int (nI i)), (11, .int (dst fl v n i)), (12, .int (nI (far fl v n i))), (13, .int (nI (cnt (ivp fl v i) j))), (14, .int (nI j))]) hx hb dL_isSo_185 hl (by decide) rfl (fun ls hl => ?_)
                    refine lv_aload_n hx hb dL_isSo_187 rfl (lv_at hl 4 rfl) ?_
                    refine lv_iload hx hb dL_isSo_188 (lv_at hl 9 rfl) ?_
                    refine wv_callSWPl (As := [.ref x9, .int (nI i)]) (rest := []) ⟨hx, hb, hml, hown, hts⟩ (kL_atOf l D x9 r r2 q co h va na ra cJ cI v nu rk n b fl me st lk cm i (by first | assumption | omega) (by first | assumption | omega)) (vx_cwSW 2 hts gL_isSo_L_atOf rfl rfl rfl (by decide +kernel) ⟨Nat.le_of_ble_eq_true rfl, Nat.le_of_ble_eq_true rfl⟩) hK hN hP hS hA [0, 1, 2, 3, 4] [0, 1] rfl rfl rfl hl.1 rfl (Nat.le_of_ble_eq_true rfl) dL_isSo_190 ⟨Nat.zero_le _, Nat.zero_le _⟩ (fun H locs hz9 hP hS => ?_)
                    refine lv_aload_n hx hb dL_isSo_193 rfl (lv_at hl 6 rfl) ?_
                    refine lv_iload hx hb dL_isSo_194 (lv_at hl 9 rfl) ?_
                    refine wv_lald hx hb hK hP 9 0 rfl rfl (k := i) (by omega) (by decide) dL_isSo_196 ?_
                    refine wv_lc_ne (tgt := 323) hx hb dL_isSo_197 dL_isSo_198 (by decide) (fun c198 => by exfalso; exact c198 rfl) (fun c198 => ?_)
                    refine lv_aload_n hx hb dL_isSo_201 rfl (lv_at hl 4 rfl) ?_
                    refine lv_iload hx hb dL_isSo_202 (lv_at hl 9 rfl) ?_
                    refine lv_iconst (v := nI 0) hx hb dL_isSo_204 (by decide) ?_
                    refine wv_callSWPi (As := [.ref x9, .int (nI i), .int (nI 0)]) (rest := []) ⟨hx, hb, hml, hown, hts⟩ (kL_elementOf l D x9 r r2 q co h va na ra cJ cI v nu rk n b fl me st lk cm i 0 (by first | assumption | omega) (by first | assumption | omega) (by first | assumption | omega) (by first | assumption | omega) (by first | assumption | omega)) (vx_cwSW 3 hts gL_isSo_L_elementOf rfl rfl rfl (by decide +kernel) ⟨Nat.le_of_ble_eq_true rfl, Nat.le_of_ble_eq_true rfl⟩) hK hN hP hS hA [0, 1, 2, 3, 4] [0, 1] rfl rfl rfl hl.1 rfl (Nat.le_of_ble_eq_true rfl) dL_isSo_205 ⟨Nat.zero_le _, Nat.zero_le _⟩ (fun H locs hz9 hP hS => ?_)
                    refine lv_aload_n hx hb dL_isSo_208 rfl (lv_at hl 7 rfl) ?_
                    refine lv_iload hx hb dL_isSo_209 (lv_at hl 9 rfl) ?_
                    refine wv_iald hx hb hK hP 10 1 rfl rfl (k := i) (by omega) (by decide) dL_isSo_211 ?_
                    refine lv_icmp_ne (tgt := 323) hx hb dL_isSo_212 (by decide) (fun c212 => by exfalso; exact c212 rfl) (fun c212 => ?_)
                    refine lv_aload_n hx hb dL_isSo_215 rfl (lv_at hl 4 rfl) ?_
                    refine lv_iload hx hb dL_isSo_216 (lv_at hl 9 rfl) ?_
                    refine lv_iconst (v := nI 1) hx hb dL_isSo_218 (by decide) ?_
                    refine wv_callSWPi (As := [.ref x9, .int (nI i), .int (nI 1)]) (rest := []) ⟨hx, hb, hml, hown, hts⟩ (kL_elementOf l D x9 r r2 q co h va na ra cJ cI v nu rk n b fl me st lk cm i 1 (by first | assumption | omega) (by first | assumption | omega) (by first | assumption | omega) (by first | assumption | omega) (by first | assumption | omega)) (vx_cwSW 3 hts gL_isSo_L_elementOf rfl rfl rfl (by decide +kernel) ⟨Nat.le_of_ble_eq_true rfl, Nat.le_of_ble_eq_true rfl⟩) hK hN hP hS hA [0, 1, 2, 3, 4] [0, 1] rfl rfl rfl hl.1 rfl (Nat.le_of_ble_eq_true rfl) dL_isSo_219 ⟨Nat.zero_le _, Nat.zero_le _⟩ (fun H locs hz9 hP hS => ?_)
                    refine lv_iload hx hb dL_isSo_222 (lv_at hl 9 rfl) ?_
                    refine lv_iload hx hb dL_isSo_224 (lv_at hl 10 rfl) ?_
                    refine lv_isub hx hb dL_isSo_226 ?_
                    refine wv_ti (y := nI (rk0 fl v n i)) (dst_rk (by omega) hn) ?_
                    refine lv_icmp_ne (tgt := 323) hx hb dL_isSo_227 (by decide) (fun c227 => by exfalso; exact c227 rfl) (fun c227 => ?_)
                    refine lv_aload_n hx hb dL_isSo_230 rfl (lv_at hl 4 rfl) ?_
                    refine lv_iload hx hb dL_isSo_231 (lv_at hl 9 rfl) ?_
                    refine lv_iconst (v := nI 2) hx hb dL_isSo_233 (by decide) ?_
                    refine wv_callSWPi (As := [.ref x9, .int (nI i), .int (nI 2)]) (rest := []) ⟨hx, hb, hml, hown, hts⟩ (kL_elementOf l D x9 r r2 q co h va na ra cJ cI v nu rk n b fl me st lk cm i 2 (by first | assumption | omega) (by first | assumption | omega) (by first | assumption | omega) (by first | assumption | omega) (by first | assumption | omega)) (vx_cwSW 3 hts gL_isSo_L_elementOf rfl rfl rfl (by decide +kernel) ⟨Nat.le_of_ble_eq_true rfl, Nat.le_of_ble_eq_true rfl⟩) hK hN hP hS hA [0, 1, 2, 3, 4] [0, 1] rfl rfl rfl hl.1 rfl (Nat.le_of_ble_eq_true rfl) dL_isSo_234 ⟨Nat.zero_le _, Nat.zero_le _⟩ (fun H locs hz9 hP hS => ?_)
                    refine lv_iload hx hb dL_isSo_237 (lv_at hl 10 rfl) ?_
                    refine lv_icmp_ne (tgt := 323) hx hb dL_isSo_239 (by decide) (fun c239 => by exfalso; exact c239 rfl) (fun c239 => ?_)
                    refine lv_aload_n hx hb dL_isSo_242 rfl (lv_at hl 4 rfl) ?_
                    refine lv_iload hx hb dL_isSo_243 (lv_at hl 9 rfl) ?_
                    refine lv_iconst (v := nI 3) hx hb dL_isSo_245 (by decide) ?_
                    refine wv_callSWPi (As := [.ref x9, .int (nI i), .int (nI 3)]) (rest := []) ⟨hx, hb, hml, hown, hts⟩ (kL_elementOf l D x9 r r2 q co h va na ra cJ cI v nu rk n b fl me st lk cm i 3 (by first | assumption | omega) (by first | assumption | omega) (by first | assumption | omega) (by first | assumption | omega) (by first | assumption | omega)) (vx_cwSW 3 hts gL_isSo_L_elementOf rfl rfl rfl (by decide +kernel) ⟨Nat.le_of_ble_eq_true rfl, Nat.le_of_ble_eq_true rfl⟩) hK hN hP hS hA [0, 1, 2, 3, 4] [0, 1] rfl rfl rfl hl.1 rfl (Nat.le_of_ble_eq_true rfl) dL_isSo_246 ⟨Nat.zero_le _, Nat.zero_le _⟩ (fun H locs hz9 hP hS => ?_)
                    refine lv_iload hx hb dL_isSo_249 (lv_at hl 11 rfl) ?_
                    refine lv_aload_n hx hb dL_isSo_251 rfl (lv_at hl 5 rfl) ?_
                    refine lv_iconst (v := nI 1) hx hb dL_isSo_252 (by decide) ?_
                    refine wv_iald hx hb hK hP 8 1 rfl rfl (k := 1) (by omega) (by decide) dL_isSo_253 ?_
                    refine wv_ti (y := nI b) rfl ?_
                    refine wv_icmp_le (tgt := 261) hx hb (by omega) (by omega) dL_isSo_254 (by decide) (fun c254 => ?_) (fun c254 => by exfalso; omega)
                    refine lv_iconst (v := nI 0) hx hb dL_isSo_261 (by decide) ?_
                    refine lv_icmp_ne (tgt := 323) hx hb dL_isSo_262 (by decide) (fun c262 => by exfalso; exact c262 (by first | (show bI (brk fl v n b i) = _; rw [show brk fl v n b i = true from decide_eq_true (by omega)]; rfl) | (show bI (brk fl v n b i) = _; rw [show brk fl v n b i = false from decide_eq_false (by omega)]; rfl))) (fun c262 => ?_)
                    refine lv_aload_n hx hb dL_isSo_265 rfl (lv_at hl 4 rfl) ?_
                    refine lv_iload hx hb dL_isSo_266 (lv_at hl 9 rfl) ?_
                    refine lv_iconst (v := nI 4) hx hb dL_isSo_268 (by decide) ?_
                    refine wv_callSWPi (As := [.ref x9, .int (nI i), .int (nI 4)]) (rest := []) ⟨hx, hb, hml, hown, hts⟩ (kL_elementOf l D x9 r r2 q co h va na ra cJ cI v nu rk n b fl me st lk cm i 4 (by first | assumption | omega) (by first | assumption | omega) (by first | assumption | omega) (by first | assumption | omega) (by first | assumption | omega)) (vx_cwSW 3 hts gL_isSo_L_elementOf rfl rfl rfl (by decide +kernel) ⟨Nat.le_of_ble_eq_true rfl, Nat.le_of_ble_eq_true rfl⟩) hK hN hP hS hA [0, 1, 2, 3, 4] [0, 1] rfl rfl rfl hl.1 rfl (Nat.le_of_ble_eq_true rfl) dL_isSo_269 ⟨Nat.zero_le _, Nat.zero_le _⟩ (fun H locs hz9 hP hS => ?_)
                    refine lv_aload_n hx hb dL_isSo_272 rfl (lv_at hl 5 rfl) ?_
                    refine lv_aload_n hx hb dL_isSo_273 rfl (lv_at hl 6 rfl) ?_
                    refine lv_iload hx hb dL_isSo_274 (lv_at hl 9 rfl) ?_
                    refine wv_callSi (As := [.ref g, .ref vv, .int (nI i)]) (rest := [.int (elV fl v n b (nu i) i 4)]) ⟨hx, hb, hml, hown, hts⟩ (kL_fall l D g cI n b fl me st lk cm vv cJ v i (by first | assumption | omega) (by first | assumption | omega)) (va_cwS 3 hts gL_isSo_L_fall rfl rfl rfl (by decide +kernel) ⟨Nat.le_of_ble_eq_true rfl, Nat.le_of_ble_eq_true rfl⟩) hK hN hP hS hA [8, 9] [0, 1] rfl rfl rfl hl.1 rfl (Nat.le_of_ble_eq_true rfl) dL_isSo_276 ⟨Nat.zero_le _, Nat.zero_le _⟩ (fun H locs hz9 hP hS => ?_)
                    refine wv_ifeqB (tgt := 286) hx hb dL_isSo_279 (by decide) (fun c279 => by exfalso; rw [c176] at c279; cases c279) (fun c279 => ?_)
                    refine lv_iconst (v := nI 1) hx hb dL_isSo_282 (by decide) ?_
                    refine lv_goto (tgt := 287) hx hb dL_isSo_283 (by decide) ?_
                    refine lv_icmp_ne (tgt := 323) hx hb dL_isSo_287 (by decide) (fun c287 => by exfalso; exact c287 (by show bI (fal fl v n i) = _; rw [c176]; rfl)) (fun c287 => ?_)
                    refine lv_aload_n hx hb dL_isSo_290 rfl (lv_at hl 4 rfl) ?_
                    refine lv_iload hx hb dL_isSo_291 (lv_at hl 9 rfl) ?_
                    refine lv_iconst (v := nI 5) hx hb dL_isSo_293 (by decide) ?_
                    refine wv_callSWPi (As := [.ref x9, .int (nI i), .int (nI 5)]) (rest := []) ⟨hx, hb, hml, hown, hts⟩ (kL_elementOf l D x9 r r2 q co h va na ra cJ cI v nu rk n b fl me st lk cm i 5 (by first | assumption | omega) (by first | assumption | omega) (by first | assumption | omega) (by first | assumption | omega) (by first | assumption | omega)) (vx_cwSW 3 hts gL_isSo_L_elementOf rfl rfl rfl (by decide +kernel) ⟨Nat.le_of_ble_eq_true rfl, Nat.le_of_ble_eq_true rfl⟩) hK hN hP hS hA [0, 1, 2, 3, 4] [0, 1] rfl rfl rfl hl.1 rfl (Nat.le_of_ble_eq_true rfl) dL_isSo_294 ⟨Nat.zero_le _, Nat.zero_le _⟩ (fun H locs hz9 hP hS => ?_)
                    refine lv_iload hx hb dL_isSo_297 (lv_at hl 12 rfl) ?_
                    refine lv_icmp_ne (tgt := 323) hx hb dL_isSo_299 (by decide) (fun c299 => by exfalso; exact c299 (by rw [show j = n by omega]; rfl)) (fun c299 => ?_)
                    refine lv_aload_n hx hb dL_isSo_302 rfl (lv_at hl 4 rfl) ?_
                    refine lv_iload hx hb dL_isSo_303 (lv_at hl 9 rfl) ?_
                    refine lv_iload hx hb dL_isSo_305 (lv_at hl 10 rfl) ?_
                    refine lv_isub hx hb dL_isSo_307 ?_
                    refine wv_ti (y := nI (rk0 fl v n i)) (dst_rk (by omega) hn) ?_
                    refine wv_callSWPl (As := [.ref x9, .int (nI (rk0 fl v n i))]) (rest := []) ⟨hx, hb, hml, hown, hts⟩ (kL_rankedOf l D x9 r r2 q co h va na ra cJ cI v nu rk n b fl me st lk cm (nI (rk0 fl v n i)) p1 (by first | assumption | omega) (by first | assumption | omega) (by first | assumption | omega)) (vx_cwSW 2 hts gL_isSo_L_rankedOf rfl rfl rfl (by decide +kernel) ⟨Nat.le_of_ble_eq_true rfl, Nat.le_of_ble_eq_true rfl⟩) hK hN hP hS hA [0, 1, 2, 3, 4] [0, 1] rfl rfl rfl hl.1 rfl (Nat.le_of_ble_eq_true rfl) dL_isSo_308 ⟨Nat.zero_le _, Nat.zero_le _⟩ (fun H locs hz9 hP hS => ?_)
                    refine lv_aload_n hx hb dL_isSo_311 rfl (lv_at hl 6 rfl) ?_
                    refine lv_iload hx hb dL_isSo_312 (lv_at hl 9 rfl) ?_
                    refine wv_lald hx hb hK hP 9 0 rfl rfl (k := i) (by omega) (by decide) dL_isSo_314 ?_
                    refine wv_lc_ne (tgt := 323) hx hb dL_isSo_315 dL_isSo_316 (by decide) (fun c316 => by exfalso; exact c316 hpv) (fun c316 => ?_)
                    refine lv_iconst (v := nI 1) hx hb dL_isSo_319 (by decide) ?_
                    refine lv_goto (tgt := 324) hx hb dL_isSo_320 (by decide) ?_
                    refine lv_istore (lv' := [(9, .int (nI 1)), (5, .int (nI ((cnt (fal fl v n) i) + 1))), (7, .long ((bst fl v n b i) ||| (lN 0))), (4, .int (nI (mx (far fl v n) i))), (6, .int (nI ((sm (ivo fl v n) i) + (cnt (ivp fl v i) j)))), (0, .ref x9), (1, .ref g), (2, .ref vv), (3, .ref nn), (10, .int (nI i)), (11, .int (dst fl v n i)), (12, .int (nI (far fl v n i))), (13, .int (nI (cnt (ivp fl v i) j))), (14, .int (nI j))]) hx hb dL_isSo_324 hl (by decide) rfl (fun ls hl => ?_)
                    refine lv_iinc (v := nI (i + 1)) (lv' := [(10, .int (nI (i + 1))), (9, .int (nI 1)), (5, .int (nI ((cnt (fal fl v n) i) + 1))), (7, .long ((bst fl v n b i) ||| (lN 0))), (4, .int (nI (mx (far fl v n) i))), (6, .int (nI ((sm (ivo fl v n) i) + (cnt (ivp fl v i) j)))), (0, .ref x9), (1, .ref g), (2, .ref vv), (3, .ref nn), (11, .int (dst fl v n i)), (12, .int (nI (far fl v n i))), (13, .int (nI (cnt (ivp fl v i) j))), (14, .int (nI j))]) hx hb dL_isSo_326 hl (k := 9) rfl (nI_1 _) (by decide) rfl (fun ls hl => ?_)
                    refine lv_goto (tgt := 18) hx hb dL_isSo_329 (by decide) ?_
                    have el_l4 : mx (far fl v n) (i + 1) = mx (far fl v n) i := by first | (rw [mx_s, Nat.max_eq_left (by omega)]; done) | (rw [mx_s, Nat.max_eq_right (by omega)]; done)
                    have el_l5 : cnt (fal fl v n) (i + 1) = (cnt (fal fl v n) i) + 1 := by first | exact cnt_t c176 | exact cnt_f c176
                    have el_l6 : sm (ivo fl v n) (i + 1) = (sm (ivo fl v n) i) + (cnt (ivp fl v i) j) := by rw [sm_s, show j = n by omega]; rfl
                    have el_l7 : bst fl v n b (i + 1) = (bst fl v n b i) ||| (lN 0) := by first | exact if_pos (decide_eq_true (by omega)) | (rw [lor_0]; exact if_neg (by rw [show brk fl v n b i = false from decide_eq_false (by omega)]; decide))
                    exact ih18 (i + 1) (by omega) (by first | assumption | omega) _ _ (by first | (rw [el_l5, el_l4, el_l6, el_l7]; exact hP) | (simp only [el_l5, el_l4, el_l6, el_l7]; exact hP) | exact hP) (by first | (rw [el_l5, el_l4, el_l6, el_l7]; exact hD) | (simp only [el_l5, el_l4, el_l6, el_l7]; exact hD) | exact hD) hS ls (by first | (rw [el_l5, el_l4, el_l6, el_l7]; exact lv_sub hl [6, 7, 8, 9, 4, 2, 5, 3, 1, 0] rfl) | (simp only [el_l5, el_l4, el_l6, el_l7]; exact lv_sub hl [6, 7, 8, 9, 4, 2, 5, 3, 1, 0] rfl) | exact lv_sub hl [6, 7, 8, 9, 4, 2, 5, 3, 1, 0] rfl)
                · skip
                  refine lv_lconst (v := lN 1) hx hb dL_isSo_156 rfl ?_
                  refine lv_iload hx hb dL_isSo_157 (lv_at hl 9 rfl) ?_
                  refine lv_lshl (v := (lN 1) <<< ((nI i).toInt64 &&& 63)) hx hb dL_isSo_159 rfl ?_
                  refine lv_goto (tgt := 164) hx hb dL_isSo_160 (by decide) ?_
                  refine lv_lor hx hb dL_isSo_164 ?_
                  refine lv_lstore (lv' := [(7, .long ((bst fl v n b i) ||| ((lN 1) <<< ((nI i).toInt64 &&& 63)))), (4, .int (nI (mx (far fl v n) i))), (6, .int (nI ((sm (ivo fl v n) i) + (cnt (ivp fl v i) j)))), (0, .ref x9), (1, .ref g), (2, .ref vv), (3, .ref nn), (5, .int (nI (cnt (fal fl v n) i))), (9, .int (nI 1)), (10, .int (nI i)), (11, .int (dst fl v n i)), (12, .int (nI (far fl v n i))), (13, .int (nI (cnt (ivp fl v i) j))), (14, .int (nI j))]) hx hb dL_isSo_165 hl (by decide) rfl (fun ls hl => ?_)
                  refine lv_iload hx hb dL_isSo_167 (lv_at hl 7 rfl) ?_
                  refine lv_aload_n hx hb dL_isSo_169 rfl (lv_at hl 4 rfl) ?_
                  refine lv_aload_n hx hb dL_isSo_170 rfl (lv_at hl 5 rfl) ?_
                  refine lv_iload hx hb dL_isSo_171 (lv_at hl 9 rfl) ?_
                  refine wv_callSi (As := [.ref g, .ref vv, .int (nI i)]) (rest := [.int (nI (cnt (fal fl v n) i))]) ⟨hx, hb, hml, hown, hts⟩ (kL_fall l D g cI n b fl me st lk cm vv cJ v i (by first | assumption | omega) (by first | assumption | omega)) (va_cwS 3 hts gL_isSo_L_fall rfl rfl rfl (by decide +kernel) ⟨Nat.le_of_ble_eq_true rfl, Nat.le_of_ble_eq_true rfl⟩) hK hN hP hS hA [8, 9] [0, 1] rfl rfl rfl hl.1 rfl (Nat.le_of_ble_eq_true rfl) dL_isSo_173 ⟨Nat.zero_le _, Nat.zero_le _⟩ (fun H locs hz9 hP hS => ?_)
                  refine wv_ifeqB (tgt := 183) hx hb dL_isSo_176 (by decide) (fun c176 => ?_) (fun c176 => ?_)
                  · skip
                    refine lv_iconst (v := nI 0) hx hb dL_isSo_183 (by decide) ?_
                    refine lv_iadd hx hb dL_isSo_184 ?_
                    refine wv_ti (nI_add _ _) ?_
                    refine lv_istore (lv' := [(5, .int (nI ((cnt (fal fl v n) i) + 0))), (7, .long ((bst fl v n b i) ||| ((lN 1) <<< ((nI i).toInt64 &&& 63)))), (4, .int (nI (mx (far fl v n) i))), (6, .int (nI ((sm (ivo fl v n) i) + (cnt (ivp fl v i) j)))), (0, .ref x9), (1, .ref g), (2, .ref vv), (3, .ref nn), (9, .int (nI 1)), (10, .int (nI i)), (11, .int (dst fl v n i)), (12, .int (nI (far fl v n i))), (13, .int (nI (cnt (ivp fl v i) j))), (14, .int (nI j))]) hx hb dL_isSo_185 hl (by decide) rfl (fun ls hl => ?_)
                    refine lv_aload_n hx hb dL_isSo_187 rfl (lv_at hl 4 rfl) ?_
                    refine lv_iload hx hb dL_isSo_188 (lv_at hl 9 rfl) ?_
                    refine wv_callSWPl (As := [.ref x9, .int (nI i)]) (rest := []) ⟨hx, hb, hml, hown, hts⟩ (kL_atOf l D x9 r r2 q co h va na ra cJ cI v nu rk n b fl me st lk cm i (by first | assumption | omega) (by first | assumption | omega)) (vx_cwSW 2 hts gL_isSo_L_atOf rfl rfl rfl (by decide +kernel) ⟨Nat.le_of_ble_eq_true rfl, Nat.le_of_ble_eq_true rfl⟩) hK hN hP hS hA [0, 1, 2, 3, 4] [0, 1] rfl rfl rfl hl.1 rfl (Nat.le_of_ble_eq_true rfl) dL_isSo_190 ⟨Nat.zero_le _, Nat.zero_le _⟩ (fun H locs hz9 hP hS => ?_)
                    refine lv_aload_n hx hb dL_isSo_193 rfl (lv_at hl 6 rfl) ?_
                    refine lv_iload hx hb dL_isSo_194 (lv_at hl 9 rfl) ?_
                    refine wv_lald hx hb hK hP 9 0 rfl rfl (k := i) (by omega) (by decide) dL_isSo_196 ?_
                    refine wv_lc_ne (tgt := 323) hx hb dL_isSo_197 dL_isSo_198 (by decide) (fun c198 => by exfalso; exact c198 rfl) (fun c198 => ?_)
                    refine lv_aload_n hx hb dL_isSo_201 rfl (lv_at hl 4 rfl) ?_
                    refine lv_iload hx hb dL_isSo_202 (lv_at hl 9 rfl) ?_
                    refine lv_iconst (v := nI 0) hx hb dL_isSo_204 (by decide) ?_
                    refine wv_callSWPi (As := [.ref x9, .int (nI i), .int (nI 0)]) (rest := []) ⟨hx, hb, hml, hown, hts⟩ (kL_elementOf l D x9 r r2 q co h va na ra cJ cI v nu rk n b fl me st lk cm i 0 (by first | assumption | omega) (by first | assumption | omega) (by first | assumption | omega) (by first | assumption | omega) (by first | assumption | omega)) (vx_cwSW 3 hts gL_isSo_L_elementOf rfl rfl rfl (by decide +kernel) ⟨Nat.le_of_ble_eq_true rfl, Nat.le_of_ble_eq_true rfl⟩) hK hN hP hS hA [0, 1, 2, 3, 4] [0, 1] rfl rfl rfl hl.1 rfl (Nat.le_of_ble_eq_true rfl) dL_isSo_205 ⟨Nat.zero_le _, Nat.zero_le _⟩ (fun H locs hz9 hP hS => ?_)
                    refine lv_aload_n hx hb dL_isSo_208 rfl (lv_at hl 7 rfl) ?_
                    refine lv_iload hx hb dL_isSo_209 (lv_at hl 9 rfl) ?_
                    refine wv_iald hx hb hK hP 10 1 rfl rfl (k := i) (by omega) (by decide) dL_isSo_211 ?_
                    refine lv_icmp_ne (tgt := 323) hx hb dL_isSo_212 (by decide) (fun c212 => by exfalso; exact c212 rfl) (fun c212 => ?_)
                    refine lv_aload_n hx hb dL_isSo_215 rfl (lv_at hl 4 rfl) ?_
                    refine lv_iload hx hb dL_isSo_216 (lv_at hl 9 rfl) ?_
                    refine lv_iconst (v := nI 1) hx hb dL_isSo_218 (by decide) ?_
                    refine wv_callSWPi (As := [.ref x9, .int (nI i), .int (nI 1)]) (rest := []) ⟨hx, hb, hml, hown, hts⟩ (kL_elementOf l D x9 r r2 q co h va na ra cJ cI v nu rk n b fl me st lk cm i 1 (by first | assumption | omega) (by first | assumption | omega) (by first | assumption | omega) (by first | assumption | omega) (by first | assumption | omega)) (vx_cwSW 3 hts gL_isSo_L_elementOf rfl rfl rfl (by decide +kernel) ⟨Nat.le_of_ble_eq_true rfl, Nat.le_of_ble_eq_true rfl⟩) hK hN hP hS hA [0, 1, 2, 3, 4] [0, 1] rfl rfl rfl hl.1 rfl (Nat.le_of_ble_eq_true rfl) dL_isSo_219 ⟨Nat.zero_le _, Nat.zero_le _⟩ (fun H locs hz9 hP hS => ?_)
                    refine lv_iload hx hb dL_isSo_222 (lv_at hl 9 rfl) ?_
                    refine lv_iload hx hb dL_isSo_224 (lv_at hl 10 rfl) ?_
                    refine lv_isub hx hb dL_isSo_226 ?_
                    refine wv_ti (y := nI (rk0 fl v n i)) (dst_rk (by omega) hn) ?_
                    refine lv_icmp_ne (tgt := 323) hx hb dL_isSo_227 (by decide) (fun c227 => by exfalso; exact c227 rfl) (fun c227 => ?_)
                    refine lv_aload_n hx hb dL_isSo_230 rfl (lv_at hl 4 rfl) ?_
                    refine lv_iload hx hb dL_isSo_231 (lv_at hl 9 rfl) ?_
                    refine lv_iconst (v := nI 2) hx hb dL_isSo_233 (by decide) ?_
                    refine wv_callSWPi (As := [.ref x9, .int (nI i), .int (nI 2)]) (rest := []) ⟨hx, hb, hml, hown, hts⟩ (kL_elementOf l D x9 r r2 q co h va na ra cJ cI v nu rk n b fl me st lk cm i 2 (by first | assumption | omega) (by first | assumption | omega) (by first | assumption | omega) (by first | assumption | omega) (by first | assumption | omega)) (vx_cwSW 3 hts gL_isSo_L_elementOf rfl rfl rfl (by decide +kernel) ⟨Nat.le_of_ble_eq_true rfl, Nat.le_of_ble_eq_true rfl⟩) hK hN hP hS hA [0, 1, 2, 3, 4] [0, 1] rfl rfl rfl hl.1 rfl (Nat.le_of_ble_eq_true rfl) dL_isSo_234 ⟨Nat.zero_le _, Nat.zero_le _⟩ (fun H locs hz9 hP hS => ?_)
                    refine lv_iload hx hb dL_isSo_237 (lv_at hl 10 rfl) ?_
                    refine lv_icmp_ne (tgt := 323) hx hb dL_isSo_239 (by decide) (fun c239 => by exfalso; exact c239 rfl) (fun c239 => ?_)
                    refine lv_aload_n hx hb dL_isSo_242 rfl (lv_at hl 4 rfl) ?_
                    refine lv_iload hx hb dL_isSo_243 (lv_at hl 9 rfl) ?_
                    refine lv_iconst (v := nI 3) hx hb dL_isSo_245 (by decide) ?_
                    refine wv_callSWPi (As := [.ref x9, .int (nI i), .int (nI 3)]) (rest := []) ⟨hx, hb, hml, hown, hts⟩ (kL_elementOf l D x9 r r2 q co h va na ra cJ cI v nu rk n b fl me st lk cm i 3 (by first | assumption | omega) (by first | assumption | omega) (by first | assumption | omega) (by first | assumption | omega) (by first | assumption | omega)) (vx_cwSW 3 hts gL_isSo_L_elementOf rfl rfl rfl (by decide +kernel) ⟨Nat.le_of_ble_eq_true rfl, Nat.le_of_ble_eq_true rfl⟩) hK hN hP hS hA [0, 1, 2, 3, 4] [0, 1] rfl rfl rfl hl.1 rfl (Nat.le_of_ble_eq_true rfl) dL_isSo_246 ⟨Nat.zero_le _, Nat.zero_le _⟩ (fun H locs hz9 hP hS => ?_)
                    refine lv_iload hx hb dL_isSo_249 (lv_at hl 11 rfl) ?_
                    refine lv_aload_n hx hb dL_isSo_251 rfl (lv_at hl 5 rfl) ?_
                    refine lv_iconst (v := nI 1) hx hb dL_isSo_252 (by decide) ?_
                    refine wv_iald hx hb hK hP 8 1 rfl rfl (k := 1) (by omega) (by decide) dL_isSo_253 ?_
                    refine wv_ti (y := nI b) rfl ?_
                    refine wv_icmp_le (tgt := 261) hx hb (by omega) (by omega) dL_isSo_254 (by decide) (fun c254 => by exfalso; omega) (fun c254 => ?_)
                    refine lv_iconst (v := nI 1) hx hb dL_isSo_257 (by decide) ?_
                    refine lv_goto (tgt := 262) hx hb dL_isSo_258 (by decide) ?_
                    refine lv_icmp_ne (tgt := 323) hx hb dL_isSo_262 (by decide) (fun c262 => by exfalso; exact c262 (by first | (show bI (brk fl v n b i) = _; rw [show brk fl v n b i = true from decide_eq_true (by omega)]; rfl) | (show bI (brk fl v n b i) = _; rw [show brk fl v n b i = false from decide_eq_false (by omega)]; rfl))) (fun c262 => ?_)
                    refine lv_aload_n hx hb dL_isSo_265 rfl (lv_at hl 4 rfl) ?_
                    refine lv_iload hx hb dL_isSo_266 (lv_at hl 9 rfl) ?_
                    refine lv_iconst (v := nI 4) hx hb dL_isSo_268 (by decide) ?_
                    refine wv_callSWPi (As := [.ref x9, .int (nI i), .int (nI 4)]) (rest := []) ⟨hx, hb, hml, hown, hts⟩ (kL_elementOf l D x9 r r2 q co h va na ra cJ cI v nu rk n b fl me st lk cm i 4 (by first | assumption | omega) (by first | assumption | omega) (by first | assumption | omega) (by first | assumption | omega) (by first | assumption | omega)) (vx_cwSW 3 hts gL_isSo_L_elementOf rfl rfl rfl (by decide +kernel) ⟨Nat.le_of_ble_eq_true rfl, Nat.le_of_ble_eq_true rfl⟩) hK hN hP hS hA [0, 1, 2, 3, 4] [0, 1] rfl rfl rfl hl.1 rfl (Nat.le_of_ble_eq_true rfl) dL_isSo_269 ⟨Nat.zero_le _, Nat.zero_le _⟩ (fun H locs hz9 hP hS => ?_)
                    refine lv_aload_n hx hb dL_isSo_272 rfl (lv_at hl 5 rfl) ?_
                    refine lv_aload_n hx hb dL_isSo_273 rfl (lv_at hl 6 rfl) ?_
                    refine lv_iload hx hb dL_isSo_274 (lv_at hl 9 rfl) ?_
                    refine wv_callSi (As := [.ref g, .ref vv, .int (nI i)]) (rest := [.int (elV fl v n b (nu i) i 4)]) ⟨hx, hb, hml, hown, hts⟩ (kL_fall l D g cI n b fl me st lk cm vv cJ v i (by first | assumption | omega) (by first | assumption | omega)) (va_cwS 3 hts gL_isSo_L_fall rfl rfl rfl (by decide +kernel) ⟨Nat.le_of_ble_eq_true rfl, Nat.le_of_ble_eq_true rfl⟩) hK hN hP hS hA [8, 9] [0, 1] rfl rfl rfl hl.1 rfl (Nat.le_of_ble_eq_true rfl) dL_isSo_276 ⟨Nat.zero_le _, Nat.zero_le _⟩ (fun H locs hz9 hP hS => ?_)
                    refine wv_ifeqB (tgt := 286) hx hb dL_isSo_279 (by decide) (fun c279 => ?_) (fun c279 => by exfalso; rw [c176] at c279; cases c279)
                    refine lv_iconst (v := nI 0) hx hb dL_isSo_286 (by decide) ?_
                    refine lv_icmp_ne (tgt := 323) hx hb dL_isSo_287 (by decide) (fun c287 => by exfalso; exact c287 (by show bI (fal fl v n i) = _; rw [c176]; rfl)) (fun c287 => ?_)
                    refine lv_aload_n hx hb dL_isSo_290 rfl (lv_at hl 4 rfl) ?_
                    refine lv_iload hx hb dL_isSo_291 (lv_at hl 9 rfl) ?_
                    refine lv_iconst (v := nI 5) hx hb dL_isSo_293 (by decide) ?_
                    refine wv_callSWPi (As := [.ref x9, .int (nI i), .int (nI 5)]) (rest := []) ⟨hx, hb, hml, hown, hts⟩ (kL_elementOf l D x9 r r2 q co h va na ra cJ cI v nu rk n b fl me st lk cm i 5 (by first | assumption | omega) (by first | assumption | omega) (by first | assumption | omega) (by first | assumption | omega) (by first | assumption | omega)) (vx_cwSW 3 hts gL_isSo_L_elementOf rfl rfl rfl (by decide +kernel) ⟨Nat.le_of_ble_eq_true rfl, Nat.le_of_ble_eq_true rfl⟩) hK hN hP hS hA [0, 1, 2, 3, 4] [0, 1] rfl rfl rfl hl.1 rfl (Nat.le_of_ble_eq_true rfl) dL_isSo_294 ⟨Nat.zero_le _, Nat.zero_le _⟩ (fun H locs hz9 hP hS => ?_)
                    refine lv_iload hx hb dL_isSo_297 (lv_at hl 12 rfl) ?_
                    refine lv_icmp_ne (tgt := 323) hx hb dL_isSo_299 (by decide) (fun c299 => by exfalso; exact c299 (by rw [show j = n by omega]; rfl)) (fun c299 => ?_)
                    refine lv_aload_n hx hb dL_isSo_302 rfl (lv_at hl 4 rfl) ?_
                    refine lv_iload hx hb dL_isSo_303 (lv_at hl 9 rfl) ?_
                    refine lv_iload hx hb dL_isSo_305 (lv_at hl 10 rfl) ?_
                    refine lv_isub hx hb dL_isSo_307 ?_
                    refine wv_ti (y := nI (rk0 fl v n i)) (dst_rk (by omega) hn) ?_
                    refine wv_callSWPl (As := [.ref x9, .int (nI (rk0 fl v n i))]) (rest := []) ⟨hx, hb, hml, hown, hts⟩ (kL_rankedOf l D x9 r r2 q co h va na ra cJ cI v nu rk n b fl me st lk cm (nI (rk0 fl v n i)) p1 (by first | assumption | omega) (by first | assumption | omega) (by first | assumption | omega)) (vx_cwSW 2 hts gL_isSo_L_rankedOf rfl rfl rfl (by decide +kernel) ⟨Nat.le_of_ble_eq_true rfl, Nat.le_of_ble_eq_true rfl⟩) hK hN hP hS hA [0, 1, 2, 3, 4] [0, 1] rfl rfl rfl hl.1 rfl (Nat.le_of_ble_eq_true rfl) dL_isSo_308 ⟨Nat.zero_le _, Nat.zero_le _⟩ (fun H locs hz9 hP hS => ?_)
                    refine lv_aload_n hx hb dL_isSo_311 rfl (lv_at hl 6 rfl) ?_
                    refine lv_iload hx hb dL_isSo_312 (lv_at hl 9 rfl) ?_
                    refine wv_lald hx hb hK hP 9 0 rfl rfl (k := i) (by omega) (by decide) dL_isSo_314 ?_
                    refine wv_lc_ne (tgt := 323) hx hb dL_isSo_315 dL_isSo_316 (by decide) (fun c316 => by exfalso; exact c316 hpv) (fun c316 => ?_)
                    refine lv_iconst (v := nI 1) hx hb dL_isSo_319 (by decide) ?_
                    refine lv_goto (tgt := 324) hx hb dL_isSo_320 (by decide) ?_
                    refine lv_istore (lv' := [(9, .int (nI 1)), (5, .int (nI ((cnt (fal fl v n) i) + 0))), (7, .long ((bst fl v n b i) ||| ((lN 1) <<< ((nI i).toInt64 &&& 63)))), (4, .int (nI (mx (far fl v n) i))), (6, .int (nI ((sm (ivo fl v n) i) + (cnt (ivp fl v i) j)))), (0, .ref x9), (1, .ref g), (2, .ref vv), (3, .ref nn), (10, .int (nI i)), (11, .int (dst fl v n i)), (12, .int (nI (far fl v n i))), (13, .int (nI (cnt (ivp fl v i) j))), (14, .int (nI j))]) hx hb dL_isSo_324 hl (by decide) rfl (fun ls hl => ?_)
                    refine lv_iinc (v := nI (i + 1)) (lv' := [(10, .int (nI (i + 1))), (9, .int (nI 1)), (5, .int (nI ((cnt (fal fl v n) i) + 0))), (7, .long ((bst fl v n b i) ||| ((lN 1) <<< ((nI i).toInt64 &&& 63)))), (4, .int (nI (mx (far fl v n) i))), (6, .int (nI ((sm (ivo fl v n) i) + (cnt (ivp fl v i) j)))), (0, .ref x9), (1, .ref g), (2, .ref vv), (3, .ref nn), (11, .int (dst fl v n i)), (12, .int (nI (far fl v n i))), (13, .int (nI (cnt (ivp fl v i) j))), (14, .int (nI j))]) hx hb dL_isSo_326 hl (k := 9) rfl (nI_1 _) (by decide) rfl (fun ls hl => ?_)
                    refine lv_goto (tgt := 18) hx hb dL_isSo_329 (by decide) ?_
                    have el_l4 : mx (far fl v n) (i + 1) = mx (far fl v n) i := by first | (rw [mx_s, Nat.max_eq_left (by omega)]; done) | (rw [mx_s, Nat.max_eq_right (by omega)]; done)
                    have el_l5 : cnt (fal fl v n) (i + 1) = (cnt (fal fl v n) i) + 0 := by first | exact cnt_t c176 | exact cnt_f c176
                    have el_l6 : sm (ivo fl v n) (i + 1) = (sm (ivo fl v n) i) + (cnt (ivp fl v i) j) := by rw [sm_s, show j = n by omega]; rfl
                    have el_l7 : bst fl v n b (i + 1) = (bst fl v n b i) ||| ((lN 1) <<< ((nI i).toInt64 &&& 63)) := by first | exact if_pos (decide_eq_true (by omega)) | (rw [lor_0]; exact if_neg (by rw [show brk fl v n b i = false from decide_eq_false (by omega)]; decide))
                    exact ih18 (i + 1) (by omega) (by first | assumption | omega) _ _ (by first | (rw [el_l5, el_l4, el_l6, el_l7]; exact hP) | (simp only [el_l5, el_l4, el_l6, el_l7]; exact hP) | exact hP) (by first | (rw [el_l5, el_l4, el_l6, el_l7]; exact hD) | (simp only [el_l5, el_l4, el_l6, el_l7]; exact hD) | exact hD) hS ls (by first | (rw [el_l5, el_l4, el_l6, el_l7]; exact lv_sub hl [6, 7, 8, 9, 4, 2, 5, 3, 1, 0] rfl) | (simp only [el_l5, el_l4, el_l6, el_l7]; exact lv_sub hl [6, 7, 8, 9, 4, 2, 5, 3, 1, 0] rfl) | exact lv_sub hl [6, 7, 8, 9, 4, 2, 5, 3, 1, 0] rfl)
                  · skip
                    refine lv_iconst (v := nI 1) hx hb dL_isSo_179 (by decide) ?_
                    refine lv_goto (tgt := 184) hx hb dL_isSo_180 (by decide) ?_
                    refine lv_iadd hx hb dL_isSo_184 ?_
                    refine wv_ti (nI_add _ _) ?_
                    refine lv_istore (lv' := [(5, .int (nI ((cnt (fal fl v n) i) + 1))), (7, .long ((bst fl v n b i) ||| ((lN 1) <<< ((nI i).toInt64 &&& 63)))), (4, .int (nI (mx (far fl v n) i))), (6, .int (nI ((sm (ivo fl v n) i) + (cnt (ivp fl v i) j)))), (0, .ref x9), (1, .ref g), (2, .ref vv), (3, .ref nn), (9, .int (nI 1)), (10, .int (nI i)), (11, .int (dst fl v n i)), (12, .int (nI (far fl v n i))), (13, .int (nI (cnt (ivp fl v i) j))), (14, .int (nI j))]) hx hb dL_isSo_185 hl (by decide) rfl (fun ls hl => ?_)
                    refine lv_aload_n hx hb dL_isSo_187 rfl (lv_at hl 4 rfl) ?_
                    refine lv_iload hx hb dL_isSo_188 (lv_at hl 9 rfl) ?_
                    refine wv_callSWPl (As := [.ref x9, .int (nI i)]) (rest := []) ⟨hx, hb, hml, hown, hts⟩ (kL_atOf l D x9 r r2 q co h va na ra cJ cI v nu rk n b fl me st lk cm i (by first | assumption | omega) (by first | assumption | omega)) (vx_cwSW 2 hts gL_isSo_L_atOf rfl rfl rfl (by decide +kernel) ⟨Nat.le_of_ble_eq_true rfl, Nat.le_of_ble_eq_true rfl⟩) hK hN hP hS hA [0, 1, 2, 3, 4] [0, 1] rfl rfl rfl hl.1 rfl (Nat.le_of_ble_eq_true rfl) dL_isSo_190 ⟨Nat.zero_le _, Nat.zero_le _⟩ (fun H locs hz9 hP hS => ?_)
                    refine lv_aload_n hx hb dL_isSo_193 rfl (lv_at hl 6 rfl) ?_
                    refine lv_iload hx hb dL_isSo_194 (lv_at hl 9 rfl) ?_
                    refine wv_lald hx hb hK hP 9 0 rfl rfl (k := i) (by omega) (by decide) dL_isSo_196 ?_
                    refine wv_lc_ne (tgt := 323) hx hb dL_isSo_197 dL_isSo_198 (by decide) (fun c198 => by exfalso; exact c198 rfl) (fun c198 => ?_)
                    refine lv_aload_n hx hb dL_isSo_201 rfl (lv_at hl 4 rfl) ?_
                    refine lv_iload hx hb dL_isSo_202 (lv_at hl 9 rfl) ?_
                    refine lv_iconst (v := nI 0) hx hb dL_isSo_204 (by decide) ?_
                    refine wv_callSWPi (As := [.ref x9, .int (nI i), .int (nI 0)]) (rest := []) ⟨hx, hb, hml, hown, hts⟩ (kL_elementOf l D x9 r r2 q co h va na ra cJ cI v nu rk n b fl me st lk cm i 0 (by first | assumption | omega) (by first | assumption | omega) (by first | assumption | omega) (by first | assumption | omega) (by first | assumption | omega)) (vx_cwSW 3 hts gL_isSo_L_elementOf rfl rfl rfl (by decide +kernel) ⟨Nat.le_of_ble_eq_true rfl, Nat.le_of_ble_eq_true rfl⟩) hK hN hP hS hA [0, 1, 2, 3, 4] [0, 1] rfl rfl rfl hl.1 rfl (Nat.le_of_ble_eq_true rfl) dL_isSo_205 ⟨Nat.zero_le _, Nat.zero_le _⟩ (fun H locs hz9 hP hS => ?_)
                    refine lv_aload_n hx hb dL_isSo_208 rfl (lv_at hl 7 rfl) ?_
                    refine lv_iload hx hb dL_isSo_209 (lv_at hl 9 rfl) ?_
                    refine wv_iald hx hb hK hP 10 1 rfl rfl (k := i) (by omega) (by decide) dL_isSo_211 ?_
                    refine lv_icmp_ne (tgt := 323) hx hb dL_isSo_212 (by decide) (fun c212 => by exfalso; exact c212 rfl) (fun c212 => ?_)
                    refine lv_aload_n hx hb dL_isSo_215 rfl (lv_at hl 4 rfl) ?_
                    refine lv_iload hx hb dL_isSo_216 (lv_at hl 9 rfl) ?_
                    refine lv_iconst (v := nI 1) hx hb dL_isSo_218 (by decide) ?_
                    refine wv_callSWPi (As := [.ref x9, .int (nI i), .int (nI 1)]) (rest := []) ⟨hx, hb, hml, hown, hts⟩ (kL_elementOf l D x9 r r2 q co h va na ra cJ cI v nu rk n b fl me st lk cm i 1 (by first | assumption | omega) (by first | assumption | omega) (by first | assumption | omega) (by first | assumption | omega) (by first | assumption | omega)) (vx_cwSW 3 hts gL_isSo_L_elementOf rfl rfl rfl (by decide +kernel) ⟨Nat.le_of_ble_eq_true rfl, Nat.le_of_ble_eq_true rfl⟩) hK hN hP hS hA [0, 1, 2, 3, 4] [0, 1] rfl rfl rfl hl.1 rfl (Nat.le_of_ble_eq_true rfl) dL_isSo_219 ⟨Nat.zero_le _, Nat.zero_le _⟩ (fun H locs hz9 hP hS => ?_)
                    refine lv_iload hx hb dL_isSo_222 (lv_at hl 9 rfl) ?_
                    refine lv_iload hx hb dL_isSo_224 (lv_at hl 10 rfl) ?_
                    refine lv_isub hx hb dL_isSo_226 ?_
                    refine wv_ti (y := nI (rk0 fl v n i)) (dst_rk (by omega) hn) ?_
                    refine lv_icmp_ne (tgt := 323) hx hb dL_isSo_227 (by decide) (fun c227 => by exfalso; exact c227 rfl) (fun c227 => ?_)
                    refine lv_aload_n hx hb dL_isSo_230 rfl (lv_at hl 4 rfl) ?_
                    refine lv_iload hx hb dL_isSo_231 (lv_at hl 9 rfl) ?_
                    refine lv_iconst (v := nI 2) hx hb dL_isSo_233 (by decide) ?_
                    refine wv_callSWPi (As := [.ref x9, .int (nI i), .int (nI 2)]) (rest := []) ⟨hx, hb, hml, hown, hts⟩ (kL_elementOf l D x9 r r2 q co h va na ra cJ cI v nu rk n b fl me st lk cm i 2 (by first | assumption | omega) (by first | assumption | omega) (by first | assumption | omega) (by first | assumption | omega) (by first | assumption | omega)) (vx_cwSW 3 hts gL_isSo_L_elementOf rfl rfl rfl (by decide +kernel) ⟨Nat.le_of_ble_eq_true rfl, Nat.le_of_ble_eq_true rfl⟩) hK hN hP hS hA [0, 1, 2, 3, 4] [0, 1] rfl rfl rfl hl.1 rfl (Nat.le_of_ble_eq_true rfl) dL_isSo_234 ⟨Nat.zero_le _, Nat.zero_le _⟩ (fun H locs hz9 hP hS => ?_)
                    refine lv_iload hx hb dL_isSo_237 (lv_at hl 10 rfl) ?_
                    refine lv_icmp_ne (tgt := 323) hx hb dL_isSo_239 (by decide) (fun c239 => by exfalso; exact c239 rfl) (fun c239 => ?_)
                    refine lv_aload_n hx hb dL_isSo_242 rfl (lv_at hl 4 rfl) ?_
                    refine lv_iload hx hb dL_isSo_243 (lv_at hl 9 rfl) ?_
                    refine lv_iconst (v := nI 3) hx hb dL_isSo_245 (by decide) ?_
                    refine wv_callSWPi (As := [.ref x9, .int (nI i), .int (nI 3)]) (rest := []) ⟨hx, hb, hml, hown, hts⟩ (kL_elementOf l D x9 r r2 q co h va na ra cJ cI v nu rk n b fl me st lk cm i 3 (by first | assumption | omega) (by first | assumption | omega) (by first | assumption | omega) (by first | assumption | omega) (by first | assumption | omega)) (vx_cwSW 3 hts gL_isSo_L_elementOf rfl rfl rfl (by decide +kernel) ⟨Nat.le_of_ble_eq_true rfl, Nat.le_of_ble_eq_true rfl⟩) hK hN hP hS hA [0, 1, 2, 3, 4] [0, 1] rfl rfl rfl hl.1 rfl (Nat.le_of_ble_eq_true rfl) dL_isSo_246 ⟨Nat.zero_le _, Nat.zero_le _⟩ (fun H locs hz9 hP hS => ?_)
                    refine lv_iload hx hb dL_isSo_249 (lv_at hl 11 rfl) ?_
                    refine lv_aload_n hx hb dL_isSo_251 rfl (lv_at hl 5 rfl) ?_
                    refine lv_iconst (v := nI 1) hx hb dL_isSo_252 (by decide) ?_
                    refine wv_iald hx hb hK hP 8 1 rfl rfl (k := 1) (by omega) (by decide) dL_isSo_253 ?_
                    refine wv_ti (y := nI b) rfl ?_
                    refine wv_icmp_le (tgt := 261) hx hb (by omega) (by omega) dL_isSo_254 (by decide) (fun c254 => by exfalso; omega) (fun c254 => ?_)
                    refine lv_iconst (v := nI 1) hx hb dL_isSo_257 (by decide) ?_
                    refine lv_goto (tgt := 262) hx hb dL_isSo_258 (by decide) ?_
                    refine lv_icmp_ne (tgt := 323) hx hb dL_isSo_262 (by decide) (fun c262 => by exfalso; exact c262 (by first | (show bI (brk fl v n b i) = _; rw [show brk fl v n b i = true from decide_eq_true (by omega)]; rfl) | (show bI (brk fl v n b i) = _; rw [show brk fl v n b i = false from decide_eq_false (by omega)]; rfl))) (fun c262 => ?_)
                    refine lv_aload_n hx hb dL_isSo_265 rfl (lv_at hl 4 rfl) ?_
                    refine lv_iload hx hb dL_isSo_266 (lv_at hl 9 rfl) ?_
                    refine lv_iconst (v := nI 4) hx hb dL_isSo_268 (by decide) ?_
                    refine wv_callSWPi (As := [.ref x9, .int (nI i), .int (nI 4)]) (rest := []) ⟨hx, hb, hml, hown, hts⟩ (kL_elementOf l D x9 r r2 q co h va na ra cJ cI v nu rk n b fl me st lk cm i 4 (by first | assumption | omega) (by first | assumption | omega) (by first | assumption | omega) (by first | assumption | omega) (by first | assumption | omega)) (vx_cwSW 3 hts gL_isSo_L_elementOf rfl rfl rfl (by decide +kernel) ⟨Nat.le_of_ble_eq_true rfl, Nat.le_of_ble_eq_true rfl⟩) hK hN hP hS hA [0, 1, 2, 3, 4] [0, 1] rfl rfl rfl hl.1 rfl (Nat.le_of_ble_eq_true rfl) dL_isSo_269 ⟨Nat.zero_le _, Nat.zero_le _⟩ (fun H locs hz9 hP hS => ?_)
                    refine lv_aload_n hx hb dL_isSo_272 rfl (lv_at hl 5 rfl) ?_
                    refine lv_aload_n hx hb dL_isSo_273 rfl (lv_at hl 6 rfl) ?_
                    refine lv_iload hx hb dL_isSo_274 (lv_at hl 9 rfl) ?_
                    refine wv_callSi (As := [.ref g, .ref vv, .int (nI i)]) (rest := [.int (elV fl v n b (nu i) i 4)]) ⟨hx, hb, hml, hown, hts⟩ (kL_fall l D g cI n b fl me st lk cm vv cJ v i (by first | assumption | omega) (by first | assumption | omega)) (va_cwS 3 hts gL_isSo_L_fall rfl rfl rfl (by decide +kernel) ⟨Nat.le_of_ble_eq_true rfl, Nat.le_of_ble_eq_true rfl⟩) hK hN hP hS hA [8, 9] [0, 1] rfl rfl rfl hl.1 rfl (Nat.le_of_ble_eq_true rfl) dL_isSo_276 ⟨Nat.zero_le _, Nat.zero_le _⟩ (fun H locs hz9 hP hS => ?_)
                    refine wv_ifeqB (tgt := 286) hx hb dL_isSo_279 (by decide) (fun c279 => by exfalso; rw [c176] at c279; cases c279) (fun c279 => ?_)
                    refine lv_iconst (v := nI 1) hx hb dL_isSo_282 (by decide) ?_
                    refine lv_goto (tgt := 287) hx hb dL_isSo_283 (by decide) ?_
                    refine lv_icmp_ne (tgt := 323) hx hb dL_isSo_287 (by decide) (fun c287 => by exfalso; exact c287 (by show bI (fal fl v n i) = _; rw [c176]; rfl)) (fun c287 => ?_)
                    refine lv_aload_n hx hb dL_isSo_290 rfl (lv_at hl 4 rfl) ?_
                    refine lv_iload hx hb dL_isSo_291 (lv_at hl 9 rfl) ?_
                    refine lv_iconst (v := nI 5) hx hb dL_isSo_293 (by decide) ?_
                    refine wv_callSWPi (As := [.ref x9, .int (nI i), .int (nI 5)]) (rest := []) ⟨hx, hb, hml, hown, hts⟩ (kL_elementOf l D x9 r r2 q co h va na ra cJ cI v nu rk n b fl me st lk cm i 5 (by first | assumption | omega) (by first | assumption | omega) (by first | assumption | omega) (by first | assumption | omega) (by first | assumption | omega)) (vx_cwSW 3 hts gL_isSo_L_elementOf rfl rfl rfl (by decide +kernel) ⟨Nat.le_of_ble_eq_true rfl, Nat.le_of_ble_eq_true rfl⟩) hK hN hP hS hA [0, 1, 2, 3, 4] [0, 1] rfl rfl rfl hl.1 rfl (Nat.le_of_ble_eq_true rfl) dL_isSo_294 ⟨Nat.zero_le _, Nat.zero_le _⟩ (fun H locs hz9 hP hS => ?_)
                    refine lv_iload hx hb dL_isSo_297 (lv_at hl 12 rfl) ?_
                    refine lv_icmp_ne (tgt := 323) hx hb dL_isSo_299 (by decide) (fun c299 => by exfalso; exact c299 (by rw [show j = n by omega]; rfl)) (fun c299 => ?_)
                    refine lv_aload_n hx hb dL_isSo_302 rfl (lv_at hl 4 rfl) ?_
                    refine lv_iload hx hb dL_isSo_303 (lv_at hl 9 rfl) ?_
                    refine lv_iload hx hb dL_isSo_305 (lv_at hl 10 rfl) ?_
                    refine lv_isub hx hb dL_isSo_307 ?_
                    refine wv_ti (y := nI (rk0 fl v n i)) (dst_rk (by omega) hn) ?_
                    refine wv_callSWPl (As := [.ref x9, .int (nI (rk0 fl v n i))]) (rest := []) ⟨hx, hb, hml, hown, hts⟩ (kL_rankedOf l D x9 r r2 q co h va na ra cJ cI v nu rk n b fl me st lk cm (nI (rk0 fl v n i)) p1 (by first | assumption | omega) (by first | assumption | omega) (by first | assumption | omega)) (vx_cwSW 2 hts gL_isSo_L_rankedOf rfl rfl rfl (by decide +kernel) ⟨Nat.le_of_ble_eq_true rfl, Nat.le_of_ble_eq_true rfl⟩) hK hN hP hS hA [0, 1, 2, 3, 4] [0, 1] rfl rfl rfl hl.1 rfl (Nat.le_of_ble_eq_true rfl) dL_isSo_308 ⟨Nat.zero_le _, Nat.zero_le _⟩ (fun H locs hz9 hP hS => ?_)
                    refine lv_aload_n hx hb dL_isSo_311 rfl (lv_at hl 6 rfl) ?_
                    refine lv_iload hx hb dL_isSo_312 (lv_at hl 9 rfl) ?_
                    refine wv_lald hx hb hK hP 9 0 rfl rfl (k := i) (by omega) (by decide) dL_isSo_314 ?_
                    refine wv_lc_ne (tgt := 323) hx hb dL_isSo_315 dL_isSo_316 (by decide) (fun c316 => by exfalso; exact c316 hpv) (fun c316 => ?_)
                    refine lv_iconst (v := nI 1) hx hb dL_isSo_319 (by decide) ?_
                    refine lv_goto (tgt := 324) hx hb dL_isSo_320 (by decide) ?_
                    refine lv_istore (lv' := [(9, .int (nI 1)), (5, .int (nI ((cnt (fal fl v n) i) + 1))), (7, .long ((bst fl v n b i) ||| ((lN 1) <<< ((nI i).toInt64 &&& 63)))), (4, .int (nI (mx (far fl v n) i))), (6, .int (nI ((sm (ivo fl v n) i) + (cnt (ivp fl v i) j)))), (0, .ref x9), (1, .ref g), (2, .ref vv), (3, .ref nn), (10, .int (nI i)), (11, .int (dst fl v n i)), (12, .int (nI (far fl v n i))), (13, .int (nI (cnt (ivp fl v i) j))), (14, .int (nI j))]) hx hb dL_isSo_324 hl (by decide) rfl (fun ls hl => ?_)
                    refine lv_iinc (v := nI (i + 1)) (lv' := [(10, .int (nI (i + 1))), (9, .int (nI 1)), (5, .int (nI ((cnt (fal fl v n) i) + 1))), (7, .long ((bst fl v n b i) ||| ((lN 1) <<< ((nI i).toInt64 &&& 63)))), (4, .int (nI (mx (far fl v n) i))), (6, .int (nI ((sm (ivo fl v n) i) + (cnt (ivp fl v i) j)))), (0, .ref x9), (1, .ref g), (2, .ref vv), (3, .ref nn), (11, .int (dst fl v n i)), (12, .int (nI (far fl v n i))), (13, .int (nI (cnt (ivp fl v i) j))), (14, .int (nI j))]) hx hb dL_isSo_326 hl (k := 9) rfl (nI_1 _) (by decide) rfl (fun ls hl => ?_)
                    refine lv_goto (tgt := 18) hx hb dL_isSo_329 (by decide) ?_
                    have el_l4 : mx (far fl v n) (i + 1) = mx (far fl v n) i := by first | (rw [mx_s, Nat.max_eq_left (by omega)]; done) | (rw [mx_s, Nat.max_eq_right (by omega)]; done)
                    have el_l5 : cnt (fal fl v n) (i + 1) = (cnt (fal fl v n) i) + 1 := by first | exact cnt_t c176 | exact cnt_f c176
                    have el_l6 : sm (ivo fl v n) (i + 1) = (sm (ivo fl v n) i) + (cnt (ivp fl v i) j) := by rw [sm_s, show j = n by omega]; rfl
                    have el_l7 : bst fl v n b (i + 1) = (bst fl v n b i) ||| ((lN 1) <<< ((nI i).toInt64 &&& 63)) := by first | exact if_pos (decide_eq_true (by omega)) | (rw [lor_0]; exact if_neg (by rw [show brk fl v n b i = false from decide_eq_false (by omega)]; decide))
                    exact ih18 (i + 1) (by omega) (by first | assumption | omega) _ _ (by first | (rw [el_l5, el_l4, el_l6, el_l7]; exact hP) | (simp only [el_l5, el_l4, el_l6, el_l7]; exact hP) | exact hP) (by first | (rw [el_l5, el_l4, el_l6, el_l7]; exact hD) | (simp only [el_l5, el_l4, el_l6, el_l7]; exact hD) | exact hD) hS ls (by first | (rw [el_l5, el_l4, el_l6, el_l7]; exact lv_sub hl [6, 7, 8, 9, 4, 2, 5, 3, 1, 0] rfl) | (simp only [el_l5, el_l4, el_l6, el_l7]; exact lv_sub hl [6, 7, 8, 9, 4, 2, 5, 3, 1, 0] rfl) | exact lv_sub hl [6, 7, 8, 9, 4, 2, 5, 3, 1, 0] rfl)
              · skip
                refine lv_iload hx hb dL_isSo_137 (lv_at hl 11 rfl) ?_
                refine lv_goto (tgt := 144) hx hb dL_isSo_139 (by decide) ?_
                refine lv_istore (lv' := [(4, .int (nI (far fl v n i))), (6, .int (nI ((sm (ivo fl v n) i) + (cnt (ivp fl v i) j)))), (0, .ref x9), (1, .ref g), (2, .ref vv), (3, .ref nn), (5, .int (nI (cnt (fal fl v n) i))), (7, .long (bst fl v n b i)), (9, .int (nI 1)), (10, .int (nI i)), (11, .int (dst fl v n i)), (12, .int (nI (far fl v n i))), (13, .int (nI (cnt (ivp fl v i) j))), (14, .int (nI j))]) hx hb dL_isSo_144 hl (by decide) rfl (fun ls hl => ?_)
                refine lv_lload hx hb dL_isSo_146 (lv_at hl 7 rfl) ?_
                refine lv_iload hx hb dL_isSo_148 (lv_at hl 11 rfl) ?_
                refine lv_aload_n hx hb dL_isSo_150 rfl (lv_at hl 3 rfl) ?_
                refine lv_iconst (v := nI 1) hx hb dL_isSo_151 (by decide) ?_
                refine wv_iald hx hb hK hP 8 1 rfl rfl (k := 1) (by omega) (by decide) dL_isSo_152 ?_
                refine wv_ti (y := nI b) rfl ?_
                refine wv_icmp_le (tgt := 163) hx hb (by omega) (by omega) dL_isSo_153 (by decide) (fun c153 => ?_) (fun c153 => ?_)
                · skip
                  refine lv_lconst (v := lN 0) hx hb dL_isSo_163 rfl ?_
                  refine lv_lor hx hb dL_isSo_164 ?_
                  refine lv_lstore (lv' := [(7, .long ((bst fl v n b i) ||| (lN 0))), (4, .int (nI (far fl v n i))), (6, .int (nI ((sm (ivo fl v n) i) + (cnt (ivp fl v i) j)))), (0, .ref x9), (1, .ref g), (2, .ref vv), (3, .ref nn), (5, .int (nI (cnt (fal fl v n) i))), (9, .int (nI 1)), (10, .int (nI i)), (11, .int (dst fl v n i)), (12, .int (nI (far fl v n i))), (13, .int (nI (cnt (ivp fl v i) j))), (14, .int (nI j))]) hx hb dL_isSo_165 hl (by decide) rfl (fun ls hl => ?_)
                  refine lv_iload hx hb dL_isSo_167 (lv_at hl 7 rfl) ?_
                  refine lv_aload_n hx hb dL_isSo_169 rfl (lv_at hl 4 rfl) ?_
                  refine lv_aload_n hx hb dL_isSo_170 rfl (lv_at hl 5 rfl) ?_
                  refine lv_iload hx hb dL_isSo_171 (lv_at hl 9 rfl) ?_
                  refine wv_callSi (As := [.ref g, .ref vv, .int (nI i)]) (rest := [.int (nI (cnt (fal fl v n) i))]) ⟨hx, hb, hml, hown, hts⟩ (kL_fall l D g cI n b fl me st lk cm vv cJ v i (by first | assumption | omega) (by first | assumption | omega)) (va_cwS 3 hts gL_isSo_L_fall rfl rfl rfl (by decide +kernel) ⟨Nat.le_of_ble_eq_true rfl, Nat.le_of_ble_eq_true rfl⟩) hK hN hP hS hA [8, 9] [0, 1] rfl rfl rfl hl.1 rfl (Nat.le_of_ble_eq_true rfl) dL_isSo_173 ⟨Nat.zero_le _, Nat.zero_le _⟩ (fun H locs hz9 hP hS => ?_)
                  refine wv_ifeqB (tgt := 183) hx hb dL_isSo_176 (by decide) (fun c176 => ?_) (fun c176 => ?_)
                  · skip
                    refine lv_iconst (v := nI 0) hx hb dL_isSo_183 (by decide) ?_
                    refine lv_iadd hx hb dL_isSo_184 ?_
                    refine wv_ti (nI_add _ _) ?_
                    refine lv_istore (lv' := [(5, .int (nI ((cnt (fal fl v n) i) + 0))), (7, .long ((bst fl v n b i) ||| (lN 0))), (4, .int (nI (far fl v n i))), (6, .int (nI ((sm (ivo fl v n) i) + (cnt (ivp fl v i) j)))), (0, .ref x9), (1, .ref g), (2, .ref vv), (3, .ref nn), (9, .int (nI 1)), (10, .int (nI i)), (11, .int (dst fl v n i)), (12, .int (nI (far fl v n i))), (13, .int (nI (cnt (ivp fl v i) j))), (14, .int (nI j))]) hx hb dL_isSo_185 hl (by decide) rfl (fun ls hl => ?_)
                    refine lv_aload_n hx hb dL_isSo_187 rfl (lv_at hl 4 rfl) ?_
                    refine lv_iload hx hb dL_isSo_188 (lv_at hl 9 rfl) ?_
                    refine wv_callSWPl (As := [.ref x9, .int (nI i)]) (rest := []) ⟨hx, hb, hml, hown, hts⟩ (kL_atOf l D x9 r r2 q co h va na ra cJ cI v nu rk n b fl me st lk cm i (by first | assumption | omega) (by first | assumption | omega)) (vx_cwSW 2 hts gL_isSo_L_atOf rfl rfl rfl (by decide +kernel) ⟨Nat.le_of_ble_eq_true rfl, Nat.le_of_ble_eq_true rfl⟩) hK hN hP hS hA [0, 1, 2, 3, 4] [0, 1] rfl rfl rfl hl.1 rfl (Nat.le_of_ble_eq_true rfl) dL_isSo_190 ⟨Nat.zero_le _, Nat.zero_le _⟩ (fun H locs hz9 hP hS => ?_)
                    refine lv_aload_n hx hb dL_isSo_193 rfl (lv_at hl 6 rfl) ?_
                    refine lv_iload hx hb dL_isSo_194 (lv_at hl 9 rfl) ?_
                    refine wv_lald hx hb hK hP 9 0 rfl rfl (k := i) (by omega) (by decide) dL_isSo_196 ?_
                    refine wv_lc_ne (tgt := 323) hx hb dL_isSo_197 dL_isSo_198 (by decide) (fun c198 => by exfalso; exact c198 rfl) (fun c198 => ?_)
                    refine lv_aload_n hx hb dL_isSo_201 rfl (lv_at hl 4 rfl) ?_
                    refine lv_iload hx hb dL_isSo_202 (lv_at hl 9 rfl) ?_
                    refine lv_iconst (v := nI 0) hx hb dL_isSo_204 (by decide) ?_
                    refine wv_callSWPi (As := [.ref x9, .int (nI i), .int (nI 0)]) (rest := []) ⟨hx, hb, hml, hown, hts⟩ (kL_elementOf l D x9 r r2 q co h va na ra cJ cI v nu rk n b fl me st lk cm i 0 (by first | assumption | omega) (by first | assumption | omega) (by first | assumption | omega) (by first | assumption | omega) (by first | assumption | omega)) (vx_cwSW 3 hts gL_isSo_L_elementOf rfl rfl rfl (by decide +kernel) ⟨Nat.le_of_ble_eq_true rfl, Nat.le_of_ble_eq_true rfl⟩) hK hN hP hS hA [0, 1, 2, 3, 4] [0, 1] rfl rfl rfl hl.1 rfl (Nat.le_of_ble_eq_true rfl) dL_isSo_205 ⟨Nat.zero_le _, Nat.zero_le _⟩ (fun H locs hz9 hP hS => ?_)
                    refine lv_aload_n hx hb dL_isSo_208 rfl (lv_at hl 7 rfl) ?_
                    refine lv_iload hx hb dL_isSo_209 (lv_at hl 9 rfl) ?_
                    refine wv_iald hx hb hK hP 10 1 rfl rfl (k := i) (by omega) (by decide) dL_isSo_211 ?_
                    refine lv_icmp_ne (tgt := 323) hx hb dL_isSo_212 (by decide) (fun c212 => by exfalso; exact c212 rfl) (fun c212 => ?_)
                    refine lv_aload_n hx hb dL_isSo_215 rfl (lv_at hl 4 rfl) ?_
                    refine lv_iload hx hb dL_isSo_216 (lv_at hl 9 rfl) ?_
                    refine lv_iconst (v := nI 1) hx hb dL_isSo_218 (by decide) ?_
                    refine wv_callSWPi (As := [.ref x9, .int (nI i), .int (nI 1)]) (rest := []) ⟨hx, hb, hml, hown, hts⟩ (kL_elementOf l D x9 r r2 q co h va na ra cJ cI v nu rk n b fl me st lk cm i 1 (by first | assumption | omega) (by first | assumption | omega) (by first | assumption | omega) (by first | assumption | omega) (by first | assumption | omega)) (vx_cwSW 3 hts gL_isSo_L_elementOf rfl rfl rfl (by decide +kernel) ⟨Nat.le_of_ble_eq_true rfl, Nat.le_of_ble_eq_true rfl⟩) hK hN hP hS hA [0, 1, 2, 3, 4] [0, 1] rfl rfl rfl hl.1 rfl (Nat.le_of_ble_eq_true rfl) dL_isSo_219 ⟨Nat.zero_le _, Nat.zero_le _⟩ (fun H locs hz9 hP hS => ?_)
                    refine lv_iload hx hb dL_isSo_222 (lv_at hl 9 rfl) ?_
                    refine lv_iload hx hb dL_isSo_224 (lv_at hl 10 rfl) ?_
                    refine lv_isub hx hb dL_isSo_226 ?_
                    refine wv_ti (y := nI (rk0 fl v n i)) (dst_rk (by omega) hn) ?_
                    refine lv_icmp_ne (tgt := 323) hx hb dL_isSo_227 (by decide) (fun c227 => by exfalso; exact c227 rfl) (fun c227 => ?_)
                    refine lv_aload_n hx hb dL_isSo_230 rfl (lv_at hl 4 rfl) ?_
                    refine lv_iload hx hb dL_isSo_231 (lv_at hl 9 rfl) ?_
                    refine lv_iconst (v := nI 2) hx hb dL_isSo_233 (by decide) ?_
                    refine wv_callSWPi (As := [.ref x9, .int (nI i), .int (nI 2)]) (rest := []) ⟨hx, hb, hml, hown, hts⟩ (kL_elementOf l D x9 r r2 q co h va na ra cJ cI v nu rk n b fl me st lk cm i 2 (by first | assumption | omega) (by first | assumption | omega) (by first | assumption | omega) (by first | assumption | omega) (by first | assumption | omega)) (vx_cwSW 3 hts gL_isSo_L_elementOf rfl rfl rfl (by decide +kernel) ⟨Nat.le_of_ble_eq_true rfl, Nat.le_of_ble_eq_true rfl⟩) hK hN hP hS hA [0, 1, 2, 3, 4] [0, 1] rfl rfl rfl hl.1 rfl (Nat.le_of_ble_eq_true rfl) dL_isSo_234 ⟨Nat.zero_le _, Nat.zero_le _⟩ (fun H locs hz9 hP hS => ?_)
                    refine lv_iload hx hb dL_isSo_237 (lv_at hl 10 rfl) ?_
                    refine lv_icmp_ne (tgt := 323) hx hb dL_isSo_239 (by decide) (fun c239 => by exfalso; exact c239 rfl) (fun c239 => ?_)
                    refine lv_aload_n hx hb dL_isSo_242 rfl (lv_at hl 4 rfl) ?_
                    refine lv_iload hx hb dL_isSo_243 (lv_at hl 9 rfl) ?_
                    refine lv_iconst (v := nI 3) hx hb dL_isSo_245 (by decide) ?_
                    refine wv_callSWPi (As := [.ref x9, .int (nI i), .int (nI 3)]) (rest := []) ⟨hx, hb, hml, hown, hts⟩ (kL_elementOf l D x9 r r2 q co h va na ra cJ cI v nu rk n b fl me st lk cm i 3 (by first | assumption | omega) (by first | assumption | omega) (by first | assumption | omega) (by first | assumption | omega) (by first | assumption | omega)) (vx_cwSW 3 hts gL_isSo_L_elementOf rfl rfl rfl (by decide +kernel) ⟨Nat.le_of_ble_eq_true rfl, Nat.le_of_ble_eq_true rfl⟩) hK hN hP hS hA [0, 1, 2, 3, 4] [0, 1] rfl rfl rfl hl.1 rfl (Nat.le_of_ble_eq_true rfl) dL_isSo_246 ⟨Nat.zero_le _, Nat.zero_le _⟩ (fun H locs hz9 hP hS => ?_)
                    refine lv_iload hx hb dL_isSo_249 (lv_at hl 11 rfl) ?_
                    refine lv_aload_n hx hb dL_isSo_251 rfl (lv_at hl 5 rfl) ?_
                    refine lv_iconst (v := nI 1) hx hb dL_isSo_252 (by decide) ?_
                    refine wv_iald hx hb hK hP 8 1 rfl rfl (k := 1) (by omega) (by decide) dL_isSo_253 ?_
                    refine wv_ti (y := nI b) rfl ?_
                    refine wv_icmp_le (tgt := 261) hx hb (by omega) (by omega) dL_isSo_254 (by decide) (fun c254 => ?_) (fun c254 => by exfalso; omega)
                    refine lv_iconst (v := nI 0) hx hb dL_isSo_261 (by decide) ?_
                    refine lv_icmp_ne (tgt := 323) hx hb dL_isSo_262 (by decide) (fun c262 => by exfalso; exact c262 (by first | (show bI (brk fl v n b i) = _; rw [show brk fl v n b i = true from decide_eq_true (by omega)]; rfl) | (show bI (brk fl v n b i) = _; rw [show brk fl v n b i = false from decide_eq_false (by omega)]; rfl))) (fun c262 => ?_)
                    refine lv_aload_n hx hb dL_isSo_265 rfl (lv_at hl 4 rfl) ?_
                    refine lv_iload hx hb dL_isSo_266 (lv_at hl 9 rfl) ?_
                    refine lv_iconst (v := nI 4) hx hb dL_isSo_268 (by decide) ?_
                    refine wv_callSWPi (As := [.ref x9, .int (nI i), .int (nI 4)]) (rest := []) ⟨hx, hb, hml, hown, hts⟩ (kL_elementOf l D x9 r r2 q co h va na ra cJ cI v nu rk n b fl me st lk cm i 4 (by first | assumption | omega) (by first | assumption | omega) (by first | assumption | omega) (by first | assumption | omega) (by first | assumption | omega)) (vx_cwSW 3 hts gL_isSo_L_elementOf rfl rfl rfl (by decide +kernel) ⟨Nat.le_of_ble_eq_true rfl, Nat.le_of_ble_eq_true rfl⟩) hK hN hP hS hA [0, 1, 2, 3, 4] [0, 1] rfl rfl rfl hl.1 rfl (Nat.le_of_ble_eq_true rfl) dL_isSo_269 ⟨Nat.zero_le _, Nat.zero_le _⟩ (fun H locs hz9 hP hS => ?_)
                    refine lv_aload_n hx hb dL_isSo_272 rfl (lv_at hl 5 rfl) ?_
                    refine lv_aload_n hx hb dL_isSo_273 rfl (lv_at hl 6 rfl) ?_
                    refine lv_iload hx hb dL_isSo_274 (lv_at hl 9 rfl) ?_
                    refine wv_callSi (As := [.ref g, .ref vv, .int (nI i)]) (rest := [.int (elV fl v n b (nu i) i 4)]) ⟨hx, hb, hml, hown, hts⟩ (kL_fall l D g cI n b fl me st lk cm vv cJ v i (by first | assumption | omega) (by first | assumption | omega)) (va_cwS 3 hts gL_isSo_L_fall rfl rfl rfl (by decide +kernel) ⟨Nat.le_of_ble_eq_true rfl, Nat.le_of_ble_eq_true rfl⟩) hK hN hP hS hA [8, 9] [0, 1] rfl rfl rfl hl.1 rfl (Nat.le_of_ble_eq_true rfl) dL_isSo_276 ⟨Nat.zero_le _, Nat.zero_le _⟩ (fun H locs hz9 hP hS => ?_)
                    refine wv_ifeqB (tgt := 286) hx hb dL_isSo_279 (by decide) (fun c279 => ?_) (fun c279 => by exfalso; rw [c176] at c279; cases c279)
                    refine lv_iconst (v := nI 0) hx hb dL_isSo_286 (by decide) ?_
                    refine lv_icmp_ne (tgt := 323) hx hb dL_isSo_287 (by decide) (fun c287 => by exfalso; exact c287 (by show bI (fal fl v n i) = _; rw [c176]; rfl)) (fun c287 => ?_)
                    refine lv_aload_n hx hb dL_isSo_290 rfl (lv_at hl 4 rfl) ?_
                    refine lv_iload hx hb dL_isSo_291 (lv_at hl 9 rfl) ?_
                    refine lv_iconst (v := nI 5) hx hb dL_isSo_293 (by decide) ?_
                    refine wv_callSWPi (As := [.ref x9, .int (nI i), .int (nI 5)]) (rest := []) ⟨hx, hb, hml, hown, hts⟩ (kL_elementOf l D x9 r r2 q co h va na ra cJ cI v nu rk n b fl me st lk cm i 5 (by first | assumption | omega) (by first | assumption | omega) (by first | assumption | omega) (by first | assumption | omega) (by first | assumption | omega)) (vx_cwSW 3 hts gL_isSo_L_elementOf rfl rfl rfl (by decide +kernel) ⟨Nat.le_of_ble_eq_true rfl, Nat.le_of_ble_eq_true rfl⟩) hK hN hP hS hA [0, 1, 2, 3, 4] [0, 1] rfl rfl rfl hl.1 rfl (Nat.le_of_ble_eq_true rfl) dL_isSo_294 ⟨Nat.zero_le _, Nat.zero_le _⟩ (fun H locs hz9 hP hS => ?_)
                    refine lv_iload hx hb dL_isSo_297 (lv_at hl 12 rfl) ?_
                    refine lv_icmp_ne (tgt := 323) hx hb dL_isSo_299 (by decide) (fun c299 => by exfalso; exact c299 (by rw [show j = n by omega]; rfl)) (fun c299 => ?_)
                    refine lv_aload_n hx hb dL_isSo_302 rfl (lv_at hl 4 rfl) ?_
                    refine lv_iload hx hb dL_isSo_303 (lv_at hl 9 rfl) ?_
                    refine lv_iload hx hb dL_isSo_305 (lv_at hl 10 rfl) ?_
                    refine lv_isub hx hb dL_isSo_307 ?_
                    refine wv_ti (y := nI (rk0 fl v n i)) (dst_rk (by omega) hn) ?_
                    refine wv_callSWPl (As := [.ref x9, .int (nI (rk0 fl v n i))]) (rest := []) ⟨hx, hb, hml, hown, hts⟩ (kL_rankedOf l D x9 r r2 q co h va na ra cJ cI v nu rk n b fl me st lk cm (nI (rk0 fl v n i)) p1 (by first | assumption | omega) (by first | assumption | omega) (by first | assumption | omega)) (vx_cwSW 2 hts gL_isSo_L_rankedOf rfl rfl rfl (by decide +kernel) ⟨Nat.le_of_ble_eq_true rfl, Nat.le_of_ble_eq_true rfl⟩) hK hN hP hS hA [0, 1, 2, 3, 4] [0, 1] rfl rfl rfl hl.1 rfl (Nat.le_of_ble_eq_true rfl) dL_isSo_308 ⟨Nat.zero_le _, Nat.zero_le _⟩ (fun H locs hz9 hP hS => ?_)
                    refine lv_aload_n hx hb dL_isSo_311 rfl (lv_at hl 6 rfl) ?_
                    refine lv_iload hx hb dL_isSo_312 (lv_at hl 9 rfl) ?_
                    refine wv_lald hx hb hK hP 9 0 rfl rfl (k := i) (by omega) (by decide) dL_isSo_314 ?_
                    refine wv_lc_ne (tgt := 323) hx hb dL_isSo_315 dL_isSo_316 (by decide) (fun c316 => by exfalso; exact c316 hpv) (fun c316 => ?_)
                    refine lv_iconst (v := nI 1) hx hb dL_isSo_319 (by decide) ?_
                    refine lv_goto (tgt := 324) hx hb dL_isSo_320 (by decide) ?_
                    refine lv_istore (lv' := [(9, .int (nI 1)), (5, .int (nI ((cnt (fal fl v n) i) + 0))), (7, .long ((bst fl v n b i) ||| (lN 0))), (4, .int (nI (far fl v n i))), (6, .int (nI ((sm (ivo fl v n) i) + (cnt (ivp fl v i) j)))), (0, .ref x9), (1, .ref g), (2, .ref vv), (3, .ref nn), (10, .int (nI i)), (11, .int (dst fl v n i)), (12, .int (nI (far fl v n i))), (13, .int (nI (cnt (ivp fl v i) j))), (14, .int (nI j))]) hx hb dL_isSo_324 hl (by decide) rfl (fun ls hl => ?_)
                    refine lv_iinc (v := nI (i + 1)) (lv' := [(10, .int (nI (i + 1))), (9, .int (nI 1)), (5, .int (nI ((cnt (fal fl v n) i) + 0))), (7, .long ((bst fl v n b i) ||| (lN 0))), (4, .int (nI (far fl v n i))), (6, .int (nI ((sm (ivo fl v n) i) + (cnt (ivp fl v i) j)))), (0, .ref x9), (1, .ref g), (2, .ref vv), (3, .ref nn), (11, .int (dst fl v n i)), (12, .int (nI (far fl v n i))), (13, .int (nI (cnt (ivp fl v i) j))), (14, .int (nI j))]) hx hb dL_isSo_326 hl (k := 9) rfl (nI_1 _) (by decide) rfl (fun ls hl => ?_)
                    refine lv_goto (tgt := 18) hx hb dL_isSo_329 (by decide) ?_
                    have el_l4 : mx (far fl v n) (i + 1) = far fl v n i := by first | (rw [mx_s, Nat.max_eq_left (by omega)]; done) | (rw [mx_s, Nat.max_eq_right (by omega)]; done)
                    have el_l5 : cnt (fal fl v n) (i + 1) = (cnt (fal fl v n) i) + 0 := by first | exact cnt_t c176 | exact cnt_f c176
                    have el_l6 : sm (ivo fl v n) (i + 1) = (sm (ivo fl v n) i) + (cnt (ivp fl v i) j) := by rw [sm_s, show j = n by omega]; rfl
                    have el_l7 : bst fl v n b (i + 1) = (bst fl v n b i) ||| (lN 0) := by first | exact if_pos (decide_eq_true (by omega)) | (rw [lor_0]; exact if_neg (by rw [show brk fl v n b i = false from decide_eq_false (by omega)]; decide))
                    exact ih18 (i + 1) (by omega) (by first | assumption | omega) _ _ (by first | (rw [el_l5, el_l4, el_l6, el_l7]; exact hP) | (simp only [el_l5, el_l4, el_l6, el_l7]; exact hP) | exact hP) (by first | (rw [el_l5, el_l4, el_l6, el_l7]; exact hD) | (simp only [el_l5, el_l4, el_l6, el_l7]; exact hD) | exact hD) hS ls (by first | (rw [el_l5, el_l4, el_l6, el_l7]; exact lv_sub hl [6, 7, 8, 9, 4, 2, 5, 3, 1, 0] rfl) | (simp only [el_l5, el_l4, el_l6, el_l7]; exact lv_sub hl [6, 7, 8, 9, 4, 2, 5, 3, 1, 0] rfl) | exact lv_sub hl [6, 7, 8, 9, 4, 2, 5, 3, 1, 0] rfl)
                  · skip
                    refine lv_iconst (v := nI 1) hx hb dL_isSo_179 (by decide) ?_
                    refine lv_goto (tgt := 184) hx hb dL_isSo_180 (by decide) ?_
                    refine lv_iadd hx hb dL_isSo_184 ?_
                    refine wv_ti (nI_add _ _) ?_
                    refine lv_istore (lv' := [(5, .int (nI ((cnt (fal fl v n) i) + 1))), (7, .long ((bst fl v n b i) ||| (lN 0))), (4, .int (nI (far fl v n i))), (6, .int (nI ((sm (ivo fl v n) i) + (cnt (ivp fl v i) j)))), (0, .ref x9), (1, .ref g), (2, .ref vv), (3, .ref nn), (9, .int (nI 1)), (10, .int (nI i)), (11, .int (dst fl v n i)), (12, .int (nI (far fl v n i))), (13, .int (nI (cnt (ivp fl v i) j))), (14, .int (nI j))]) hx hb dL_isSo_185 hl (by decide) rfl (fun ls hl => ?_)
                    refine lv_aload_n hx hb dL_isSo_187 rfl (lv_at hl 4 rfl) ?_
                    refine lv_iload hx hb dL_isSo_188 (lv_at hl 9 rfl) ?_
                    refine wv_callSWPl (As := [.ref x9, .int (nI i)]) (rest := []) ⟨hx, hb, hml, hown, hts⟩ (kL_atOf l D x9 r r2 q co h va na ra cJ cI v nu rk n b fl me st lk cm i (by first | assumption | omega) (by first | assumption | omega)) (vx_cwSW 2 hts gL_isSo_L_atOf rfl rfl rfl (by decide +kernel) ⟨Nat.le_of_ble_eq_true rfl, Nat.le_of_ble_eq_true rfl⟩) hK hN hP hS hA [0, 1, 2, 3, 4] [0, 1] rfl rfl rfl hl.1 rfl (Nat.le_of_ble_eq_true rfl) dL_isSo_190 ⟨Nat.zero_le _, Nat.zero_le _⟩ (fun H locs hz9 hP hS => ?_)
                    refine lv_aload_n hx hb dL_isSo_193 rfl (lv_at hl 6 rfl) ?_
                    refine lv_iload hx hb dL_isSo_194 (lv_at hl 9 rfl) ?_
                    refine wv_lald hx hb hK hP 9 0 rfl rfl (k := i) (by omega) (by decide) dL_isSo_196 ?_
                    refine wv_lc_ne (tgt := 323) hx hb dL_isSo_197 dL_isSo_198 (by decide) (fun c198 => by exfalso; exact c198 rfl) (fun c198 => ?_)
                    refine lv_aload_n hx hb dL_isSo_201 rfl (lv_at hl 4 rfl) ?_
                    refine lv_iload hx hb dL_isSo_202 (lv_at hl 9 rfl) ?_
                    refine lv_iconst (v := nI 0) hx hb dL_isSo_204 (by decide) ?_
                    refine wv_callSWPi (As := [.ref x9, .int (nI i), .int (nI 0)]) (rest := []) ⟨hx, hb, hml, hown, hts⟩ (kL_elementOf l D x9 r r2 q co h va na ra cJ cI v nu rk n b fl me st lk cm i 0 (by first | assumption | omega) (by first | assumption | omega) (by first | assumption | omega) (by first | assumption | omega) (by first | assumption | omega)) (vx_cwSW 3 hts gL_isSo_L_elementOf rfl rfl rfl (by decide +kernel) ⟨Nat.le_of_ble_eq_true rfl, Nat.le_of_ble_eq_true rfl⟩) hK hN hP hS hA [0, 1, 2, 3, 4] [0, 1] rfl rfl rfl hl.1 rfl (Nat.le_of_ble_eq_true rfl) dL_isSo_205 ⟨Nat.zero_le _, Nat.zero_le _⟩ (fun H locs hz9 hP hS => ?_)
                    refine lv_aload_n hx hb dL_isSo_208 rfl (lv_at hl 7 rfl) ?_
                    refine lv_iload hx hb dL_isSo_209 (lv_at hl 9 rfl) ?_
                    refine wv_iald hx hb hK hP 10 1 rfl rfl (k := i) (by omega) (by decide) dL_isSo_211 ?_
                    refine lv_icmp_ne (tgt := 323) hx hb dL_isSo_212 (by decide) (fun c212 => by exfalso; exact c212 rfl) (fun c212 => ?_)
                    refine lv_aload_n hx hb dL_isSo_215 rfl (lv_at hl 4 rfl) ?_
                    refine lv_iload hx hb dL_isSo_216 (lv_at hl 9 rfl) ?_
                    refine lv_iconst (v := nI 1) hx hb dL_isSo_218 (by decide) ?_
                    refine wv_callSWPi (As := [.ref x9, .int (nI i), .int (nI 1)]) (rest := []) ⟨hx, hb, hml, hown, hts⟩ (kL_elementOf l D x9 r r2 q co h va na ra cJ cI v nu rk n b fl me st lk cm i 1 (by first | assumption | omega) (by first | assumption | omega) (by first | assumption | omega) (by first | assumption | omega) (by first | assumption | omega)) (vx_cwSW 3 hts gL_isSo_L_elementOf rfl rfl rfl (by decide +kernel) ⟨Nat.le_of_ble_eq_true rfl, Nat.le_of_ble_eq_true rfl⟩) hK hN hP hS hA [0, 1, 2, 3, 4] [0, 1] rfl rfl rfl hl.1 rfl (Nat.le_of_ble_eq_true rfl) dL_isSo_219 ⟨Nat.zero_le _, Nat.zero_le _⟩ (fun H locs hz9 hP hS => ?_)
                    refine lv_iload hx hb dL_isSo_222 (lv_at hl 9 rfl) ?_
                    refine lv_iload hx hb dL_isSo_224 (lv_at hl 10 rfl) ?_
                    refine lv_isub hx hb dL_isSo_226 ?_
                    refine wv_ti (y := nI (rk0 fl v n i)) (dst_rk (by omega) hn) ?_
                    refine lv_icmp_ne (tgt := 323) hx hb dL_isSo_227 (by decide) (fun c227 => by exfalso; exact c227 rfl) (fun c227 => ?_)
                    refine lv_aload_n hx hb dL_isSo_230 rfl (lv_at hl 4 rfl) ?_
                    refine lv_iload hx hb dL_isSo_231 (lv_at hl 9 rfl) ?_
                    refine lv_iconst (v := nI 2) hx hb dL_isSo_233 (by decide) ?_
                    refine wv_callSWPi (As := [.ref x9, .int (nI i), .int (nI 2)]) (rest := []) ⟨hx, hb, hml, hown, hts⟩ (kL_elementOf l D x9 r r2 q co h va na ra cJ cI v nu rk n b fl me st lk cm i 2 (by first | assumption | omega) (by first | assumption | omega) (by first | assumption | omega) (by first | assumption | omega) (by first | assumption | omega)) (vx_cwSW 3 hts gL_isSo_L_elementOf rfl rfl rfl (by decide +kernel) ⟨Nat.le_of_ble_eq_true rfl, Nat.le_of_ble_eq_true rfl⟩) hK hN hP hS hA [0, 1, 2, 3, 4] [0, 1] rfl rfl rfl hl.1 rfl (Nat.le_of_ble_eq_true rfl) dL_isSo_234 ⟨Nat.zero_le _, Nat.zero_le _⟩ (fun H locs hz9 hP hS => ?_)
                    refine lv_iload hx hb dL_isSo_237 (lv_at hl 10 rfl) ?_
                    refine lv_icmp_ne (tgt := 323) hx hb dL_isSo_239 (by decide) (fun c239 => by exfalso; exact c239 rfl) (fun c239 => ?_)
                    refine lv_aload_n hx hb dL_isSo_242 rfl (lv_at hl 4 rfl) ?_
                    refine lv_iload hx hb dL_isSo_243 (lv_at hl 9 rfl) ?_
                    refine lv_iconst (v := nI 3) hx hb dL_isSo_245 (by decide) ?_
                    refine wv_callSWPi (As := [.ref x9, .int (nI i), .int (nI 3)]) (rest := []) ⟨hx, hb, hml, hown, hts⟩ (kL_elementOf l D x9 r r2 q co h va na ra cJ cI v nu rk n b fl me st lk cm i 3 (by first | assumption | omega) (by first | assumption | omega) (by first | assumption | omega) (by first | assumption | omega) (by first | assumption | omega)) (vx_cwSW 3 hts gL_isSo_L_elementOf rfl rfl rfl (by decide +kernel) ⟨Nat.le_of_ble_eq_true rfl, Nat.le_of_ble_eq_true rfl⟩) hK hN hP hS hA [0, 1, 2, 3, 4] [0, 1] rfl rfl rfl hl.1 rfl (Nat.le_of_ble_eq_true rfl) dL_isSo_246 ⟨Nat.zero_le _, Nat.zero_le _⟩ (fun H locs hz9 hP hS => ?_)
                    refine lv_iload hx hb dL_isSo_249 (lv_at hl 11 rfl) ?_
                    refine lv_aload_n hx hb dL_isSo_251 rfl (lv_at hl 5 rfl) ?_
                    refine lv_iconst (v := nI 1) hx hb dL_isSo_252 (by decide) ?_
                    refine wv_iald hx hb hK hP 8 1 rfl rfl (k := 1) (by omega) (by decide) dL_isSo_253 ?_
                    refine wv_ti (y := nI b) rfl ?_
                    refine wv_icmp_le (tgt := 261) hx hb (by omega) (by omega) dL_isSo_254 (by decide) (fun c254 => ?_) (fun c254 => by exfalso; omega)
                    refine lv_iconst (v := nI 0) hx hb dL_isSo_261 (by decide) ?_
                    refine lv_icmp_ne (tgt := 323) hx hb dL_isSo_262 (by decide) (fun c262 => by exfalso; exact c262 (by first | (show bI (brk fl v n b i) = _; rw [show brk fl v n b i = true from decide_eq_true (by omega)]; rfl) | (show bI (brk fl v n b i) = _; rw [show brk fl v n b i = false from decide_eq_false (by omega)]; rfl))) (fun c262 => ?_)
                    refine lv_aload_n hx hb dL_isSo_265 rfl (lv_at hl 4 rfl) ?_
                    refine lv_iload hx hb dL_isSo_266 (lv_at hl 9 rfl) ?_
                    refine lv_iconst (v := nI 4) hx hb dL_isSo_268 (by decide) ?_
                    refine wv_callSWPi (As := [.ref x9, .int (nI i), .int (nI 4)]) (rest := []) ⟨hx, hb, hml, hown, hts⟩ (kL_elementOf l D x9 r r2 q co h va na ra cJ cI v nu rk n b fl me st lk cm i 4 (by first | assumption | omega) (by first | assumption | omega) (by first | assumption | omega) (by first | assumption | omega) (by first | assumption | omega)) (vx_cwSW 3 hts gL_isSo_L_elementOf rfl rfl rfl (by decide +kernel) ⟨Nat.le_of_ble_eq_true rfl, Nat.le_of_ble_eq_true rfl⟩) hK hN hP hS hA [0, 1, 2, 3, 4] [0, 1] rfl rfl rfl hl.1 rfl (Nat.le_of_ble_eq_true rfl) dL_isSo_269 ⟨Nat.zero_le _, Nat.zero_le _⟩ (fun H locs hz9 hP hS => ?_)
                    refine lv_aload_n hx hb dL_isSo_272 rfl (lv_at hl 5 rfl) ?_
                    refine lv_aload_n hx hb dL_isSo_273 rfl (lv_at hl 6 rfl) ?_
                    refine lv_iload hx hb dL_isSo_274 (lv_at hl 9 rfl) ?_
                    refine wv_callSi (As := [.ref g, .ref vv, .int (nI i)]) (rest := [.int (elV fl v n b (nu i) i 4)]) ⟨hx, hb, hml, hown, hts⟩ (kL_fall l D g cI n b fl me st lk cm vv cJ v i (by first | assumption | omega) (by first | assumption | omega)) (va_cwS 3 hts gL_isSo_L_fall rfl rfl rfl (by decide +kernel) ⟨Nat.le_of_ble_eq_true rfl, Nat.le_of_ble_eq_true rfl⟩) hK hN hP hS hA [8, 9] [0, 1] rfl rfl rfl hl.1 rfl (Nat.le_of_ble_eq_true rfl) dL_isSo_276 ⟨Nat.zero_le _, Nat.zero_le _⟩ (fun H locs hz9 hP hS => ?_)
                    refine wv_ifeqB (tgt := 286) hx hb dL_isSo_279 (by decide) (fun c279 => by exfalso; rw [c176] at c279; cases c279) (fun c279 => ?_)
                    refine lv_iconst (v := nI 1) hx hb dL_isSo_282 (by decide) ?_
                    refine lv_goto (tgt := 287) hx hb dL_isSo_283 (by decide) ?_
                    refine lv_icmp_ne (tgt := 323) hx hb dL_isSo_287 (by decide) (fun c287 => by exfalso; exact c287 (by show bI (fal fl v n i) = _; rw [c176]; rfl)) (fun c287 => ?_)
                    refine lv_aload_n hx hb dL_isSo_290 rfl (lv_at hl 4 rfl) ?_
                    refine lv_iload hx hb dL_isSo_291 (lv_at hl 9 rfl) ?_
                    refine lv_iconst (v := nI 5) hx hb dL_isSo_293 (by decide) ?_
                    refine wv_callSWPi (As := [.ref x9, .int (nI i), .int (nI 5)]) (rest := []) ⟨hx, hb, hml, hown, hts⟩ (kL_elementOf l D x9 r r2 q co h va na ra cJ cI v nu rk n b fl me st lk cm i 5 (by first | assumption | omega) (by first | assumption | omega) (by first | assumption | omega) (by first | assumption | omega) (by first | assumption | omega)) (vx_cwSW 3 hts gL_isSo_L_elementOf rfl rfl rfl (by decide +kernel) ⟨Nat.le_of_ble_eq_true rfl, Nat.le_of_ble_eq_true rfl⟩) hK hN hP hS hA [0, 1, 2, 3, 4] [0, 1] rfl rfl rfl hl.1 rfl (Nat.le_of_ble_eq_true rfl) dL_isSo_294 ⟨Nat.zero_le _, Nat.zero_le _⟩ (fun H locs hz9 hP hS => ?_)
                    refine lv_iload hx hb dL_isSo_297 (lv_at hl 12 rfl) ?_
                    refine lv_icmp_ne (tgt := 323) hx hb dL_isSo_299 (by decide) (fun c299 => by exfalso; exact c299 (by rw [show j = n by omega]; rfl)) (fun c299 => ?_)
                    refine lv_aload_n hx hb dL_isSo_302 rfl (lv_at hl 4 rfl) ?_
                    refine lv_iload hx hb dL_isSo_303 (lv_at hl 9 rfl) ?_
                    refine lv_iload hx hb dL_isSo_305 (lv_at hl 10 rfl) ?_
                    refine lv_isub hx hb dL_isSo_307 ?_
                    refine wv_ti (y := nI (rk0 fl v n i)) (dst_rk (by omega) hn) ?_
                    refine wv_callSWPl (As := [.ref x9, .int (nI (rk0 fl v n i))]) (rest := []) ⟨hx, hb, hml, hown, hts⟩ (kL_rankedOf l D x9 r r2 q co h va na ra cJ cI v nu rk n b fl me st lk cm (nI (rk0 fl v n i)) p1 (by first | assumption | omega) (by first | assumption | omega) (by first | assumption | omega)) (vx_cwSW 2 hts gL_isSo_L_rankedOf rfl rfl rfl (by decide +kernel) ⟨Nat.le_of_ble_eq_true rfl, Nat.le_of_ble_eq_true rfl⟩) hK hN hP hS hA [0, 1, 2, 3, 4] [0, 1] rfl rfl rfl hl.1 rfl (Nat.le_of_ble_eq_true rfl) dL_isSo_308 ⟨Nat.zero_le _, Nat.zero_le _⟩ (fun H locs hz9 hP hS => ?_)
                    refine lv_aload_n hx hb dL_isSo_311 rfl (lv_at hl 6 rfl) ?_
                    refine lv_iload hx hb dL_isSo_312 (lv_at hl 9 rfl) ?_
                    refine wv_lald hx hb hK hP 9 0 rfl rfl (k := i) (by omega) (by decide) dL_isSo_314 ?_
                    refine wv_lc_ne (tgt := 323) hx hb dL_isSo_315 dL_isSo_316 (by decide) (fun c316 => by exfalso; exact c316 hpv) (fun c316 => ?_)
                    refine lv_iconst (v := nI 1) hx hb dL_isSo_319 (by decide) ?_
                    refine lv_goto (tgt := 324) hx hb dL_isSo_320 (by decide) ?_
                    refine lv_istore (lv' := [(9, .int (nI 1)), (5, .int (nI ((cnt (fal fl v n) i) + 1))), (7, .long ((bst fl v n b i) ||| (lN 0))), (4, .int (nI (far fl v n i))), (6, .int (nI ((sm (ivo fl v n) i) + (cnt (ivp fl v i) j)))), (0, .ref x9), (1, .ref g), (2, .ref vv), (3, .ref nn), (10, .int (nI i)), (11, .int (dst fl v n i)), (12, .int (nI (far fl v n i))), (13, .int (nI (cnt (ivp fl v i) j))), (14, .int (nI j))]) hx hb dL_isSo_324 hl (by decide) rfl (fun ls hl => ?_)
                    refine lv_iinc (v := nI (i + 1)) (lv' := [(10, .int (nI (i + 1))), (9, .int (nI 1)), (5, .int (nI ((cnt (fal fl v n) i) + 1))), (7, .long ((bst fl v n b i) ||| (lN 0))), (4, .int (nI (far fl v n i))), (6, .int (nI ((sm (ivo fl v n) i) + (cnt (ivp fl v i) j)))), (0, .ref x9), (1, .ref g), (2, .ref vv), (3, .ref nn), (11, .int (dst fl v n i)), (12, .int (nI (far fl v n i))), (13, .int (nI (cnt (ivp fl v i) j))), (14, .int (nI j))]) hx hb dL_isSo_326 hl (k := 9) rfl (nI_1 _) (by decide) rfl (fun ls hl => ?_)
                    refine lv_goto (tgt := 18) hx hb dL_isSo_329 (by decide) ?_
                    have el_l4 : mx (far fl v n) (i + 1) = far fl v n i := by first | (rw [mx_s, Nat.max_eq_left (by omega)]; done) | (rw [mx_s, Nat.max_eq_right (by omega)]; done)
                    have el_l5 : cnt (fal fl v n) (i + 1) = (cnt (fal fl v n) i) + 1 := by first | exact cnt_t c176 | exact cnt_f c176
                    have el_l6 : sm (ivo fl v n) (i + 1) = (sm (ivo fl v n) i) + (cnt (ivp fl v i) j) := by rw [sm_s, show j = n by omega]; rfl
                    have el_l7 : bst fl v n b (i + 1) = (bst fl v n b i) ||| (lN 0) := by first | exact if_pos (decide_eq_true (by omega)) | (rw [lor_0]; exact if_neg (by rw [show brk fl v n b i = false from decide_eq_false (by omega)]; decide))
                    exact ih18 (i + 1) (by omega) (by first | assumption | omega) _ _ (by first | (rw [el_l5, el_l4, el_l6, el_l7]; exact hP) | (simp only [el_l5, el_l4, el_l6, el_l7]; exact hP) | exact hP) (by first | (rw [el_l5, el_l4, el_l6, el_l7]; exact hD) | (simp only [el_l5, el_l4, el_l6, el_l7]; exact hD) | exact hD) hS ls (by first | (rw [el_l5, el_l4, el_l6, el_l7]; exact lv_sub hl [6, 7, 8, 9, 4, 2, 5, 3, 1, 0] rfl) | (simp only [el_l5, el_l4, el_l6, el_l7]; exact lv_sub hl [6, 7, 8, 9, 4, 2, 5, 3, 1, 0] rfl) | exact lv_sub hl [6, 7, 8, 9, 4, 2, 5, 3, 1, 0] rfl)
                · skip
                  refine lv_lconst (v := lN 1) hx hb dL_isSo_156 rfl ?_
                  refine lv_iload hx hb dL_isSo_157 (lv_at hl 9 rfl) ?_
                  refine lv_lshl (v := (lN 1) <<< ((nI i).toInt64 &&& 63)) hx hb dL_isSo_159 rfl ?_
                  refine lv_goto (tgt := 164) hx hb dL_isSo_160 (by decide) ?_
                  refine lv_lor hx hb dL_isSo_164 ?_
                  refine lv_lstore (lv' := [(7, .long ((bst fl v n b i) ||| ((lN 1) <<< ((nI i).toInt64 &&& 63)))), (4, .int (nI (far fl v n i))), (6, .int (nI ((sm (ivo fl v n) i) + (cnt (ivp fl v i) j)))), (0, .ref x9), (1, .ref g), (2, .ref vv), (3, .ref nn), (5, .int (nI (cnt (fal fl v n) i))), (9, .int (nI 1)), (10, .int (nI i)), (11, .int (dst fl v n i)), (12, .int (nI (far fl v n i))), (13, .int (nI (cnt (ivp fl v i) j))), (14, .int (nI j))]) hx hb dL_isSo_165 hl (by decide) rfl (fun ls hl => ?_)
                  refine lv_iload hx hb dL_isSo_167 (lv_at hl 7 rfl) ?_
                  refine lv_aload_n hx hb dL_isSo_169 rfl (lv_at hl 4 rfl) ?_
                  refine lv_aload_n hx hb dL_isSo_170 rfl (lv_at hl 5 rfl) ?_
                  refine lv_iload hx hb dL_isSo_171 (lv_at hl 9 rfl) ?_
                  refine wv_callSi (As := [.ref g, .ref vv, .int (nI i)]) (rest := [.int (nI (cnt (fal fl v n) i))]) ⟨hx, hb, hml, hown, hts⟩ (kL_fall l D g cI n b fl me st lk cm vv cJ v i (by first | assumption | omega) (by first | assumption | omega)) (va_cwS 3 hts gL_isSo_L_fall rfl rfl rfl (by decide +kernel) ⟨Nat.le_of_ble_eq_true rfl, Nat.le_of_ble_eq_true rfl⟩) hK hN hP hS hA [8, 9] [0, 1] rfl rfl rfl hl.1 rfl (Nat.le_of_ble_eq_true rfl) dL_isSo_173 ⟨Nat.zero_le _, Nat.zero_le _⟩ (fun H locs hz9 hP hS => ?_)
                  refine wv_ifeqB (tgt := 183) hx hb dL_isSo_176 (by decide) (fun c176 => ?_) (fun c176 => ?_)
                  · skip
                    refine lv_iconst (v := nI 0) hx hb dL_isSo_183 (by decide) ?_
                    refine lv_iadd hx hb dL_isSo_184 ?_
                    refine wv_ti (nI_add _ _) ?_
                    refine lv_istore (lv' := [(5, .int (nI ((cnt (fal fl v n) i) + 0))), (7, .long ((bst fl v n b i) ||| ((lN 1) <<< ((nI i).toInt64 &&& 63)))), (4, .int (nI (far fl v n i))), (6, .int (nI ((sm (ivo fl v n) i) + (cnt (ivp fl v i) j)))), (0, .ref x9), (1, .ref g), (2, .ref vv), (3, .ref nn), (9, .int (nI 1)), (10, .int (nI i)), (11, .int (dst fl v n i)), (12, .int (nI (far fl v n i))), (13, .int (nI (cnt (ivp fl v i) j))), (14, .int (nI j))]) hx hb dL_isSo_185 hl (by decide) rfl (fun ls hl => ?_)
                    refine lv_aload_n hx hb dL_isSo_187 rfl (lv_at hl 4 rfl) ?_
                    refine lv_iload hx hb dL_isSo_188 (lv_at hl 9 rfl) ?_
                    refine wv_callSWPl (As := [.ref x9, .int (nI i)]) (rest := []) ⟨hx, hb, hml, hown, hts⟩ (kL_atOf l D x9 r r2 q co h va na ra cJ cI v nu rk n b fl me st lk cm i (by first | assumption | omega) (by first | assumption | omega)) (vx_cwSW 2 hts gL_isSo_L_atOf rfl rfl rfl (by decide +kernel) ⟨Nat.le_of_ble_eq_true rfl, Nat.le_of_ble_eq_true rfl⟩) hK hN hP hS hA [0, 1, 2, 3, 4] [0, 1] rfl rfl rfl hl.1 rfl (Nat.le_of_ble_eq_true rfl) dL_isSo_190 ⟨Nat.zero_le _, Nat.zero_le _⟩ (fun H locs hz9 hP hS => ?_)
                    refine lv_aload_n hx hb dL_isSo_193 rfl (lv_at hl 6 rfl) ?_
                    refine lv_iload hx hb dL_isSo_194 (lv_at hl 9 rfl) ?_
                    refine wv_lald hx hb hK hP 9 0 rfl rfl (k := i) (by omega) (by decide) dL_isSo_196 ?_
                    refine wv_lc_ne (tgt := 323) hx hb dL_isSo_197 dL_isSo_198 (by decide) (fun c198 => by exfalso; exact c198 rfl) (fun c198 => ?_)
                    refine lv_aload_n hx hb dL_isSo_201 rfl (lv_at hl 4 rfl) ?_
                    refine lv_iload hx hb dL_isSo_202 (lv_at hl 9 rfl) ?_
                    refine lv_iconst (v := nI 0) hx hb dL_isSo_204 (by decide) ?_
                    refine wv_callSWPi (As := [.ref x9, .int (nI i), .int (nI 0)]) (rest := []) ⟨hx, hb, hml, hown, hts⟩ (kL_elementOf l D x9 r r2 q co h va na ra cJ cI v nu rk n b fl me st lk cm i 0 (by first | assumption | omega) (by first | assumption | omega) (by first | assumption | omega) (by first | assumption | omega) (by first | assumption | omega)) (vx_cwSW 3 hts gL_isSo_L_elementOf rfl rfl rfl (by decide +kernel) ⟨Nat.le_of_ble_eq_true rfl, Nat.le_of_ble_eq_true rfl⟩) hK hN hP hS hA [0, 1, 2, 3, 4] [0, 1] rfl rfl rfl hl.1 rfl (Nat.le_of_ble_eq_true rfl) dL_isSo_205 ⟨Nat.zero_le _, Nat.zero_le _⟩ (fun H locs hz9 hP hS => ?_)
                    refine lv_aload_n hx hb dL_isSo_208 rfl (lv_at hl 7 rfl) ?_
                    refine lv_iload hx hb dL_isSo_209 (lv_at hl 9 rfl) ?_
                    refine wv_iald hx hb hK hP 10 1 rfl rfl (k := i) (by omega) (by decide) dL_isSo_211 ?_
                    refine lv_icmp_ne (tgt := 323) hx hb dL_isSo_212 (by decide) (fun c212 => by exfalso; exact c212 rfl) (fun c212 => ?_)
                    refine lv_aload_n hx hb dL_isSo_215 rfl (lv_at hl 4 rfl) ?_
                    refine lv_iload hx hb dL_isSo_216 (lv_at hl 9 rfl) ?_
                    refine lv_iconst (v := nI 1) hx hb dL_isSo_218 (by decide) ?_
                    refine wv_callSWPi (As := [.ref x9, .int (nI i), .int (nI 1)]) (rest := []) ⟨hx, hb, hml, hown, hts⟩ (kL_elementOf l D x9 r r2 q co h va na ra cJ cI v nu rk n b fl me st lk cm i 1 (by first | assumption | omega) (by first | assumption | omega) (by first | assumption | omega) (by first | assumption | omega) (by first | assumption | omega)) (vx_cwSW 3 hts gL_isSo_L_elementOf rfl rfl rfl (by decide +kernel) ⟨Nat.le_of_ble_eq_true rfl, Nat.le_of_ble_eq_true rfl⟩) hK hN hP hS hA [0, 1, 2, 3, 4] [0, 1] rfl rfl rfl hl.1 rfl (Nat.le_of_ble_eq_true rfl) dL_isSo_219 ⟨Nat.zero_le _, Nat.zero_le _⟩ (fun H locs hz9 hP hS => ?_)
                    refine lv_iload hx hb dL_isSo_222 (lv_at hl 9 rfl) ?_
                    refine lv_iload hx hb dL_isSo_224 (lv_at hl 10 rfl) ?_
                    refine lv_isub hx hb dL_isSo_226 ?_
                    refine wv_ti (y := nI (rk0 fl v n i)) (dst_rk (by omega) hn) ?_
                    refine lv_icmp_ne (tgt := 323) hx hb dL_isSo_227 (by decide) (fun c227 => by exfalso; exact c227 rfl) (fun c227 => ?_)
                    refine lv_aload_n hx hb dL_isSo_230 rfl (lv_at hl 4 rfl) ?_
                    refine lv_iload hx hb dL_isSo_231 (lv_at hl 9 rfl) ?_
                    refine lv_iconst (v := nI 2) hx hb dL_isSo_233 (by decide) ?_
                    refine wv_callSWPi (As := [.ref x9, .int (nI i), .int (nI 2)]) (rest := []) ⟨hx, hb, hml, hown, hts⟩ (kL_elementOf l D x9 r r2 q co h va na ra cJ cI v nu rk n b fl me st lk cm i 2 (by first | assumption | omega) (by first | assumption | omega) (by first | assumption | omega) (by first | assumption | omega) (by first | assumption | omega)) (vx_cwSW 3 hts gL_isSo_L_elementOf rfl rfl rfl (by decide +kernel) ⟨Nat.le_of_ble_eq_true rfl, Nat.le_of_ble_eq_true rfl⟩) hK hN hP hS hA [0, 1, 2, 3, 4] [0, 1] rfl rfl rfl hl.1 rfl (Nat.le_of_ble_eq_true rfl) dL_isSo_234 ⟨Nat.zero_le _, Nat.zero_le _⟩ (fun H locs hz9 hP hS => ?_)
                    refine lv_iload hx hb dL_isSo_237 (lv_at hl 10 rfl) ?_
                    refine lv_icmp_ne (tgt := 323) hx hb dL_isSo_239 (by decide) (fun c239 => by exfalso; exact c239 rfl) (fun c239 => ?_)
                    refine lv_aload_n hx hb dL_isSo_242 rfl (lv_at hl 4 rfl) ?_
                    refine lv_iload hx hb dL_isSo_243 (lv_at hl 9 rfl) ?_
                    refine lv_iconst (v := nI 3) hx hb dL_isSo_245 (by decide) ?_
                    refine wv_callSWPi (As := [.ref x9, .int (nI i), .int (nI 3)]) (rest := []) ⟨hx, hb, hml, hown, hts⟩ (kL_elementOf l D x9 r r2 q co h va na ra cJ cI v nu rk n b fl me st lk cm i 3 (by first | assumption | omega) (by first | assumption | omega) (by first | assumption | omega) (by first | assumption | omega) (by first | assumption | omega)) (vx_cwSW 3 hts gL_isSo_L_elementOf rfl rfl rfl (by decide +kernel) ⟨Nat.le_of_ble_eq_true rfl, Nat.le_of_ble_eq_true rfl⟩) hK hN hP hS hA [0, 1, 2, 3, 4] [0, 1] rfl rfl rfl hl.1 rfl (Nat.le_of_ble_eq_true rfl) dL_isSo_246 ⟨Nat.zero_le _, Nat.zero_le _⟩ (fun H locs hz9 hP hS => ?_)
                    refine lv_iload hx hb dL_isSo_249 (lv_at hl 11 rfl) ?_
                    refine lv_aload_n hx hb dL_isSo_251 rfl (lv_at hl 5 rfl) ?_
                    refine lv_iconst (v := nI 1) hx hb dL_isSo_252 (by decide) ?_
                    refine wv_iald hx hb hK hP 8 1 rfl rfl (k := 1) (by omega) (by decide) dL_isSo_253 ?_
                    refine wv_ti (y := nI b) rfl ?_
                    refine wv_icmp_le (tgt := 261) hx hb (by omega) (by omega) dL_isSo_254 (by decide) (fun c254 => by exfalso; omega) (fun c254 => ?_)
                    refine lv_iconst (v := nI 1) hx hb dL_isSo_257 (by decide) ?_
                    refine lv_goto (tgt := 262) hx hb dL_isSo_258 (by decide) ?_
                    refine lv_icmp_ne (tgt := 323) hx hb dL_isSo_262 (by decide) (fun c262 => by exfalso; exact c262 (by first | (show bI (brk fl v n b i) = _; rw [show brk fl v n b i = true from decide_eq_true (by omega)]; rfl) | (show bI (brk fl v n b i) = _; rw [show brk fl v n b i = false from decide_eq_false (by omega)]; rfl))) (fun c262 => ?_)
                    refine lv_aload_n hx hb dL_isSo_265 rfl (lv_at hl 4 rfl) ?_
                    refine lv_iload hx hb dL_isSo_266 (lv_at hl 9 rfl) ?_
                    refine lv_iconst (v := nI 4) hx hb dL_isSo_268 (by decide) ?_
                    refine wv_callSWPi (As := [.ref x9, .int (nI i), .int (nI 4)]) (rest := []) ⟨hx, hb, hml, hown, hts⟩ (kL_elementOf l D x9 r r2 q co h va na ra cJ cI v nu rk n b fl me st lk cm i 4 (by first | assumption | omega) (by first | assumption | omega) (by first | assumption | omega) (by first | assumption | omega) (by first | assumption | omega)) (vx_cwSW 3 hts gL_isSo_L_elementOf rfl rfl rfl (by decide +kernel) ⟨Nat.le_of_ble_eq_true rfl, Nat.le_of_ble_eq_true rfl⟩) hK hN hP hS hA [0, 1, 2, 3, 4] [0, 1] rfl rfl rfl hl.1 rfl (Nat.le_of_ble_eq_true rfl) dL_isSo_269 ⟨Nat.zero_le _, Nat.zero_le _⟩ (fun H locs hz9 hP hS => ?_)
                    refine lv_aload_n hx hb dL_isSo_272 rfl (lv_at hl 5 rfl) ?_
                    refine lv_aload_n hx hb dL_isSo_273 rfl (lv_at hl 6 rfl) ?_
                    refine lv_iload hx hb dL_isSo_274 (lv_at hl 9 rfl) ?_
                    refine wv_callSi (As := [.ref g, .ref vv, .int (nI i)]) (rest := [.int (elV fl v n b (nu i) i 4)]) ⟨hx, hb, hml, hown, hts⟩ (kL_fall l D g cI n b fl me st lk cm vv cJ v i (by first | assumption | omega) (by first | assumption | omega)) (va_cwS 3 hts gL_isSo_L_fall rfl rfl rfl (by decide +kernel) ⟨Nat.le_of_ble_eq_true rfl, Nat.le_of_ble_eq_true rfl⟩) hK hN hP hS hA [8, 9] [0, 1] rfl rfl rfl hl.1 rfl (Nat.le_of_ble_eq_true rfl) dL_isSo_276 ⟨Nat.zero_le _, Nat.zero_le _⟩ (fun H locs hz9 hP hS => ?_)
                    refine wv_ifeqB (tgt := 286) hx hb dL_isSo_279 (by decide) (fun c279 => ?_) (fun c279 => by exfalso; rw [c176] at c279; cases c279)
                    refine lv_iconst (v := nI 0) hx hb dL_isSo_286 (by decide) ?_
                    refine lv_icmp_ne (tgt := 323) hx hb dL_isSo_287 (by decide) (fun c287 => by exfalso; exact c287 (by show bI (fal fl v n i) = _; rw [c176]; rfl)) (fun c287 => ?_)
                    refine lv_aload_n hx hb dL_isSo_290 rfl (lv_at hl 4 rfl) ?_
                    refine lv_iload hx hb dL_isSo_291 (lv_at hl 9 rfl) ?_
                    refine lv_iconst (v := nI 5) hx hb dL_isSo_293 (by decide) ?_
                    refine wv_callSWPi (As := [.ref x9, .int (nI i), .int (nI 5)]) (rest := []) ⟨hx, hb, hml, hown, hts⟩ (kL_elementOf l D x9 r r2 q co h va na ra cJ cI v nu rk n b fl me st lk cm i 5 (by first | assumption | omega) (by first | assumption | omega) (by first | assumption | omega) (by first | assumption | omega) (by first | assumption | omega)) (vx_cwSW 3 hts gL_isSo_L_elementOf rfl rfl rfl (by decide +kernel) ⟨Nat.le_of_ble_eq_true rfl, Nat.le_of_ble_eq_true rfl⟩) hK hN hP hS hA [0, 1, 2, 3, 4] [0, 1] rfl rfl rfl hl.1 rfl (Nat.le_of_ble_eq_true rfl) dL_isSo_294 ⟨Nat.zero_le _, Nat.zero_le _⟩ (fun H locs hz9 hP hS => ?_)
                    refine lv_iload hx hb dL_isSo_297 (lv_at hl 12 rfl) ?_
                    refine lv_icmp_ne (tgt := 323) hx hb dL_isSo_299 (by decide) (fun c299 => by exfalso; exact c299 (by rw [show j = n by omega]; rfl)) (fun c299 => ?_)
                    refine lv_aload_n hx hb dL_isSo_302 rfl (lv_at hl 4 rfl) ?_
                    refine lv_iload hx hb dL_isSo_303 (lv_at hl 9 rfl) ?_
                    refine lv_iload hx hb dL_isSo_305 (lv_at hl 10 rfl) ?_
                    refine lv_isub hx hb dL_isSo_307 ?_
                    refine wv_ti (y := nI (rk0 fl v n i)) (dst_rk (by omega) hn) ?_
                    refine wv_callSWPl (As := [.ref x9, .int (nI (rk0 fl v n i))]) (rest := []) ⟨hx, hb, hml, hown, hts⟩ (kL_rankedOf l D x9 r r2 q co h va na ra cJ cI v nu rk n b fl me st lk cm (nI (rk0 fl v n i)) p1 (by first | assumption | omega) (by first | assumption | omega) (by first | assumption | omega)) (vx_cwSW 2 hts gL_isSo_L_rankedOf rfl rfl rfl (by decide +kernel) ⟨Nat.le_of_ble_eq_true rfl, Nat.le_of_ble_eq_true rfl⟩) hK hN hP hS hA [0, 1, 2, 3, 4] [0, 1] rfl rfl rfl hl.1 rfl (Nat.le_of_ble_eq_true rfl) dL_isSo_308 ⟨Nat.zero_le _, Nat.zero_le _⟩ (fun H locs hz9 hP hS => ?_)
                    refine lv_aload_n hx hb dL_isSo_311 rfl (lv_at hl 6 rfl) ?_
                    refine lv_iload hx hb dL_isSo_312 (lv_at hl 9 rfl) ?_
                    refine wv_lald hx hb hK hP 9 0 rfl rfl (k := i) (by omega) (by decide) dL_isSo_314 ?_
                    refine wv_lc_ne (tgt := 323) hx hb dL_isSo_315 dL_isSo_316 (by decide) (fun c316 => by exfalso; exact c316 hpv) (fun c316 => ?_)
                    refine lv_iconst (v := nI 1) hx hb dL_isSo_319 (by decide) ?_
                    refine lv_goto (tgt := 324) hx hb dL_isSo_320 (by decide) ?_
                    refine lv_istore (lv' := [(9, .int (nI 1)), (5, .int (nI ((cnt (fal fl v n) i) + 0))), (7, .long ((bst fl v n b i) ||| ((lN 1) <<< ((nI i).toInt64 &&& 63)))), (4, .int (nI (far fl v n i))), (6, .int (nI ((sm (ivo fl v n) i) + (cnt (ivp fl v i) j)))), (0, .ref x9), (1, .ref g), (2, .ref vv), (3, .ref nn), (10, .int (nI i)), (11, .int (dst fl v n i)), (12, .int (nI (far fl v n i))), (13, .int (nI (cnt (ivp fl v i) j))), (14, .int (nI j))]) hx hb dL_isSo_324 hl (by decide) rfl (fun ls hl => ?_)
                    refine lv_iinc (v := nI (i + 1)) (lv' := [(10, .int (nI (i + 1))), (9, .int (nI 1)), (5, .int (nI ((cnt (fal fl v n) i) + 0))), (7, .long ((bst fl v n b i) ||| ((lN 1) <<< ((nI i).toInt64 &&& 63)))), (4, .int (nI (far fl v n i))), (6, .int (nI ((sm (ivo fl v n) i) + (cnt (ivp fl v i) j)))), (0, .ref x9), (1, .ref g), (2, .ref vv), (3, .ref nn), (11, .int (dst fl v n i)), (12, .int (nI (far fl v n i))), (13, .int (nI (cnt (ivp fl v i) j))), (14, .int (nI j))]) hx hb dL_isSo_326 hl (k := 9) rfl (nI_1 _) (by decide) rfl (fun ls hl => ?_)
                    refine lv_goto (tgt := 18) hx hb dL_isSo_329 (by decide) ?_
                    have el_l4 : mx (far fl v n) (i + 1) = far fl v n i := by first | (rw [mx_s, Nat.max_eq_left (by omega)]; done) | (rw [mx_s, Nat.max_eq_right (by omega)]; done)
                    have el_l5 : cnt (fal fl v n) (i + 1) = (cnt (fal fl v n) i) + 0 := by first | exact cnt_t c176 | exact cnt_f c176
                    have el_l6 : sm (ivo fl v n) (i + 1) = (sm (ivo fl v n) i) + (cnt (ivp fl v i) j) := by rw [sm_s, show j = n by omega]; rfl
                    have el_l7 : bst fl v n b (i + 1) = (bst fl v n b i) ||| ((lN 1) <<< ((nI i).toInt64 &&& 63)) := by first | exact if_pos (decide_eq_true (by omega)) | (rw [lor_0]; exact if_neg (by rw [show brk fl v n b i = false from decide_eq_false (by omega)]; decide))
                    exact ih18 (i + 1) (by omega) (by first | assumption | omega) _ _ (by first | (rw [el_l5, el_l4, el_l6, el_l7]; exact hP) | (simp only [el_l5, el_l4, el_l6, el_l7]; exact hP) | exact hP) (by first | (rw [el_l5, el_l4, el_l6, el_l7]; exact hD) | (simp only [el_l5, el_l4, el_l6, el_l7]; exact hD) | exact hD) hS ls (by first | (rw [el_l5, el_l4, el_l6, el_l7]; exact lv_sub hl [6, 7, 8, 9, 4, 2, 5, 3, 1, 0] rfl) | (simp only [el_l5, el_l4, el_l6, el_l7]; exact lv_sub hl [6, 7, 8, 9, 4, 2, 5, 3, 1, 0] rfl) | exact lv_sub hl [6, 7, 8, 9, 4, 2, 5, 3, 1, 0] rfl)
                  · skip
                    refine lv_iconst (v := nI 1) hx hb dL_isSo_179 (by decide) ?_
                    refine lv_goto (tgt := 184) hx hb dL_isSo_180 (by decide) ?_
                    refine lv_iadd hx hb dL_isSo_184 ?_
                    refine wv_ti (nI_add _ _) ?_
                    refine lv_istore (lv' := [(5, .int (nI ((cnt (fal fl v n) i) + 1))), (7, .long ((bst fl v n b i) ||| ((lN 1) <<< ((nI i).toInt64 &&& 63)))), (4, .int (nI (far fl v n i))), (6, .int (nI ((sm (ivo fl v n) i) + (cnt (ivp fl v i) j)))), (0, .ref x9), (1, .ref g), (2, .ref vv), (3, .ref nn), (9, .int (nI 1)), (10, .int (nI i)), (11, .int (dst fl v n i)), (12, .int (nI (far fl v n i))), (13, .int (nI (cnt (ivp fl v i) j))), (14, .int (nI j))]) hx hb dL_isSo_185 hl (by decide) rfl (fun ls hl => ?_)
                    refine lv_aload_n hx hb dL_isSo_187 rfl (lv_at hl 4 rfl) ?_
                    refine lv_iload hx hb dL_isSo_188 (lv_at hl 9 rfl) ?_
                    refine wv_callSWPl (As := [.ref x9, .int (nI i)]) (rest := []) ⟨hx, hb, hml, hown, hts⟩ (kL_atOf l D x9 r r2 q co h va na ra cJ cI v nu rk n b fl me st lk cm i (by first | assumption | omega) (by first | assumption | omega)) (vx_cwSW 2 hts gL_isSo_L_atOf rfl rfl rfl (by decide +kernel) ⟨Nat.le_of_ble_eq_true rfl, Nat.le_of_ble_eq_true rfl⟩) hK hN hP hS hA [0, 1, 2, 3, 4] [0, 1] rfl rfl rfl hl.1 rfl (Nat.le_of_ble_eq_true rfl) dL_isSo_190 ⟨Nat.zero_le _, Nat.zero_le _⟩ (fun H locs hz9 hP hS => ?_)
                    refine lv_aload_n hx hb dL_isSo_193 rfl (lv_at hl 6 rfl) ?_
                    refine lv_iload hx hb dL_isSo_194 (lv_at hl 9 rfl) ?_
                    refine wv_lald hx hb hK hP 9 0 rfl rfl (k := i) (by omega) (by decide) dL_isSo_196 ?_
                    refine wv_lc_ne (tgt := 323) hx hb dL_isSo_197 dL_isSo_198 (by decide) (fun c198 => by exfalso; exact c198 rfl) (fun c198 => ?_)
                    refine lv_aload_n hx hb dL_isSo_201 rfl (lv_at hl 4 rfl) ?_
                    refine lv_iload hx hb dL_isSo_202 (lv_at hl 9 rfl) ?_
                    refine lv_iconst (v := nI 0) hx hb dL_isSo_204 (by decide) ?_
                    refine wv_callSWPi (As := [.ref x9, .int (nI i), .int (nI 0)]) (rest := []) ⟨hx, hb, hml, hown, hts⟩ (kL_elementOf l D x9 r r2 q co h va na ra cJ cI v nu rk n b fl me st lk cm i 0 (by first | assumption | omega) (by first | assumption | omega) (by first | assumption | omega) (by first | assumption | omega) (by first | assumption | omega)) (vx_cwSW 3 hts gL_isSo_L_elementOf rfl rfl rfl (by decide +kernel) ⟨Nat.le_of_ble_eq_true rfl, Nat.le_of_ble_eq_true rfl⟩) hK hN hP hS hA [0, 1, 2, 3, 4] [0, 1] rfl rfl rfl hl.1 rfl (Nat.le_of_ble_eq_true rfl) dL_isSo_205 ⟨Nat.zero_le _, Nat.zero_le _⟩ (fun H locs hz9 hP hS => ?_)
                    refine lv_aload_n hx hb dL_isSo_208 rfl (lv_at hl 7 rfl) ?_
                    refine lv_iload hx hb dL_isSo_209 (lv_at hl 9 rfl) ?_
                    refine wv_iald hx hb hK hP 10 1 rfl rfl (k := i) (by omega) (by decide) dL_isSo_211 ?_
                    refine lv_icmp_ne (tgt := 323) hx hb dL_isSo_212 (by decide) (fun c212 => by exfalso; exact c212 rfl) (fun c212 => ?_)
                    refine lv_aload_n hx hb dL_isSo_215 rfl (lv_at hl 4 rfl) ?_
                    refine lv_iload hx hb dL_isSo_216 (lv_at hl 9 rfl) ?_
                    refine lv_iconst (v := nI 1) hx hb dL_isSo_218 (by decide) ?_
                    refine wv_callSWPi (As := [.ref x9, .int (nI i), .int (nI 1)]) (rest := []) ⟨hx, hb, hml, hown, hts⟩ (kL_elementOf l D x9 r r2 q co h va na ra cJ cI v nu rk n b fl me st lk cm i 1 (by first | assumption | omega) (by first | assumption | omega) (by first | assumption | omega) (by first | assumption | omega) (by first | assumption | omega)) (vx_cwSW 3 hts gL_isSo_L_elementOf rfl rfl rfl (by decide +kernel) ⟨Nat.le_of_ble_eq_true rfl, Nat.le_of_ble_eq_true rfl⟩) hK hN hP hS hA [0, 1, 2, 3, 4] [0, 1] rfl rfl rfl hl.1 rfl (Nat.le_of_ble_eq_true rfl) dL_isSo_219 ⟨Nat.zero_le _, Nat.zero_le _⟩ (fun H locs hz9 hP hS => ?_)
                    refine lv_iload hx hb dL_isSo_222 (lv_at hl 9 rfl) ?_
                    refine lv_iload hx hb dL_isSo_224 (lv_at hl 10 rfl) ?_
                    refine lv_isub hx hb dL_isSo_226 ?_
                    refine wv_ti (y := nI (rk0 fl v n i)) (dst_rk (by omega) hn) ?_
                    refine lv_icmp_ne (tgt := 323) hx hb dL_isSo_227 (by decide) (fun c227 => by exfalso; exact c227 rfl) (fun c227 => ?_)
                    refine lv_aload_n hx hb dL_isSo_230 rfl (lv_at hl 4 rfl) ?_
                    refine lv_iload hx hb dL_isSo_231 (lv_at hl 9 rfl) ?_
                    refine lv_iconst (v := nI 2) hx hb dL_isSo_233 (by decide) ?_
                    refine wv_callSWPi (As := [.ref x9, .int (nI i), .int (nI 2)]) (rest := []) ⟨hx, hb, hml, hown, hts⟩ (kL_elementOf l D x9 r r2 q co h va na ra cJ cI v nu rk n b fl me st lk cm i 2 (by first | assumption | omega) (by first | assumption | omega) (by first | assumption | omega) (by first | assumption | omega) (by first | assumption | omega)) (vx_cwSW 3 hts gL_isSo_L_elementOf rfl rfl rfl (by decide +kernel) ⟨Nat.le_of_ble_eq_true rfl, Nat.le_of_ble_eq_true rfl⟩) hK hN hP hS hA [0, 1, 2, 3, 4] [0, 1] rfl rfl rfl hl.1 rfl (Nat.le_of_ble_eq_true rfl) dL_isSo_234 ⟨Nat.zero_le _, Nat.zero_le _⟩ (fun H locs hz9 hP hS => ?_)
                    refine lv_iload hx hb dL_isSo_237 (lv_at hl 10 rfl) ?_
                    refine lv_icmp_ne (tgt := 323) hx hb dL_isSo_239 (by decide) (fun c239 => by exfalso; exact c239 rfl) (fun c239 => ?_)
                    refine lv_aload_n hx hb dL_isSo_242 rfl (lv_at hl 4 rfl) ?_
                    refine lv_iload hx hb dL_isSo_243 (lv_at hl 9 rfl) ?_
                    refine lv_iconst (v := nI 3) hx hb dL_isSo_245 (by decide) ?_
                    refine wv_callSWPi (As := [.ref x9, .int (nI i), .int (nI 3)]) (rest := []) ⟨hx, hb, hml, hown, hts⟩ (kL_elementOf l D x9 r r2 q co h va na ra cJ cI v nu rk n b fl me st lk cm i 3 (by first | assumption | omega) (by first | assumption | omega) (by first | assumption | omega) (by first | assumption | omega) (by first | assumption | omega)) (vx_cwSW 3 hts gL_isSo_L_elementOf rfl rfl rfl (by decide +kernel) ⟨Nat.le_of_ble_eq_true rfl, Nat.le_of_ble_eq_true rfl⟩) hK hN hP hS hA [0, 1, 2, 3, 4] [0, 1] rfl rfl rfl hl.1 rfl (Nat.le_of_ble_eq_true rfl) dL_isSo_246 ⟨Nat.zero_le _, Nat.zero_le _⟩ (fun H locs hz9 hP hS => ?_)
                    refine lv_iload hx hb dL_isSo_249 (lv_at hl 11 rfl) ?_
                    refine lv_aload_n hx hb dL_isSo_251 rfl (lv_at hl 5 rfl) ?_
                    refine lv_iconst (v := nI 1) hx hb dL_isSo_252 (by decide) ?_
                    refine wv_iald hx hb hK hP 8 1 rfl rfl (k := 1) (by omega) (by decide) dL_isSo_253 ?_
                    refine wv_ti (y := nI b) rfl ?_
                    refine wv_icmp_le (tgt := 261) hx hb (by omega) (by omega) dL_isSo_254 (by decide) (fun c254 => by exfalso; omega) (fun c254 => ?_)
                    refine lv_iconst (v := nI 1) hx hb dL_isSo_257 (by decide) ?_
                    refine lv_goto (tgt := 262) hx hb dL_isSo_258 (by decide) ?_
                    refine lv_icmp_ne (tgt := 323) hx hb dL_isSo_262 (by decide) (fun c262 => by exfalso; exact c262 (by first | (show bI (brk fl v n b i) = _; rw [show brk fl v n b i = true from decide_eq_true (by omega)]; rfl) | (show bI (brk fl v n b i) = _; rw [show brk fl v n b i = false from decide_eq_false (by omega)]; rfl))) (fun c262 => ?_)
                    refine lv_aload_n hx hb dL_isSo_265 rfl (lv_at hl 4 rfl) ?_
                    refine lv_iload hx hb dL_isSo_266 (lv_at hl 9 rfl) ?_
                    refine lv_iconst (v := nI 4) hx hb dL_isSo_268 (by decide) ?_
                    refine wv_callSWPi (As := [.ref x9, .int (nI i), .int (nI 4)]) (rest := []) ⟨hx, hb, hml, hown, hts⟩ (kL_elementOf l D x9 r r2 q co h va na ra cJ cI v nu rk n b fl me st lk cm i 4 (by first | assumption | omega) (by first | assumption | omega) (by first | assumption | omega) (by first | assumption | omega) (by first | assumption | omega)) (vx_cwSW 3 hts gL_isSo_L_elementOf rfl rfl rfl (by decide +kernel) ⟨Nat.le_of_ble_eq_true rfl, Nat.le_of_ble_eq_true rfl⟩) hK hN hP hS hA [0, 1, 2, 3, 4] [0, 1] rfl rfl rfl hl.1 rfl (Nat.le_of_ble_eq_true rfl) dL_isSo_269 ⟨Nat.zero_le _, Nat.zero_le _⟩ (fun H locs hz9 hP hS => ?_)
                    refine lv_aload_n hx hb dL_isSo_272 rfl (lv_at hl 5 rfl) ?_
                    refine lv_aload_n hx hb dL_isSo_273 rfl (lv_at hl 6 rfl) ?_
                    refine lv_iload hx hb dL_isSo_274 (lv_at hl 9 rfl) ?_
                    refine wv_callSi (As := [.ref g, .ref vv, .int (nI i)]) (rest := [.int (elV fl v n b (nu i) i 4)]) ⟨hx, hb, hml, hown, hts⟩ (kL_fall l D g cI n b fl me st lk cm vv cJ v i (by first | assumption | omega) (by first | assumption | omega)) (va_cwS 3 hts gL_isSo_L_fall rfl rfl rfl (by decide +kernel) ⟨Nat.le_of_ble_eq_true rfl, Nat.le_of_ble_eq_true rfl⟩) hK hN hP hS hA [8, 9] [0, 1] rfl rfl rfl hl.1 rfl (Nat.le_of_ble_eq_true rfl) dL_isSo_276 ⟨Nat.zero_le _, Nat.zero_le _⟩ (fun H locs hz9 hP hS => ?_)
                    refine wv_ifeqB (tgt := 286) hx hb dL_isSo_279 (by decide) (fun c279 => by exfalso; rw [c176] at c279; cases c279) (fun c279 => ?_)
                    refine lv_iconst (v := nI 1) hx hb dL_isSo_282 (by decide) ?_
                    refine lv_goto (tgt := 287) hx hb dL_isSo_283 (by decide) ?_
                    refine lv_icmp_ne (tgt := 323) hx hb dL_isSo_287 (by decide) (fun c287 => by exfalso; exact c287 (by show bI (fal fl v n i) = _; rw [c176]; rfl)) (fun c287 => ?_)
                    refine lv_aload_n hx hb dL_isSo_290 rfl (lv_at hl 4 rfl) ?_
                    refine lv_iload hx hb dL_isSo_291 (lv_at hl 9 rfl) ?_
                    refine lv_iconst (v := nI 5) hx hb dL_isSo_293 (by decide) ?_
                    refine wv_callSWPi (As := [.ref x9, .int (nI i), .int (nI 5)]) (rest := []) ⟨hx, hb, hml, hown, hts⟩ (kL_elementOf l D x9 r r2 q co h va na ra cJ cI v nu rk n b fl me st lk cm i 5 (by first | assumption | omega) (by first | assumption | omega) (by first | assumption | omega) (by first | assumption | omega) (by first | assumption | omega)) (vx_cwSW 3 hts gL_isSo_L_elementOf rfl rfl rfl (by decide +kernel) ⟨Nat.le_of_ble_eq_true rfl, Nat.le_of_ble_eq_true rfl⟩) hK hN hP hS hA [0, 1, 2, 3, 4] [0, 1] rfl rfl rfl hl.1 rfl (Nat.le_of_ble_eq_true rfl) dL_isSo_294 ⟨Nat.zero_le _, Nat.zero_le _⟩ (fun H locs hz9 hP hS => ?_)
                    refine lv_iload hx hb dL_isSo_297 (lv_at hl 12 rfl) ?_
                    refine lv_icmp_ne (tgt := 323) hx hb dL_isSo_299 (by decide) (fun c299 => by exfalso; exact c299 (by rw [show j = n by omega]; rfl)) (fun c299 => ?_)
                    refine lv_aload_n hx hb dL_isSo_302 rfl (lv_at hl 4 rfl) ?_
                    refine lv_iload hx hb dL_isSo_303 (lv_at hl 9 rfl) ?_
                    refine lv_iload hx hb dL_isSo_305 (lv_at hl 10 rfl) ?_
                    refine lv_isub hx hb dL_isSo_307 ?_
                    refine wv_ti (y := nI (rk0 fl v n i)) (dst_rk (by omega) hn) ?_
                    refine wv_callSWPl (As := [.ref x9, .int (nI (rk0 fl v n i))]) (rest := []) ⟨hx, hb, hml, hown, hts⟩ (kL_rankedOf l D x9 r r2 q co h va na ra cJ cI v nu rk n b fl me st lk cm (nI (rk0 fl v n i)) p1 (by first | assumption | omega) (by first | assumption | omega) (by first | assumption | omega)) (vx_cwSW 2 hts gL_isSo_L_rankedOf rfl rfl rfl (by decide +kernel) ⟨Nat.le_of_ble_eq_true rfl, Nat.le_of_ble_eq_true rfl⟩) hK hN hP hS hA [0, 1, 2, 3, 4] [0, 1] rfl rfl rfl hl.1 rfl (Nat.le_of_ble_eq_true rfl) dL_isSo_308 ⟨Nat.zero_le _, Nat.zero_le _⟩ (fun H locs hz9 hP hS => ?_)
                    refine lv_aload_n hx hb dL_isSo_311 rfl (lv_at hl 6 rfl) ?_
                    refine lv_iload hx hb dL_isSo_312 (lv_at hl 9 rfl) ?_
                    refine wv_lald hx hb hK hP 9 0 rfl rfl (k := i) (by omega) (by decide) dL_isSo_314 ?_
                    refine wv_lc_ne (tgt := 323) hx hb dL_isSo_315 dL_isSo_316 (by decide) (fun c316 => by exfalso; exact c316 hpv) (fun c316 => ?_)
                    refine lv_iconst (v := nI 1) hx hb dL_isSo_319 (by decide) ?_
                    refine lv_goto (tgt := 324) hx hb dL_isSo_320 (by decide) ?_
                    refine lv_istore (lv' := [(9, .int (nI 1)), (5, .int (nI ((cnt (fal fl v n) i) + 1))), (7, .long ((bst fl v n b i) ||| ((lN 1) <<< ((nI i).toInt64 &&& 63)))), (4, .int (nI (far fl v n i))), (6, .int (nI ((sm (ivo fl v n) i) + (cnt (ivp fl v i) j)))), (0, .ref x9), (1, .ref g), (2, .ref vv), (3, .ref nn), (10, .int (nI i)), (11, .int (dst fl v n i)), (12, .int (nI (far fl v n i))), (13, .int (nI (cnt (ivp fl v i) j))), (14, .int (nI j))]) hx hb dL_isSo_324 hl (by decide) rfl (fun ls hl => ?_)
                    refine lv_iinc (v := nI (i + 1)) (lv' := [(10, .int (nI (i + 1))), (9, .int (nI 1)), (5, .int (nI ((cnt (fal fl v n) i) + 1))), (7, .long ((bst fl v n b i) ||| ((lN 1) <<< ((nI i).toInt64 &&& 63)))), (4, .int (nI (far fl v n i))), (6, .int (nI ((sm (ivo fl v n) i) + (cnt (ivp fl v i) j)))), (0, .ref x9), (1, .ref g), (2, .ref vv), (3, .ref nn), (11, .int (dst fl v n i)), (12, .int (nI (far fl v n i))), (13, .int (nI (cnt (ivp fl v i) j))), (14, .int (nI j))]) hx hb dL_isSo_326 hl (k := 9) rfl (nI_1 _) (by decide) rfl (fun ls hl => ?_)
                    refine lv_goto (tgt := 18) hx hb dL_isSo_329 (by decide) ?_
                    have el_l4 : mx (far fl v n) (i + 1) = far fl v n i := by first | (rw [mx_s, Nat.max_eq_left (by omega)]; done) | (rw [mx_s, Nat.max_eq_right (by omega)]; done)
                    have el_l5 : cnt (fal fl v n) (i + 1) = (cnt (fal fl v n) i) + 1 := by first | exact cnt_t c176 | exact cnt_f c176
                    have el_l6 : sm (ivo fl v n) (i + 1) = (sm (ivo fl v n) i) + (cnt (ivp fl v i) j) := by rw [sm_s, show j = n by omega]; rfl
                    have el_l7 : bst fl v n b (i + 1) = (bst fl v n b i) ||| ((lN 1) <<< ((nI i).toInt64 &&& 63)) := by first | exact if_pos (decide_eq_true (by omega)) | (rw [lor_0]; exact if_neg (by rw [show brk fl v n b i = false from decide_eq_false (by omega)]; decide))
                    exact ih18 (i + 1) (by omega) (by first | assumption | omega) _ _ (by first | (rw [el_l5, el_l4, el_l6, el_l7]; exact hP) | (simp only [el_l5, el_l4, el_l6, el_l7]; exact hP) | exact hP) (by first | (rw [el_l5, el_l4, el_l6, el_l7]; exact hD) | (simp only [el_l5, el_l4, el_l6, el_l7]; exact hD) | exact hD) hS ls (by first | (rw [el_l5, el_l4, el_l6, el_l7]; exact lv_sub hl [6, 7, 8, 9, 4, 2, 5, 3, 1, 0] rfl) | (simp only [el_l5, el_l4, el_l6, el_l7]; exact lv_sub hl [6, 7, 8, 9, 4, 2, 5, 3, 1, 0] rfl) | exact lv_sub hl [6, 7, 8, 9, 4, 2, 5, 3, 1, 0] rfl)
            · skip
              refine lv_iload hx hb dL_isSo_63 (lv_at hl 12 rfl) ?_
              refine lv_iload hx hb dL_isSo_65 (lv_at hl 13 rfl) ?_
              refine lv_iload hx hb dL_isSo_67 (lv_at hl 9 rfl) ?_
              refine wv_icmp_ge (tgt := 87) hx hb (by omega) (by omega) dL_isSo_69 (by decide) (fun c69 => ?_) (fun c69 => ?_)
              · skip
                refine lv_iload hx hb dL_isSo_87 (lv_at hl 13 rfl) ?_
                refine lv_iload hx hb dL_isSo_89 (lv_at hl 9 rfl) ?_
                refine wv_icmp_le (tgt := 113) hx hb (by omega) (by omega) dL_isSo_91 (by decide) (fun c91 => ?_) (fun c91 => ?_)
                · skip
                  refine lv_iconst (v := nI 0) hx hb dL_isSo_113 (by decide) ?_
                  refine lv_iadd hx hb dL_isSo_114 ?_
                  refine wv_ti (nI_add _ _) ?_
                  refine lv_istore (lv' := [(13, .int (nI ((cnt (ivp fl v i) j) + 0))), (0, .ref x9), (1, .ref g), (2, .ref vv), (3, .ref nn), (4, .int (nI (mx (far fl v n) i))), (5, .int (nI (cnt (fal fl v n) i))), (6, .int (nI (sm (ivo fl v n) i))), (7, .long (bst fl v n b i)), (9, .int (nI 1)), (10, .int (nI i)), (11, .int (dst fl v n i)), (12, .int (nI (far fl v n i))), (14, .int (nI j))]) hx hb dL_isSo_115 hl (by decide) rfl (fun ls hl => ?_)
                  refine lv_iinc (v := nI (j + 1)) (lv' := [(14, .int (nI (j + 1))), (13, .int (nI ((cnt (ivp fl v i) j) + 0))), (0, .ref x9), (1, .ref g), (2, .ref vv), (3, .ref nn), (4, .int (nI (mx (far fl v n) i))), (5, .int (nI (cnt (fal fl v n) i))), (6, .int (nI (sm (ivo fl v n) i))), (7, .long (bst fl v n b i)), (9, .int (nI 1)), (10, .int (nI i)), (11, .int (dst fl v n i)), (12, .int (nI (far fl v n i)))]) hx hb dL_isSo_117 hl (k := 13) rfl (nI_1 _) (by decide) rfl (fun ls hl => ?_)
                  refine lv_goto (tgt := 55) hx hb dL_isSo_120 (by decide) ?_
                  have el_l13 : cnt (ivp fl v i) (j + 1) = (cnt (ivp fl v i) j) + 0 := by first | exact cnt_t (by rw [ivp_lt c69]; exact c84) | exact cnt_f (by rw [ivp_lt c69]; exact c84) | exact cnt_t (by rw [ivp_gt c91]; exact c106) | exact cnt_f (by rw [ivp_gt c91]; exact c106) | (rw [show j = i by omega]; exact cnt_f ivp_eq)
                  exact ih55 (j + 1) (by omega) (by first | assumption | omega) _ _ (by first | (rw [el_l13]; exact hP) | (simp only [el_l13]; exact hP) | exact hP) (by first | (rw [el_l13]; exact hD) | (simp only [el_l13]; exact hD) | exact hD) hS ls (by first | (rw [el_l13]; exact lv_sub hl [2, 3, 4, 5, 6, 7, 8, 9, 10, 11, 12, 13, 1, 0] rfl) | (simp only [el_l13]; exact lv_sub hl [2, 3, 4, 5, 6, 7, 8, 9, 10, 11, 12, 13, 1, 0] rfl) | exact lv_sub hl [2, 3, 4, 5, 6, 7, 8, 9, 10, 11, 12, 13, 1, 0] rfl)
                · skip
                  refine lv_aload_n hx hb dL_isSo_94 rfl (lv_at hl 1 rfl) ?_
                  refine lv_aload_n hx hb dL_isSo_95 rfl (lv_at hl 2 rfl) ?_
                  refine lv_iload hx hb dL_isSo_96 (lv_at hl 13 rfl) ?_
                  refine wv_lald hx hb hK hP 9 0 rfl rfl (k := j) (by omega) (by decide) dL_isSo_98 ?_
                  refine lv_aload_n hx hb dL_isSo_99 rfl (lv_at hl 2 rfl) ?_
                  refine lv_iload hx hb dL_isSo_100 (lv_at hl 9 rfl) ?_
                  refine wv_lald hx hb hK hP 9 0 rfl rfl (k := i) (by omega) (by decide) dL_isSo_102 ?_
                  refine wv_callSi (As := [.ref g, .long (v j), .long (v i)]) (rest := [.int (nI (cnt (ivp fl v i) j))]) ⟨hx, hb, hml, hown, hts⟩ (kL_ahead l D g cI n b fl me st lk cm (v j) (v i)) (va_cwS 3 hts gL_isSo_L_ahead rfl rfl rfl (by decide +kernel) ⟨Nat.le_of_ble_eq_true rfl, Nat.le_of_ble_eq_true rfl⟩) hK hN hP hS hA [8] [1] rfl rfl rfl hl.1 rfl (Nat.le_of_ble_eq_true rfl) dL_isSo_103 ⟨Nat.zero_le _, Nat.zero_le _⟩ (fun H locs hz9 hP hS => ?_)
                  refine wv_ifeqB (tgt := 113) hx hb dL_isSo_106 (by decide) (fun c106 => ?_) (fun c106 => ?_)
                  · skip
                    refine lv_iconst (v := nI 0) hx hb dL_isSo_113 (by decide) ?_
                    refine lv_iadd hx hb dL_isSo_114 ?_
                    refine wv_ti (nI_add _ _) ?_
                    refine lv_istore (lv' := [(13, .int (nI ((cnt (ivp fl v i) j) + 0))), (0, .ref x9), (1, .ref g), (2, .ref vv), (3, .ref nn), (4, .int (nI (mx (far fl v n) i))), (5, .int (nI (cnt (fal fl v n) i))), (6, .int (nI (sm (ivo fl v n) i))), (7, .long (bst fl v n b i)), (9, .int (nI 1)), (10, .int (nI i)), (11, .int (dst fl v n i)), (12, .int (nI (far fl v n i))), (14, .int (nI j))]) hx hb dL_isSo_115 hl (by decide) rfl (fun ls hl => ?_)
                    refine lv_iinc (v := nI (j + 1)) (lv' := [(14, .int (nI (j + 1))), (13, .int (nI ((cnt (ivp fl v i) j) + 0))), (0, .ref x9), (1, .ref g), (2, .ref vv), (3, .ref nn), (4, .int (nI (mx (far fl v n) i))), (5, .int (nI (cnt (fal fl v n) i))), (6, .int (nI (sm (ivo fl v n) i))), (7, .long (bst fl v n b i)), (9, .int (nI 1)), (10, .int (nI i)), (11, .int (dst fl v n i)), (12, .int (nI (far fl v n i)))]) hx hb dL_isSo_117 hl (k := 13) rfl (nI_1 _) (by decide) rfl (fun ls hl => ?_)
                    refine lv_goto (tgt := 55) hx hb dL_isSo_120 (by decide) ?_
                    have el_l13 : cnt (ivp fl v i) (j + 1) = (cnt (ivp fl v i) j) + 0 := by first | exact cnt_t (by rw [ivp_lt c69]; exact c84) | exact cnt_f (by rw [ivp_lt c69]; exact c84) | exact cnt_t (by rw [ivp_gt c91]; exact c106) | exact cnt_f (by rw [ivp_gt c91]; exact c106) | (rw [show j = i by omega]; exact cnt_f ivp_eq)
                    exact ih55 (j + 1) (by omega) (by first | assumption | omega) _ _ (by first | (rw [el_l13]; exact hP) | (simp only [el_l13]; exact hP) | exact hP) (by first | (rw [el_l13]; exact hD) | (simp only [el_l13]; exact hD) | exact hD) hS ls (by first | (rw [el_l13]; exact lv_sub hl [2, 3, 4, 5, 6, 7, 8, 9, 10, 11, 12, 13, 1, 0] rfl) | (simp only [el_l13]; exact lv_sub hl [2, 3, 4, 5, 6, 7, 8, 9, 10, 11, 12, 13, 1, 0] rfl) | exact lv_sub hl [2, 3, 4, 5, 6, 7, 8, 9, 10, 11, 12, 13, 1, 0] rfl)
                  · skip
                    refine lv_iconst (v := nI 1) hx hb dL_isSo_109 (by decide) ?_
                    refine lv_goto (tgt := 114) hx hb dL_isSo_110 (by decide) ?_
                    refine lv_iadd hx hb dL_isSo_114 ?_
                    refine wv_ti (nI_add _ _) ?_
                    refine lv_istore (lv' := [(13, .int (nI ((cnt (ivp fl v i) j) + 1))), (0, .ref x9), (1, .ref g), (2, .ref vv), (3, .ref nn), (4, .int (nI (mx (far fl v n) i))), (5, .int (nI (cnt (fal fl v n) i))), (6, .int (nI (sm (ivo fl v n) i))), (7, .long (bst fl v n b i)), (9, .int (nI 1)), (10, .int (nI i)), (11, .int (dst fl v n i)), (12, .int (nI (far fl v n i))), (14, .int (nI j))]) hx hb dL_isSo_115 hl (by decide) rfl (fun ls hl => ?_)
                    refine lv_iinc (v := nI (j + 1)) (lv' := [(14, .int (nI (j + 1))), (13, .int (nI ((cnt (ivp fl v i) j) + 1))), (0, .ref x9), (1, .ref g), (2, .ref vv), (3, .ref nn), (4, .int (nI (mx (far fl v n) i))), (5, .int (nI (cnt (fal fl v n) i))), (6, .int (nI (sm (ivo fl v n) i))), (7, .long (bst fl v n b i)), (9, .int (nI 1)), (10, .int (nI i)), (11, .int (dst fl v n i)), (12, .int (nI (far fl v n i)))]) hx hb dL_isSo_117 hl (k := 13) rfl (nI_1 _) (by decide) rfl (fun ls hl => ?_)
                    refine lv_goto (tgt := 55) hx hb dL_isSo_120 (by decide) ?_
                    have el_l13 : cnt (ivp fl v i) (j + 1) = (cnt (ivp fl v i) j) + 1 := by first | exact cnt_t (by rw [ivp_lt c69]; exact c84) | exact cnt_f (by rw [ivp_lt c69]; exact c84) | exact cnt_t (by rw [ivp_gt c91]; exact c106) | exact cnt_f (by rw [ivp_gt c91]; exact c106) | (rw [show j = i by omega]; exact cnt_f ivp_eq)
                    exact ih55 (j + 1) (by omega) (by first | assumption | omega) _ _ (by first | (rw [el_l13]; exact hP) | (simp only [el_l13]; exact hP) | exact hP) (by first | (rw [el_l13]; exact hD) | (simp only [el_l13]; exact hD) | exact hD) hS ls (by first | (rw [el_l13]; exact lv_sub hl [2, 3, 4, 5, 6, 7, 8, 9, 10, 11, 12, 13, 1, 0] rfl) | (simp only [el_l13]; exact lv_sub hl [2, 3, 4, 5, 6, 7, 8, 9, 10, 11, 12, 13, 1, 0] rfl) | exact lv_sub hl [2, 3, 4, 5, 6, 7, 8, 9, 10, 11, 12, 13, 1, 0] rfl)
              · skip
                refine lv_aload_n hx hb dL_isSo_72 rfl (lv_at hl 1 rfl) ?_
                refine lv_aload_n hx hb dL_isSo_73 rfl (lv_at hl 2 rfl) ?_
                refine lv_iload hx hb dL_isSo_74 (lv_at hl 9 rfl) ?_
                refine wv_lald hx hb hK hP 9 0 rfl rfl (k := i) (by omega) (by decide) dL_isSo_76 ?_
                refine lv_aload_n hx hb dL_isSo_77 rfl (lv_at hl 2 rfl) ?_
                refine lv_iload hx hb dL_isSo_78 (lv_at hl 13 rfl) ?_
                refine wv_lald hx hb hK hP 9 0 rfl rfl (k := j) (by omega) (by decide) dL_isSo_80 ?_
                refine wv_callSi (As := [.ref g, .long (v i), .long (v j)]) (rest := [.int (nI (cnt (ivp fl v i) j))]) ⟨hx, hb, hml, hown, hts⟩ (kL_ahead l D g cI n b fl me st lk cm (v i) (v j)) (va_cwS 3 hts gL_isSo_L_ahead rfl rfl rfl (by decide +kernel) ⟨Nat.le_of_ble_eq_true rfl, Nat.le_of_ble_eq_true rfl⟩) hK hN hP hS hA [8] [1] rfl rfl rfl hl.1 rfl (Nat.le_of_ble_eq_true rfl) dL_isSo_81 ⟨Nat.zero_le _, Nat.zero_le _⟩ (fun H locs hz9 hP hS => ?_)
                refine wv_ifneB (tgt := 109) hx hb dL_isSo_84 (by decide) (fun c84 => ?_) (fun c84 => ?_)
                · skip
                  refine lv_iconst (v := nI 1) hx hb dL_isSo_109 (by decide) ?_
                  refine lv_goto (tgt := 114) hx hb dL_isSo_110 (by decide) ?_
                  refine lv_iadd hx hb dL_isSo_114 ?_
                  refine wv_ti (nI_add _ _) ?_
                  refine lv_istore (lv' := [(13, .int (nI ((cnt (ivp fl v i) j) + 1))), (0, .ref x9), (1, .ref g), (2, .ref vv), (3, .ref nn), (4, .int (nI (mx (far fl v n) i))), (5, .int (nI (cnt (fal fl v n) i))), (6, .int (nI (sm (ivo fl v n) i))), (7, .long (bst fl v n b i)), (9, .int (nI 1)), (10, .int (nI i)), (11, .int (dst fl v n i)), (12, .int (nI (far fl v n i))), (14, .int (nI j))]) hx hb dL_isSo_115 hl (by decide) rfl (fun ls hl => ?_)
                  refine lv_iinc (v := nI (j + 1)) (lv' := [(14, .int (nI (j + 1))), (13, .int (nI ((cnt (ivp fl v i) j) + 1))), (0, .ref x9), (1, .ref g), (2, .ref vv), (3, .ref nn), (4, .int (nI (mx (far fl v n) i))), (5, .int (nI (cnt (fal fl v n) i))), (6, .int (nI (sm (ivo fl v n) i))), (7, .long (bst fl v n b i)), (9, .int (nI 1)), (10, .int (nI i)), (11, .int (dst fl v n i)), (12, .int (nI (far fl v n i)))]) hx hb dL_isSo_117 hl (k := 13) rfl (nI_1 _) (by decide) rfl (fun ls hl => ?_)
                  refine lv_goto (tgt := 55) hx hb dL_isSo_120 (by decide) ?_
                  have el_l13 : cnt (ivp fl v i) (j + 1) = (cnt (ivp fl v i) j) + 1 := by first | exact cnt_t (by rw [ivp_lt c69]; exact c84) | exact cnt_f (by rw [ivp_lt c69]; exact c84) | exact cnt_t (by rw [ivp_gt c91]; exact c106) | exact cnt_f (by rw [ivp_gt c91]; exact c106) | (rw [show j = i by omega]; exact cnt_f ivp_eq)
                  exact ih55 (j + 1) (by omega) (by first | assumption | omega) _ _ (by first | (rw [el_l13]; exact hP) | (simp only [el_l13]; exact hP) | exact hP) (by first | (rw [el_l13]; exact hD) | (simp only [el_l13]; exact hD) | exact hD) hS ls (by first | (rw [el_l13]; exact lv_sub hl [2, 3, 4, 5, 6, 7, 8, 9, 10, 11, 12, 13, 1, 0] rfl) | (simp only [el_l13]; exact lv_sub hl [2, 3, 4, 5, 6, 7, 8, 9, 10, 11, 12, 13, 1, 0] rfl) | exact lv_sub hl [2, 3, 4, 5, 6, 7, 8, 9, 10, 11, 12, 13, 1, 0] rfl)
                · skip
                  refine lv_iload hx hb dL_isSo_87 (lv_at hl 13 rfl) ?_
                  refine lv_iload hx hb dL_isSo_89 (lv_at hl 9 rfl) ?_
                  refine wv_icmp_le (tgt := 113) hx hb (by omega) (by omega) dL_isSo_91 (by decide) (fun c91 => ?_) (fun c91 => by exfalso; omega)
                  refine lv_iconst (v := nI 0) hx hb dL_isSo_113 (by decide) ?_
                  refine lv_iadd hx hb dL_isSo_114 ?_
                  refine wv_ti (nI_add _ _) ?_
                  refine lv_istore (lv' := [(13, .int (nI ((cnt (ivp fl v i) j) + 0))), (0, .ref x9), (1, .ref g), (2, .ref vv), (3, .ref nn), (4, .int (nI (mx (far fl v n) i))), (5, .int (nI (cnt (fal fl v n) i))), (6, .int (nI (sm (ivo fl v n) i))), (7, .long (bst fl v n b i)), (9, .int (nI 1)), (10, .int (nI i)), (11, .int (dst fl v n i)), (12, .int (nI (far fl v n i))), (14, .int (nI j))]) hx hb dL_isSo_115 hl (by decide) rfl (fun ls hl => ?_)
                  refine lv_iinc (v := nI (j + 1)) (lv' := [(14, .int (nI (j + 1))), (13, .int (nI ((cnt (ivp fl v i) j) + 0))), (0, .ref x9), (1, .ref g), (2, .ref vv), (3, .ref nn), (4, .int (nI (mx (far fl v n) i))), (5, .int (nI (cnt (fal fl v n) i))), (6, .int (nI (sm (ivo fl v n) i))), (7, .long (bst fl v n b i)), (9, .int (nI 1)), (10, .int (nI i)), (11, .int (dst fl v n i)), (12, .int (nI (far fl v n i)))]) hx hb dL_isSo_117 hl (k := 13) rfl (nI_1 _) (by decide) rfl (fun ls hl => ?_)
                  refine lv_goto (tgt := 55) hx hb dL_isSo_120 (by decide) ?_
                  have el_l13 : cnt (ivp fl v i) (j + 1) = (cnt (ivp fl v i) j) + 0 := by first | exact cnt_t (by rw [ivp_lt c69]; exact c84) | exact cnt_f (by rw [ivp_lt c69]; exact c84) | exact cnt_t (by rw [ivp_gt c91]; exact c106) | exact cnt_f (by rw [ivp_gt c91]; exact c106) | (rw [show j = i by omega]; exact cnt_f ivp_eq)
                  exact ih55 (j + 1) (by omega) (by first | assumption | omega) _ _ (by first | (rw [el_l13]; exact hP) | (simp only [el_l13]; exact hP) | exact hP) (by first | (rw [el_l13]; exact hD) | (simp only [el_l13]; exact hD) | exact hD) hS ls (by first | (rw [el_l13]; exact lv_sub hl [2, 3, 4, 5, 6, 7, 8, 9, 10, 11, 12, 13, 1, 0] rfl) | (simp only [el_l13]; exact lv_sub hl [2, 3, 4, 5, 6, 7, 8, 9, 10, 11, 12, 13, 1, 0] rfl) | exact lv_sub hl [2, 3, 4, 5, 6, 7, 8, 9, 10, 11, 12, 13, 1, 0] rfl)
        exact loop55 (n - 0 + 1) 0 (by omega) (by first | assumption | omega) _ _ (by first | (rw [el_l13]; exact hP) | (simp only [el_l13]; exact hP) | exact hP) (by first | (rw [el_l13]; exact hD) | (simp only [el_l13]; exact hD) | exact hD) hS ls (by first | (rw [el_l13]; exact lv_sub hl [4, 5, 6, 7, 8, 9, 10, 11, 12, 13, 3, 2, 1, 0] rfl) | (simp only [el_l13]; exact lv_sub hl [4, 5, 6, 7, 8, 9, 10, 11, 12, 13, 3, 2, 1, 0] rfl) | exact lv_sub hl [4, 5, 6, 7, 8, 9, 10, 11, 12, 13, 3, 2, 1, 0] rfl)
  exact loop18 (n - 0 + 1) 0 (by omega) (by first | assumption | omega) _ _ (by first | (rw [el_l5, el_l4, el_l6, el_l7]; exact hP) | (simp only [el_l5, el_l4, el_l6, el_l7]; exact hP) | exact hP) (by first | (rw [el_l5, el_l4, el_l6, el_l7]; exact hD) | (simp only [el_l5, el_l4, el_l6, el_l7]; exact hD) | exact hD) hS ls (by first | (rw [el_l5, el_l4, el_l6, el_l7]; exact lv_sub hl [6, 7, 8, 9, 5, 4, 3, 2, 1, 0] rfl) | (simp only [el_l5, el_l4, el_l6, el_l7]; exact lv_sub hl [6, 7, 8, 9, 5, 4, 3, 2, 1, 0] rfl) | exact lv_sub hl [6, 7, 8, 9, 5, 4, 3, 2, 1, 0] rfl)

set_option maxHeartbeats 4000000 in
set_option maxRecDepth 100000 in
theorem kL_isSo_out (l : Launch) (D : va_G) (x9 : Nat) (r : Nat) (r2 : Nat) (q : Nat) (co : Nat) (h : Nat) (va : Nat) (na : Nat) (ra : Nat) (cJ : ClassId) (cI : ClassId) (v : Nat → Int64) (nu : Nat → Int32) (rk : Nat → Int32) (n : Nat) (b : Nat) (fl : Bool) (me : Bool) (st : Int32) (lk : Int32) (cm : Int32) (pc1 : Int32) (lk1 : Nat) (lw : Int32) (hg : Int32) (ba : Nat) (cB : ClassId) (tb : Nat → Int32) (ln : Nat) (nx : Nat) (am : Int32) (wd : Value) (nb : Int32) (vl : Int64) (g : Nat) (vv : Nat) (nn : Nat) (hn : n ≤ 32) (hb : b ≤ 31) (hrk : ∀ i, i < n → rk i = nI (rk0 fl v n i)) (hln : ln = 0) (h0 : 0 < cnt (brk fl v n b) n) : MMi l yL_isSo wsL_isSo ({ frames := 8, cells := 0, slots := 0, locals := 170 } : Room) [.ref x9, .ref g, .ref vv, .ref nn] D ((ObjC x9 r r2 q co h) ++ (RowC r va na ra cJ cI v nu rk n b fl me st lk cm) ++ (SrcC q pc1 lk1 lw hg) ++ (CmdC co ba cB tb ln nx am wd nb vl) ++ (GvC g cI n b fl me st lk cm) ++ (VvC vv cJ v) ++ (NnC nn cI nu)) [(cJ, .long), (cI, .int), (cB, .byte)] (bI true) ((ObjC x9 r r2 q co h) ++ (RowC r va na ra cJ cI v nu rk n b fl me st lk cm) ++ (SrcC q pc1 lk1 lw hg) ++ (CmdC co ba cB tb ln nx am wd nb vl) ++ (GvC g cI n b fl me st lk cm) ++ (VvC vv cJ v) ++ (NnC nn cI nu)) := by
  refine MMi_of (cc := cL_isSo) (maxL := 15) (ret := some .boolean) (by decide +kernel) rfl (Nat.le_of_ble_eq_true rfl) ?_
  intro p e s m args below meth c hx hb hr hts hown hlocks hml hP hK hN hD ls hl
  have hown : s.vm.findClass RL = some m.cls := hown
  have hl : lv_has ls 15 [(0, .ref x9), (1, .ref g), (2, .ref vv), (3, .ref nn)] := hl
  have hS : va_S (va_A ((ObjC x9 r r2 q co h) ++ (RowC r va na ra cJ cI v nu rk n b fl me st lk cm) ++ (SrcC q pc1 lk1 lw hg) ++ (CmdC co ba cB tb ln nx am wd nb vl) ++ (GvC g cI n b fl me st lk cm) ++ (VvC vv cJ v) ++ (NnC nn cI nu)) s.heap.size) s.heap s.heap [] := va_S.rf
  have hA := wk_hA ((ObjC x9 r r2 q co h) ++ (RowC r va na ra cJ cI v nu rk n b fl me st lk cm) ++ (SrcC q pc1 lk1 lw hg) ++ (CmdC co ba cB tb ln nx am wd nb vl) ++ (GvC g cI n b fl me st lk cm) ++ (VvC vv cJ v) ++ (NnC nn cI nu)) s.heap.size
  have hD9 : True := trivial
  have hcb : cnt (brk fl v n b) n ≤ n := cnt_le _ n
  refine lv_iconst (v := nI 0) hx hb dL_isSo_0 (by decide) ?_
  refine lv_istore (lv' := [(4, .int (nI 0)), (0, .ref x9), (1, .ref g), (2, .ref vv), (3, .ref nn)]) hx hb dL_isSo_1 hl (by decide) rfl (fun ls hl => ?_)
  refine lv_iconst (v := nI 0) hx hb dL_isSo_3 (by decide) ?_
  refine lv_istore (lv' := [(5, .int (nI 0)), (4, .int (nI 0)), (0, .ref x9), (1, .ref g), (2, .ref vv), (3, .ref nn)]) hx hb dL_isSo_4 hl (by decide) rfl (fun ls hl => ?_)
  refine lv_iconst (v := nI 0) hx hb dL_isSo_6 (by decide) ?_
  refine lv_istore (lv' := [(6, .int (nI 0)), (5, .int (nI 0)), (4, .int (nI 0)), (0, .ref x9), (1, .ref g), (2, .ref vv), (3, .ref nn)]) hx hb dL_isSo_7 hl (by decide) rfl (fun ls hl => ?_)
  refine lv_lconst (v := lN 0) hx hb dL_isSo_9 rfl ?_
  refine lv_lstore (lv' := [(7, .long (lN 0)), (6, .int (nI 0)), (5, .int (nI 0)), (4, .int (nI 0)), (0, .ref x9), (1, .ref g), (2, .ref vv), (3, .ref nn)]) hx hb dL_isSo_10 hl (by decide) rfl (fun ls hl => ?_)
  refine lv_iconst (v := nI 1) hx hb dL_isSo_12 (by decide) ?_
  refine lv_istore (lv' := [(9, .int (nI 1)), (7, .long (lN 0)), (6, .int (nI 0)), (5, .int (nI 0)), (4, .int (nI 0)), (0, .ref x9), (1, .ref g), (2, .ref vv), (3, .ref nn)]) hx hb dL_isSo_13 hl (by decide) rfl (fun ls hl => ?_)
  refine lv_iconst (v := nI 0) hx hb dL_isSo_15 (by decide) ?_
  refine lv_istore (lv' := [(10, .int (nI 0)), (9, .int (nI 1)), (7, .long (lN 0)), (6, .int (nI 0)), (5, .int (nI 0)), (4, .int (nI 0)), (0, .ref x9), (1, .ref g), (2, .ref vv), (3, .ref nn)]) hx hb dL_isSo_16 hl (by decide) rfl (fun ls hl => ?_)
  have el_l4 : mx (far fl v n) 0 = 0 := by rfl
  have el_l5 : cnt (fal fl v n) 0 = 0 := by rfl
  have el_l6 : sm (ivo fl v n) 0 = 0 := by rfl
  have el_l7 : bst fl v n b 0 = lN 0 := by rfl
  have loop18 : ∀ (K : Nat) (i : Nat), n - i < K → i ≤ n → ∀ (H : Heap) (locs : List Loc), va_P D vwCl ((ObjC x9 r r2 q co h) ++ (RowC r va na ra cJ cI v nu rk n b fl me st lk cm) ++ (SrcC q pc1 lk1 lw hg) ++ (CmdC co ba cB tb ln nx am wd nb vl) ++ (GvC g cI n b fl me st lk cm) ++ (VvC vv cJ v) ++ (NnC nn cI nu)) H → va_D (va_A ((ObjC x9 r r2 q co h) ++ (RowC r va na ra cJ cI v nu rk n b fl me st lk cm) ++ (SrcC q pc1 lk1 lw hg) ++ (CmdC co ba cB tb ln nx am wd nb vl) ++ (GvC g cI n b fl me st lk cm) ++ (VvC vv cJ v) ++ (NnC nn cI nu)) s.heap.size) ((ObjC x9 r r2 q co h) ++ (RowC r va na ra cJ cI v nu rk n b fl me st lk cm) ++ (SrcC q pc1 lk1 lw hg) ++ (CmdC co ba cB tb ln nx am wd nb vl) ++ (GvC g cI n b fl me st lk cm) ++ (VvC vv cJ v) ++ (NnC nn cI nu)) → va_S (va_A ((ObjC x9 r r2 q co h) ++ (RowC r va na ra cJ cI v nu rk n b fl me st lk cm) ++ (SrcC q pc1 lk1 lw hg) ++ (CmdC co ba cB tb ln nx am wd nb vl) ++ (GvC g cI n b fl me st lk cm) ++ (VvC vv cJ v) ++ (NnC nn cI nu)) s.heap.size) s.heap H locs → ∀ ls : Array Slot, lv_has ls 15 [(0, .ref x9), (1, .ref g), (2, .ref vv), (3, .ref nn), (4, .int (nI (mx (far fl v n) i))), (5, .int (nI (cnt (fal fl v n) i))), (6, .int (nI (sm (ivo fl v n) i))), (7, .long (bst fl v n b i)), (9, .int (nI 1)), (10, .int (nI i))] → W p l e ({ frames := 8, cells := 0, slots := 0, locals := 170 } : Room) s m args below meth c H locs 0 0 (ZMi below args s D ((ObjC x9 r r2 q co h) ++ (RowC r va na ra cJ cI v nu rk n b fl me st lk cm) ++ (SrcC q pc1 lk1 lw hg) ++ (CmdC co ba cB tb ln nx am wd nb vl) ++ (GvC g cI n b fl me st lk cm) ++ (VvC vv cJ v) ++ (NnC nn cI nu)) (bI true) ((ObjC x9 r r2 q co h) ++ (RowC r va na ra cJ cI v nu rk n b fl me st lk cm) ++ (SrcC q pc1 lk1 lw hg) ++ (CmdC co ba cB tb ln nx am wd nb vl) ++ (GvC g cI n b fl me st lk cm) ++ (VvC vv cJ v) ++ (NnC nn cI nu))) (F0 m 18 ls []) := by
    intro K
    induction K with
    | zero => intro i hK0; exact absurd hK0 (Nat.not_lt_zero _)
    | succ K ih18 =>
      intro i hKm hi H locs hP hD hS ls hl
      refine lv_iload hx hb dL_isSo_18 (lv_at hl 9 rfl) ?_
      refine lv_aload_n hx hb dL_isSo_20 rfl (lv_at hl 1 rfl) ?_
      refine lv_iconst (v := nI 0) hx hb dL_isSo_21 (by decide) ?_
      refine wv_iald hx hb hK hP 8 1 rfl rfl (k := 0) (by omega) (by decide) dL_isSo_22 ?_
      refine wv_ti (y := nI n) rfl ?_
      refine wv_icmp_ge (tgt := 332) hx hb (by omega) (by omega) dL_isSo_23 (by decide) (fun c23 => ?_) (fun c23 => ?_)
      · skip
        have hin : i = n := by omega
        refine lv_aload_n hx hb dL_isSo_332 rfl (lv_at hl 1 rfl) ?_
        refine lv_aload_n hx hb dL_isSo_333 rfl (lv_at hl 2 rfl) ?_
        refine wv_callSi (As := [.ref g, .ref vv]) (rest := []) ⟨hx, hb, hml, hown, hts⟩ (kL_broken l D g cI n b fl me st lk cm vv cJ v (by first | assumption | omega) (by first | assumption | omega)) (va_cwS 2 hts gL_isSo_L_broken rfl rfl rfl (by decide +kernel) ⟨Nat.le_of_ble_eq_true rfl, Nat.le_of_ble_eq_true rfl⟩) hK hN hP hS hA [8, 9] [0, 1] rfl rfl rfl hl.1 rfl (Nat.le_of_ble_eq_true rfl) dL_isSo_334 ⟨Nat.zero_le _, Nat.zero_le _⟩ (fun H locs hz9 hP hS => ?_)
        refine lv_istore (lv' := [(10, .int (nI (cnt (brk fl v n b) n))), (0, .ref x9), (1, .ref g), (2, .ref vv), (3, .ref nn), (4, .int (nI (mx (far fl v n) i))), (5, .int (nI (cnt (fal fl v n) i))), (6, .int (nI (sm (ivo fl v n) i))), (7, .long (bst fl v n b i)), (9, .int (nI 1))]) hx hb dL_isSo_337 hl (by decide) rfl (fun ls hl => ?_)
        refine lv_iload hx hb dL_isSo_339 (lv_at hl 9 rfl) ?_
        refine lv_if_eq (tgt := 437) hx hb dL_isSo_341 (by decide) (fun h => absurd h (by decide)) (fun _ => ?_)
        refine lv_aload_n hx hb dL_isSo_344 rfl (lv_at hl 1 rfl) ?_
        refine wv_callPl (As := []) (rest := []) ⟨hx, hb, hml, hown, hts⟩ (kX6_broken l D x9 r r2 q co h va na ra cJ cI v nu rk n b fl me st lk cm (by first | assumption | omega) (by first | assumption | omega) (by first | assumption | omega)) (cwV 0 hts gL_isSo_X6_broken rfl rfl rfl (by decide +kernel) ⟨Nat.le_of_ble_eq_true rfl, Nat.le_of_ble_eq_true rfl⟩) hK hN hP hS hA [0, 1, 2, 3, 4] [0, 1] rfl rfl 0 4 rfl rfl rfl rfl hl.1 rfl (Nat.le_of_ble_eq_true rfl) dL_isSo_345 ⟨Nat.zero_le _, Nat.zero_le _⟩ (fun H locs hz9 hP hS => ?_)
        refine lv_lload hx hb dL_isSo_348 (lv_at hl 8 rfl) ?_
        refine wv_lc_ne (tgt := 437) hx hb dL_isSo_350 dL_isSo_351 (by decide) (fun c351 => by exfalso; exact c351 (by rw [hin])) (fun c351 => ?_)
        refine lv_iload hx hb dL_isSo_354 (lv_at hl 0 rfl) ?_
        refine wv_if_gt (tgt := 366) hx hb (by omega) dL_isSo_356 (by decide) (fun c356 => ?_) (fun c356 => by exfalso; omega)
        refine lv_aload_n hx hb dL_isSo_366 rfl (lv_at hl 1 rfl) ?_
        refine lv_iconst (v := nI 0) hx hb dL_isSo_367 (by decide) ?_
        refine wv_callSWPi (As := [.ref x9, .int (nI 0)]) (rest := []) ⟨hx, hb, hml, hown, hts⟩ (kL_wholeOf l D x9 r r2 q co h va na ra cJ cI v nu rk n b fl me st lk cm ba cB tb ln nx am wd nb vl 0 (by first | assumption | omega) (by first | assumption | omega) (by first | assumption | omega) (by first | assumption | omega)) (vx_cwSW 2 hts gL_isSo_L_wholeOf rfl rfl rfl (by decide +kernel) ⟨Nat.le_of_ble_eq_true rfl, Nat.le_of_ble_eq_true rfl⟩) hK hN hP hS hA [0, 1, 2, 3, 4, 6, 7] [0, 1, 2] rfl rfl rfl hl.1 rfl (Nat.le_of_ble_eq_true rfl) dL_isSo_368 ⟨Nat.zero_le _, Nat.zero_le _⟩ (fun H locs hz9 hP hS => ?_)
        refine lv_aload_n hx hb dL_isSo_371 rfl (lv_at hl 2 rfl) ?_
        refine lv_iconst (v := nI 0) hx hb dL_isSo_372 (by decide) ?_
        refine wv_iald hx hb hK hP 8 1 rfl rfl (k := 0) (by omega) (by decide) dL_isSo_373 ?_
        refine wv_ti (y := nI n) rfl ?_
        refine lv_icmp_ne (tgt := 437) hx hb dL_isSo_374 (by decide) (fun c374 => by exfalso; exact c374 rfl) (fun c374 => ?_)
        refine lv_aload_n hx hb dL_isSo_377 rfl (lv_at hl 1 rfl) ?_
        refine lv_iconst (v := nI 1) hx hb dL_isSo_378 (by decide) ?_
        refine wv_callSWPi (As := [.ref x9, .int (nI 1)]) (rest := []) ⟨hx, hb, hml, hown, hts⟩ (kL_wholeOf l D x9 r r2 q co h va na ra cJ cI v nu rk n b fl me st lk cm ba cB tb ln nx am wd nb vl 1 (by first | assumption | omega) (by first | assumption | omega) (by first | assumption | omega) (by first | assumption | omega)) (vx_cwSW 2 hts gL_isSo_L_wholeOf rfl rfl rfl (by decide +kernel) ⟨Nat.le_of_ble_eq_true rfl, Nat.le_of_ble_eq_true rfl⟩) hK hN hP hS hA [0, 1, 2, 3, 4, 6, 7] [0, 1, 2] rfl rfl rfl hl.1 rfl (Nat.le_of_ble_eq_true rfl) dL_isSo_379 ⟨Nat.zero_le _, Nat.zero_le _⟩ (fun H locs hz9 hP hS => ?_)
        refine lv_aload_n hx hb dL_isSo_382 rfl (lv_at hl 2 rfl) ?_
        refine lv_iconst (v := nI 1) hx hb dL_isSo_383 (by decide) ?_
        refine wv_iald hx hb hK hP 8 1 rfl rfl (k := 1) (by omega) (by decide) dL_isSo_384 ?_
        refine wv_ti (y := nI b) rfl ?_
        refine lv_icmp_ne (tgt := 437) hx hb dL_isSo_385 (by decide) (fun c385 => by exfalso; exact c385 rfl) (fun c385 => ?_)
        refine lv_aload_n hx hb dL_isSo_388 rfl (lv_at hl 1 rfl) ?_
        refine lv_iconst (v := nI 2) hx hb dL_isSo_389 (by decide) ?_
        refine wv_callSWPi (As := [.ref x9, .int (nI 2)]) (rest := []) ⟨hx, hb, hml, hown, hts⟩ (kL_wholeOf l D x9 r r2 q co h va na ra cJ cI v nu rk n b fl me st lk cm ba cB tb ln nx am wd nb vl 2 (by first | assumption | omega) (by first | assumption | omega) (by first | assumption | omega) (by first | assumption | omega)) (vx_cwSW 2 hts gL_isSo_L_wholeOf rfl rfl rfl (by decide +kernel) ⟨Nat.le_of_ble_eq_true rfl, Nat.le_of_ble_eq_true rfl⟩) hK hN hP hS hA [0, 1, 2, 3, 4, 6, 7] [0, 1, 2] rfl rfl rfl hl.1 rfl (Nat.le_of_ble_eq_true rfl) dL_isSo_390 ⟨Nat.zero_le _, Nat.zero_le _⟩ (fun H locs hz9 hP hS => ?_)
        refine lv_aload_n hx hb dL_isSo_393 rfl (lv_at hl 2 rfl) ?_
        refine lv_iconst (v := nI 2) hx hb dL_isSo_394 (by decide) ?_
        refine wv_iald hx hb hK hP 8 1 rfl rfl (k := 2) (by omega) (by decide) dL_isSo_395 ?_
        refine wv_ti (y := bI fl) rfl ?_
        refine lv_icmp_ne (tgt := 437) hx hb dL_isSo_396 (by decide) (fun c396 => by exfalso; exact c396 rfl) (fun c396 => ?_)
        refine lv_aload_n hx hb dL_isSo_399 rfl (lv_at hl 1 rfl) ?_
        refine lv_iconst (v := nI 3) hx hb dL_isSo_400 (by decide) ?_
        refine wv_callSWPi (As := [.ref x9, .int (nI 3)]) (rest := []) ⟨hx, hb, hml, hown, hts⟩ (kL_wholeOf l D x9 r r2 q co h va na ra cJ cI v nu rk n b fl me st lk cm ba cB tb ln nx am wd nb vl 3 (by first | assumption | omega) (by first | assumption | omega) (by first | assumption | omega) (by first | assumption | omega)) (vx_cwSW 2 hts gL_isSo_L_wholeOf rfl rfl rfl (by decide +kernel) ⟨Nat.le_of_ble_eq_true rfl, Nat.le_of_ble_eq_true rfl⟩) hK hN hP hS hA [0, 1, 2, 3, 4, 6, 7] [0, 1, 2] rfl rfl rfl hl.1 rfl (Nat.le_of_ble_eq_true rfl) dL_isSo_401 ⟨Nat.zero_le _, Nat.zero_le _⟩ (fun H locs hz9 hP hS => ?_)
        refine lv_aload_n hx hb dL_isSo_404 rfl (lv_at hl 2 rfl) ?_
        refine lv_iconst (v := nI 3) hx hb dL_isSo_405 (by decide) ?_
        refine wv_iald hx hb hK hP 8 1 rfl rfl (k := 3) (by omega) (by decide) dL_isSo_406 ?_
        refine wv_ti (y := bI me) rfl ?_
        refine lv_icmp_ne (tgt := 437) hx hb dL_isSo_407 (by decide) (fun c407 => by exfalso; exact c407 rfl) (fun c407 => ?_)
        refine lv_aload_n hx hb dL_isSo_410 rfl (lv_at hl 1 rfl) ?_
        refine lv_iconst (v := nI 4) hx hb dL_isSo_411 (by decide) ?_
        refine wv_callSWPi (As := [.ref x9, .int (nI 4)]) (rest := []) ⟨hx, hb, hml, hown, hts⟩ (kL_wholeOf l D x9 r r2 q co h va na ra cJ cI v nu rk n b fl me st lk cm ba cB tb ln nx am wd nb vl 4 (by first | assumption | omega) (by first | assumption | omega) (by first | assumption | omega) (by first | assumption | omega)) (vx_cwSW 2 hts gL_isSo_L_wholeOf rfl rfl rfl (by decide +kernel) ⟨Nat.le_of_ble_eq_true rfl, Nat.le_of_ble_eq_true rfl⟩) hK hN hP hS hA [0, 1, 2, 3, 4, 6, 7] [0, 1, 2] rfl rfl rfl hl.1 rfl (Nat.le_of_ble_eq_true rfl) dL_isSo_412 ⟨Nat.zero_le _, Nat.zero_le _⟩ (fun H locs hz9 hP hS => ?_)
        refine lv_iload hx hb dL_isSo_415 (lv_at hl 0 rfl) ?_
        refine lv_icmp_ne (tgt := 437) hx hb dL_isSo_417 (by decide) (fun c417 => by exfalso; exact c417 rfl) (fun c417 => ?_)
        refine lv_aload_n hx hb dL_isSo_420 rfl (lv_at hl 1 rfl) ?_
        refine lv_iconst (v := nI 5) hx hb dL_isSo_421 (by decide) ?_
        refine wv_callSWPi (As := [.ref x9, .int (nI 5)]) (rest := []) ⟨hx, hb, hml, hown, hts⟩ (kL_wholeOf l D x9 r r2 q co h va na ra cJ cI v nu rk n b fl me st lk cm ba cB tb ln nx am wd nb vl 5 (by first | assumption | omega) (by first | assumption | omega) (by first | assumption | omega) (by first | assumption | omega)) (vx_cwSW 2 hts gL_isSo_L_wholeOf rfl rfl rfl (by decide +kernel) ⟨Nat.le_of_ble_eq_true rfl, Nat.le_of_ble_eq_true rfl⟩) hK hN hP hS hA [0, 1, 2, 3, 4, 6, 7] [0, 1, 2] rfl rfl rfl hl.1 rfl (Nat.le_of_ble_eq_true rfl) dL_isSo_422 ⟨Nat.zero_le _, Nat.zero_le _⟩ (fun H locs hz9 hP hS => ?_)
        refine lv_aload_n hx hb dL_isSo_425 rfl (lv_at hl 2 rfl) ?_
        refine lv_aload_n hx hb dL_isSo_426 rfl (lv_at hl 3 rfl) ?_
        refine wv_callSi (As := [.ref g, .ref vv]) (rest := [.int (whV fl me v n b st lk cm ln 5)]) ⟨hx, hb, hml, hown, hts⟩ (kL_inversions l D g cI n b fl me st lk cm vv cJ v (by first | assumption | omega)) (va_cwS 2 hts gL_isSo_L_inversions rfl rfl rfl (by decide +kernel) ⟨Nat.le_of_ble_eq_true rfl, Nat.le_of_ble_eq_true rfl⟩) hK hN hP hS hA [8, 9] [0, 1] rfl rfl rfl hl.1 rfl (Nat.le_of_ble_eq_true rfl) dL_isSo_427 ⟨Nat.zero_le _, Nat.zero_le _⟩ (fun H locs hz9 hP hS => ?_)
        refine lv_icmp_ne (tgt := 437) hx hb dL_isSo_430 (by decide) (fun c430 => by exfalso; exact c430 (congrArg nI (ivs_tin fl v n))) (fun c430 => ?_)
        refine lv_iconst (v := nI 1) hx hb dL_isSo_433 (by decide) ?_
        refine lv_goto (tgt := 438) hx hb dL_isSo_434 (by decide) ?_
        refine lv_istore (lv' := [(9, .int (nI 1)), (10, .int (nI (cnt (brk fl v n b) n))), (0, .ref x9), (1, .ref g), (2, .ref vv), (3, .ref nn), (4, .int (nI (mx (far fl v n) i))), (5, .int (nI (cnt (fal fl v n) i))), (6, .int (nI (sm (ivo fl v n) i))), (7, .long (bst fl v n b i))]) hx hb dL_isSo_438 hl (by decide) rfl (fun ls hl => ?_)
        refine lv_iload hx hb dL_isSo_440 (lv_at hl 0 rfl) ?_
        refine lv_if_eq (tgt := 529) hx hb dL_isSo_442 (by decide) (fun h => absurd h (by decide)) (fun _ => ?_)
        refine lv_iconst (v := nI 2) hx hb dL_isSo_445 (by decide) ?_
        refine lv_aload_n hx hb dL_isSo_446 rfl (lv_at hl 2 rfl) ?_
        refine lv_iconst (v := nI 5) hx hb dL_isSo_447 (by decide) ?_
        refine wv_callSWPi (As := [.ref x9, .int (nI 5)]) (rest := [.int (nI 2)]) ⟨hx, hb, hml, hown, hts⟩ (kL_wholeOf l D x9 r r2 q co h va na ra cJ cI v nu rk n b fl me st lk cm ba cB tb ln nx am wd nb vl 5 (by first | assumption | omega) (by first | assumption | omega) (by first | assumption | omega) (by first | assumption | omega)) (vx_cwSW 2 hts gL_isSo_L_wholeOf rfl rfl rfl (by decide +kernel) ⟨Nat.le_of_ble_eq_true rfl, Nat.le_of_ble_eq_true rfl⟩) hK hN hP hS hA [0, 1, 2, 3, 4, 6, 7] [0, 1, 2] rfl rfl rfl hl.1 rfl (Nat.le_of_ble_eq_true rfl) dL_isSo_448 ⟨Nat.zero_le _, Nat.zero_le _⟩ (fun H locs hz9 hP hS => ?_)
        refine lv_imul hx hb dL_isSo_451 ?_
        refine lv_iload hx hb dL_isSo_452 (lv_at hl 8 rfl) ?_
        refine lv_icmp_ne (tgt := 529) hx hb dL_isSo_454 (by decide) (fun c454 => by exfalso; exact c454 (by show nI 2 * nI (ivs fl v n) = _; rw [pk_mul, hin, ivo_tin, ivs_tin])) (fun c454 => ?_)
        refine lv_aload_n hx hb dL_isSo_457 rfl (lv_at hl 2 rfl) ?_
        refine lv_bipush (v := nI 6) hx hb dL_isSo_458 (by decide) ?_
        refine wv_callSWPi (As := [.ref x9, .int (nI 6)]) (rest := []) ⟨hx, hb, hml, hown, hts⟩ (kL_wholeOf l D x9 r r2 q co h va na ra cJ cI v nu rk n b fl me st lk cm ba cB tb ln nx am wd nb vl 6 (by first | assumption | omega) (by first | assumption | omega) (by first | assumption | omega) (by first | assumption | omega)) (vx_cwSW 2 hts gL_isSo_L_wholeOf rfl rfl rfl (by decide +kernel) ⟨Nat.le_of_ble_eq_true rfl, Nat.le_of_ble_eq_true rfl⟩) hK hN hP hS hA [0, 1, 2, 3, 4, 6, 7] [0, 1, 2] rfl rfl rfl hl.1 rfl (Nat.le_of_ble_eq_true rfl) dL_isSo_460 ⟨Nat.zero_le _, Nat.zero_le _⟩ (fun H locs hz9 hP hS => ?_)
        refine lv_iload hx hb dL_isSo_463 (lv_at hl 7 rfl) ?_
        refine lv_icmp_ne (tgt := 529) hx hb dL_isSo_465 (by decide) (fun c465 => by exfalso; exact c465 (by rw [hin]; rfl)) (fun c465 => ?_)
        refine lv_aload_n hx hb dL_isSo_468 rfl (lv_at hl 2 rfl) ?_
        refine lv_bipush (v := nI 7) hx hb dL_isSo_469 (by decide) ?_
        refine wv_callSWPi (As := [.ref x9, .int (nI 7)]) (rest := []) ⟨hx, hb, hml, hown, hts⟩ (kL_wholeOf l D x9 r r2 q co h va na ra cJ cI v nu rk n b fl me st lk cm ba cB tb ln nx am wd nb vl 7 (by first | assumption | omega) (by first | assumption | omega) (by first | assumption | omega) (by first | assumption | omega)) (vx_cwSW 2 hts gL_isSo_L_wholeOf rfl rfl rfl (by decide +kernel) ⟨Nat.le_of_ble_eq_true rfl, Nat.le_of_ble_eq_true rfl⟩) hK hN hP hS hA [0, 1, 2, 3, 4, 6, 7] [0, 1, 2] rfl rfl rfl hl.1 rfl (Nat.le_of_ble_eq_true rfl) dL_isSo_471 ⟨Nat.zero_le _, Nat.zero_le _⟩ (fun H locs hz9 hP hS => ?_)
        refine lv_aload_n hx hb dL_isSo_474 rfl (lv_at hl 3 rfl) ?_
        refine lv_iconst (v := nI 4) hx hb dL_isSo_475 (by decide) ?_
        refine wv_iald hx hb hK hP 8 1 rfl rfl (k := 4) (by omega) (by decide) dL_isSo_476 ?_
        refine wv_ti (y := st) rfl ?_
        refine lv_icmp_ne (tgt := 529) hx hb dL_isSo_477 (by decide) (fun c477 => by exfalso; exact c477 rfl) (fun c477 => ?_)
        refine lv_aload_n hx hb dL_isSo_480 rfl (lv_at hl 2 rfl) ?_
        refine lv_bipush (v := nI 8) hx hb dL_isSo_481 (by decide) ?_
        refine wv_callSWPi (As := [.ref x9, .int (nI 8)]) (rest := []) ⟨hx, hb, hml, hown, hts⟩ (kL_wholeOf l D x9 r r2 q co h va na ra cJ cI v nu rk n b fl me st lk cm ba cB tb ln nx am wd nb vl 8 (by first | assumption | omega) (by first | assumption | omega) (by first | assumption | omega) (by first | assumption | omega)) (vx_cwSW 2 hts gL_isSo_L_wholeOf rfl rfl rfl (by decide +kernel) ⟨Nat.le_of_ble_eq_true rfl, Nat.le_of_ble_eq_true rfl⟩) hK hN hP hS hA [0, 1, 2, 3, 4, 6, 7] [0, 1, 2] rfl rfl rfl hl.1 rfl (Nat.le_of_ble_eq_true rfl) dL_isSo_483 ⟨Nat.zero_le _, Nat.zero_le _⟩ (fun H locs hz9 hP hS => ?_)
        refine lv_aload_n hx hb dL_isSo_486 rfl (lv_at hl 3 rfl) ?_
        refine lv_iconst (v := nI 5) hx hb dL_isSo_487 (by decide) ?_
        refine wv_iald hx hb hK hP 8 1 rfl rfl (k := 5) (by omega) (by decide) dL_isSo_488 ?_
        refine wv_ti (y := lk) rfl ?_
        refine lv_icmp_ne (tgt := 529) hx hb dL_isSo_489 (by decide) (fun c489 => by exfalso; exact c489 rfl) (fun c489 => ?_)
        refine lv_aload_n hx hb dL_isSo_492 rfl (lv_at hl 2 rfl) ?_
        refine lv_bipush (v := nI 9) hx hb dL_isSo_493 (by decide) ?_
        refine wv_callSWPi (As := [.ref x9, .int (nI 9)]) (rest := []) ⟨hx, hb, hml, hown, hts⟩ (kL_wholeOf l D x9 r r2 q co h va na ra cJ cI v nu rk n b fl me st lk cm ba cB tb ln nx am wd nb vl 9 (by first | assumption | omega) (by first | assumption | omega) (by first | assumption | omega) (by first | assumption | omega)) (vx_cwSW 2 hts gL_isSo_L_wholeOf rfl rfl rfl (by decide +kernel) ⟨Nat.le_of_ble_eq_true rfl, Nat.le_of_ble_eq_true rfl⟩) hK hN hP hS hA [0, 1, 2, 3, 4, 6, 7] [0, 1, 2] rfl rfl rfl hl.1 rfl (Nat.le_of_ble_eq_true rfl) dL_isSo_495 ⟨Nat.zero_le _, Nat.zero_le _⟩ (fun H locs hz9 hP hS => ?_)
        refine lv_aload_n hx hb dL_isSo_498 rfl (lv_at hl 3 rfl) ?_
        refine lv_bipush (v := nI 6) hx hb dL_isSo_499 (by decide) ?_
        refine wv_iald hx hb hK hP 8 1 rfl rfl (k := 6) (by omega) (by decide) dL_isSo_501 ?_
        refine wv_ti (y := cm) rfl ?_
        refine lv_icmp_ne (tgt := 529) hx hb dL_isSo_502 (by decide) (fun c502 => by exfalso; exact c502 rfl) (fun c502 => ?_)
        refine lv_aload_n hx hb dL_isSo_505 rfl (lv_at hl 2 rfl) ?_
        refine lv_bipush (v := nI 10) hx hb dL_isSo_506 (by decide) ?_
        refine wv_callSWPi (As := [.ref x9, .int (nI 10)]) (rest := []) ⟨hx, hb, hml, hown, hts⟩ (kL_wholeOf l D x9 r r2 q co h va na ra cJ cI v nu rk n b fl me st lk cm ba cB tb ln nx am wd nb vl 10 (by first | assumption | omega) (by first | assumption | omega) (by first | assumption | omega) (by first | assumption | omega)) (vx_cwSW 2 hts gL_isSo_L_wholeOf rfl rfl rfl (by decide +kernel) ⟨Nat.le_of_ble_eq_true rfl, Nat.le_of_ble_eq_true rfl⟩) hK hN hP hS hA [0, 1, 2, 3, 4, 6, 7] [0, 1, 2] rfl rfl rfl hl.1 rfl (Nat.le_of_ble_eq_true rfl) dL_isSo_508 ⟨Nat.zero_le _, Nat.zero_le _⟩ (fun H locs hz9 hP hS => ?_)
        refine lv_iload hx hb dL_isSo_511 (lv_at hl 6 rfl) ?_
        refine lv_icmp_ne (tgt := 529) hx hb dL_isSo_513 (by decide) (fun c513 => by exfalso; exact c513 (by rw [hin]; rfl)) (fun c513 => ?_)
        refine lv_aload_n hx hb dL_isSo_516 rfl (lv_at hl 2 rfl) ?_
        refine lv_bipush (v := nI 11) hx hb dL_isSo_517 (by decide) ?_
        refine wv_callSWPi (As := [.ref x9, .int (nI 11)]) (rest := []) ⟨hx, hb, hml, hown, hts⟩ (kL_wholeOf l D x9 r r2 q co h va na ra cJ cI v nu rk n b fl me st lk cm ba cB tb ln nx am wd nb vl 11 (by first | assumption | omega) (by first | assumption | omega) (by first | assumption | omega) (by first | assumption | omega)) (vx_cwSW 2 hts gL_isSo_L_wholeOf rfl rfl rfl (by decide +kernel) ⟨Nat.le_of_ble_eq_true rfl, Nat.le_of_ble_eq_true rfl⟩) hK hN hP hS hA [0, 1, 2, 3, 4, 6, 7] [0, 1, 2] rfl rfl rfl hl.1 rfl (Nat.le_of_ble_eq_true rfl) dL_isSo_519 ⟨Nat.zero_le _, Nat.zero_le _⟩ (fun H locs hz9 hP hS => ?_)
        refine lv_if_ne (tgt := 529) hx hb dL_isSo_522 (by decide) (fun c522 => by exfalso; exact c522 (by show nI ln = 0; rw [hln]; rfl)) (fun c522 => ?_)
        refine lv_iconst (v := nI 1) hx hb dL_isSo_525 (by decide) ?_
        refine lv_goto (tgt := 530) hx hb dL_isSo_526 (by decide) ?_
        exact wv_zretM (b := true) hx hb hr hlocks hP hD hS rfl (by rfl) rfl dL_isSo_530
      · skip
        have hfi := far_le (fl := fl) (v := v) (n := n) (k := i) (by omega)
        have hmi : mx (far fl v n) i ≤ n := mx_le (fun k hk => far_le (by omega))
        obtain ⟨p1, hp, hp1, hpv⟩ := rk_first (v := v) (p := i) hn hrk (by omega)
        refine lv_iload hx hb dL_isSo_26 (lv_at hl 8 rfl) ?_
        refine lv_if_eq (tgt := 332) hx hb dL_isSo_28 (by decide) (fun h => absurd h (by decide)) (fun _ => ?_)
        refine lv_aload_n hx hb dL_isSo_31 rfl (lv_at hl 1 rfl) ?_
        refine lv_aload_n hx hb dL_isSo_32 rfl (lv_at hl 2 rfl) ?_
        refine lv_iload hx hb dL_isSo_33 (lv_at hl 9 rfl) ?_
        refine wv_callSi (As := [.ref g, .ref vv, .int (nI i)]) (rest := []) ⟨hx, hb, hml, hown, hts⟩ (kL_off l D g cI n b fl me st lk cm vv cJ v i (by first | assumption | omega) (by first | assumption | omega)) (va_cwS 3 hts gL_isSo_L_off rfl rfl rfl (by decide +kernel) ⟨Nat.le_of_ble_eq_true rfl, Nat.le_of_ble_eq_true rfl⟩) hK hN hP hS hA [8, 9] [0, 1] rfl rfl rfl hl.1 rfl (Nat.le_of_ble_eq_true rfl) dL_isSo_35 ⟨Nat.zero_le _, Nat.zero_le _⟩ (fun H locs hz9 hP hS => ?_)
        refine lv_istore (lv' := [(11, .int (dst fl v n i)), (0, .ref x9), (1, .ref g), (2, .ref vv), (3, .ref nn), (4, .int (nI (mx (far fl v n) i))), (5, .int (nI (cnt (fal fl v n) i))), (6, .int (nI (sm (ivo fl v n) i))), (7, .long (bst fl v n b i)), (9, .int (nI 1)), (10, .int (nI i))]) hx hb dL_isSo_38 hl (by decide) rfl (fun ls hl => ?_)
        refine lv_aload_n hx hb dL_isSo_40 rfl (lv_at hl 2 rfl) ?_
        refine lv_aload_n hx hb dL_isSo_41 rfl (lv_at hl 3 rfl) ?_
        refine lv_iload hx hb dL_isSo_42 (lv_at hl 10 rfl) ?_
        refine wv_callSi (As := [.ref g, .ref vv, .int (nI i)]) (rest := []) ⟨hx, hb, hml, hown, hts⟩ (kL_far l D g cI n b fl me st lk cm vv cJ v i (by first | assumption | omega) (by first | assumption | omega)) (va_cwS 3 hts gL_isSo_L_far rfl rfl rfl (by decide +kernel) ⟨Nat.le_of_ble_eq_true rfl, Nat.le_of_ble_eq_true rfl⟩) hK hN hP hS hA [8, 9] [0, 1] rfl rfl rfl hl.1 rfl (Nat.le_of_ble_eq_true rfl) dL_isSo_44 ⟨Nat.zero_le _, Nat.zero_le _⟩ (fun H locs hz9 hP hS => ?_)
        refine lv_istore (lv' := [(12, .int (nI (far fl v n i))), (11, .int (dst fl v n i)), (0, .ref x9), (1, .ref g), (2, .ref vv), (3, .ref nn), (4, .int (nI (mx (far fl v n) i))), (5, .int (nI (cnt (fal fl v n) i))), (6, .int (nI (sm (ivo fl v n) i))), (7, .long (bst fl v n b i)), (9, .int (nI 1)), (10, .int (nI i))]) hx hb dL_isSo_47 hl (by decide) rfl (fun ls hl => ?_)
        refine lv_iconst (v := nI 0) hx hb dL_isSo_49 (by decide) ?_
        refine lv_istore (lv' := [(13, .int (nI 0)), (12, .int (nI (far fl v n i))), (11, .int (dst fl v n i)), (0, .ref x9), (1, .ref g), (2, .ref vv), (3, .ref nn), (4, .int (nI (mx (far fl v n) i))), (5, .int (nI (cnt (fal fl v n) i))), (6, .int (nI (sm (ivo fl v n) i))), (7, .long (bst fl v n b i)), (9, .int (nI 1)), (10, .int (nI i))]) hx hb dL_isSo_50 hl (by decide) rfl (fun ls hl => ?_)
        refine lv_iconst (v := nI 0) hx hb dL_isSo_52 (by decide) ?_
        refine lv_istore (lv' := [(14, .int (nI 0)), (13, .int (nI 0)), (12, .int (nI (far fl v n i))), (11, .int (dst fl v n i)), (0, .ref x9), (1, .ref g), (2, .ref vv), (3, .ref nn), (4, .int (nI (mx (far fl v n) i))), (5, .int (nI (cnt (fal fl v n) i))), (6, .int (nI (sm (ivo fl v n) i))), (7, .long (bst fl v n b i)), (9, .int (nI 1)), (10, .int (nI i))]) hx hb dL_isSo_53 hl (by decide) rfl (fun ls hl => ?_)
        have el_l13 : cnt (ivp fl v i) 0 = 0 := by rfl
        have loop55 : ∀ (K : Nat) (j : Nat), n - j < K → j ≤ n → ∀ (H : Heap) (locs : List Loc), va_P D vwCl ((ObjC x9 r r2 q co h) ++ (RowC r va na ra cJ cI v nu rk n b fl me st lk cm) ++ (SrcC q pc1 lk1 lw hg) ++ (CmdC co ba cB tb ln nx am wd nb vl) ++ (GvC g cI n b fl me st lk cm) ++ (VvC vv cJ v) ++ (NnC nn cI nu)) H → va_D (va_A ((ObjC x9 r r2 q co h) ++ (RowC r va na ra cJ cI v nu rk n b fl me st lk cm) ++ (SrcC q pc1 lk1 lw hg) ++ (CmdC co ba cB tb ln nx am wd nb vl) ++ (GvC g cI n b fl me st lk cm) ++ (VvC vv cJ v) ++ (NnC nn cI nu)) s.heap.size) ((ObjC x9 r r2 q co h) ++ (RowC r va na ra cJ cI v nu rk n b fl me st lk cm) ++ (SrcC q pc1 lk1 lw hg) ++ (CmdC co ba cB tb ln nx am wd nb vl) ++ (GvC g cI n b fl me st lk cm) ++ (VvC vv cJ v) ++ (NnC nn cI nu)) → va_S (va_A ((ObjC x9 r r2 q co h) ++ (RowC r va na ra cJ cI v nu rk n b fl me st lk cm) ++ (SrcC q pc1 lk1 lw hg) ++ (CmdC co ba cB tb ln nx am wd nb vl) ++ (GvC g cI n b fl me st lk cm) ++ (VvC vv cJ v) ++ (NnC nn cI nu)) s.heap.size) s.heap H locs → ∀ ls : Array Slot, lv_has ls 15 [(0, .ref x9), (1, .ref g), (2, .ref vv), (3, .ref nn), (4, .int (nI (mx (far fl v n) i))), (5, .int (nI (cnt (fal fl v n) i))), (6, .int (nI (sm (ivo fl v n) i))), (7, .long (bst fl v n b i)), (9, .int (nI 1)), (10, .int (nI i)), (11, .int (dst fl v n i)), (12, .int (nI (far fl v n i))), (13, .int (nI (cnt (ivp fl v i) j))), (14, .int (nI j))] → W p l e ({ frames := 8, cells := 0, slots := 0, locals := 170 } : Room) s m args below meth c H locs 0 0 (ZMi below args s D ((ObjC x9 r r2 q co h) ++ (RowC r va na ra cJ cI v nu rk n b fl me st lk cm) ++ (SrcC q pc1 lk1 lw hg) ++ (CmdC co ba cB tb ln nx am wd nb vl) ++ (GvC g cI n b fl me st lk cm) ++ (VvC vv cJ v) ++ (NnC nn cI nu)) (bI true) ((ObjC x9 r r2 q co h) ++ (RowC r va na ra cJ cI v nu rk n b fl me st lk cm) ++ (SrcC q pc1 lk1 lw hg) ++ (CmdC co ba cB tb ln nx am wd nb vl) ++ (GvC g cI n b fl me st lk cm) ++ (VvC vv cJ v) ++ (NnC nn cI nu))) (F0 m 55 ls []) := by
          intro K
          induction K with
          | zero => intro j hK0; exact absurd hK0 (Nat.not_lt_zero _)
          | succ K ih55 =>
            intro j hKm hj H locs hP hD hS ls hl
            refine lv_iload hx hb dL_isSo_55 (lv_at hl 13 rfl) ?_
            refine lv_aload_n hx hb dL_isSo_57 rfl (lv_at hl 1 rfl) ?_
            refine lv_iconst (v := nI 0) hx hb dL_isSo_58 (by decide) ?_
            refine wv_iald hx hb hK hP 8 1 rfl rfl (k := 0) (by omega) (by decide) dL_isSo_59 ?_
            refine wv_ti (y := nI n) rfl ?_
            refine wv_icmp_ge (tgt := 123) hx hb (by omega) (by omega) dL_isSo_60 (by decide) (fun c60 => ?_) (fun c60 => ?_)
            · skip
              refine lv_iload hx hb dL_isSo_123 (lv_at hl 6 rfl) ?_
              refine lv_iload hx hb dL_isSo_125 (lv_at hl 12 rfl) ?_
              refine lv_iadd hx hb dL_isSo_127 ?_
              refine wv_ti (nI_add _ _) ?_
              refine lv_istore (lv' := [(6, .int (nI ((sm (ivo fl v n) i) + (cnt (ivp fl v i) j)))), (0, .ref x9), (1, .ref g), (2, .ref vv), (3, .ref nn), (4, .int (nI (mx (far fl v n) i))), (5, .int (nI (cnt (fal fl v n) i))), (7, .long (bst fl v n b i)), (9, .int (nI 1)), (10, .int (nI i)), (11, .int (dst fl v n i)), (12, .int (nI (far fl v n i))), (13, .int (nI (cnt (ivp fl v i) j))), (14, .int (nI j))]) hx hb dL_isSo_128 hl (by decide) rfl (fun ls hl => ?_)
              refine lv_iload hx hb dL_isSo_130 (lv_at hl 11 rfl) ?_
              refine lv_iload hx hb dL_isSo_132 (lv_at hl 5 rfl) ?_
              refine wv_icmp_le (tgt := 142) hx hb (by omega) (by omega) dL_isSo_134 (by decide) (fun c134 => ?_) (fun c134 => ?_)
              · skip
                refine lv_iload hx hb dL_isSo_142 (lv_at hl 5 rfl) ?_
                refine lv_istore (lv' := [(4, .int (nI (mx (far fl v n) i))), (6, .int (nI ((sm (ivo fl v n) i) + (cnt (ivp fl v i) j)))), (0, .ref x9), (1, .ref g), (2, .ref vv), (3, .ref nn), (5, .int (nI (cnt (fal fl v n) i))), (7, .long (bst fl v n b i)), (9, .int (nI 1)), (10, .int (nI i)), (11, .int (dst fl v n i)), (12, .int (nI (far fl v n i))), (13, .int (nI (cnt (ivp fl v i) j))), (14, .int (nI j))]) hx hb dL_isSo_144 hl (by decide) rfl (fun ls hl => ?_)
                refine lv_lload hx hb dL_isSo_146 (lv_at hl 7 rfl) ?_
                refine lv_iload hx hb dL_isSo_148 (lv_at hl 11 rfl) ?_
                refine lv_aload_n hx hb dL_isSo_150 rfl (lv_at hl 3 rfl) ?_
                refine lv_iconst (v := nI 1) hx hb dL_isSo_151 (by decide) ?_
                refine wv_iald hx hb hK hP 8 1 rfl rfl (k := 1) (by omega) (by decide) dL_isSo_152 ?_
                refine wv_ti (y := nI b) rfl ?_
                refine wv_icmp_le (tgt := 163) hx hb (by omega) (by omega) dL_isSo_153 (by decide) (fun c153 => ?_) (fun c153 => ?_)
                · skip
                  refine lv_lconst (v := lN 0) hx hb dL_isSo_163 rfl ?_
                  refine lv_lor hx hb dL_isSo_164 ?_
                  refine lv_lstore (lv' := [(7, .long ((bst fl v n b i) ||| (lN 0))), (4, .int (nI (mx (far fl v n) i))), (6, .int (nI ((sm (ivo fl v n) i) + (cnt (ivp fl v i) j)))), (0, .ref x9), (1, .ref g), (2, .ref vv), (3, .ref nn), (5, .int (nI (cnt (fal fl v n) i))), (9, .int (nI 1)), (10, .int (nI i)), (11, .int (dst fl v n i)), (12, .int (nI (far fl v n i))), (13, .int (nI (cnt (ivp fl v i) j))), (14, .int (nI j))]) hx hb dL_isSo_165 hl (by decide) rfl (fun ls hl => ?_)
                  refine lv_iload hx hb dL_isSo_167 (lv_at hl 7 rfl) ?_
                  refine lv_aload_n hx hb dL_isSo_169 rfl (lv_at hl 4 rfl) ?_
                  refine lv_aload_n hx hb dL_isSo_170 rfl (lv_at hl 5 rfl) ?_
                  refine lv_iload hx hb dL_isSo_171 (lv_at hl 9 rfl) ?_
                  refine wv_callSi (As := [.ref g, .ref vv, .int (nI i)]) (rest := [.int (nI (cnt (fal fl v n) i))]) ⟨hx, hb, hml, hown, hts⟩ (kL_fall l D g cI n b fl me st lk cm vv cJ v i (by first | assumption | omega) (by first | assumption | omega)) (va_cwS 3 hts gL_isSo_L_fall rfl rfl rfl (by decide +kernel) ⟨Nat.le_of_ble_eq_true rfl, Nat.le_of_ble_eq_true rfl⟩) hK hN hP hS hA [8, 9] [0, 1] rfl rfl rfl hl.1 rfl (Nat.le_of_ble_eq_true rfl) dL_isSo_173 ⟨Nat.zero_le _, Nat.zero_le _⟩ (fun H locs hz9 hP hS => ?_)
                  refine wv_ifeqB (tgt := 183) hx hb dL_isSo_176 (by decide) (fun c176 => ?_) (fun c176 => ?_)
                  · skip
                    refine lv_iconst (v := nI 0) hx hb dL_isSo_183 (by decide) ?_
                    refine lv_iadd hx hb dL_isSo_184 ?_
                    refine wv_ti (nI_add _ _) ?_
                    refine lv_istore (lv' := [(5, .int (nI ((cnt (fal fl v n) i) + 0))), (7, .long ((bst fl v n b i) ||| (lN 0))), (4, .int (nI (mx (far fl v n) i))), (6, .int (nI ((sm (ivo fl v n) i) + (cnt (ivp fl v i) j)))), (0, .ref x9), (1, .ref g), (2, .ref vv), (3, .ref nn), (9, .int (nI 1)), (10, .int (nI i)), (11, .int (dst fl v n i)), (12, .int (nI (far fl v n i))), (13, .int (nI (cnt (ivp fl v i) j))), (14, .int (nI j))]) hx hb dL_isSo_185 hl (by decide) rfl (fun ls hl => ?_)
                    refine lv_aload_n hx hb dL_isSo_187 rfl (lv_at hl 4 rfl) ?_
                    refine lv_iload hx hb dL_isSo_188 (lv_at hl 9 rfl) ?_
                    refine wv_callSWPl (As := [.ref x9, .int (nI i)]) (rest := []) ⟨hx, hb, hml, hown, hts⟩ (kL_atOf l D x9 r r2 q co h va na ra cJ cI v nu rk n b fl me st lk cm i (by first | assumption | omega) (by first | assumption | omega)) (vx_cwSW 2 hts gL_isSo_L_atOf rfl rfl rfl (by decide +kernel) ⟨Nat.le_of_ble_eq_true rfl, Nat.le_of_ble_eq_true rfl⟩) hK hN hP hS hA [0, 1, 2, 3, 4] [0, 1] rfl rfl rfl hl.1 rfl (Nat.le_of_ble_eq_true rfl) dL_isSo_190 ⟨Nat.zero_le _, Nat.zero_le _⟩ (fun H locs hz9 hP hS => ?_)
                    refine lv_aload_n hx hb dL_isSo_193 rfl (lv_at hl 6 rfl) ?_
                    refine lv_iload hx hb dL_isSo_194 (lv_at hl 9 rfl) ?_
                    refine wv_lald hx hb hK hP 9 0 rfl rfl (k := i) (by omega) (by decide) dL_isSo_196 ?_
                    refine wv_lc_ne (tgt := 323) hx hb dL_isSo_197 dL_isSo_198 (by decide) (fun c198 => by exfalso; exact c198 rfl) (fun c198 => ?_)
                    refine lv_aload_n hx hb dL_isSo_201 rfl (lv_at hl 4 rfl) ?_
                    refine lv_iload hx hb dL_isSo_202 (lv_at hl 9 rfl) ?_
                    refine lv_iconst (v := nI 0) hx hb dL_isSo_204 (by decide) ?_
                    refine wv_callSWPi (As := [.ref x9, .int (nI i), .int (nI 0)]) (rest := []) ⟨hx, hb, hml, hown, hts⟩ (kL_elementOf l D x9 r r2 q co h va na ra cJ cI v nu rk n b fl me st lk cm i 0 (by first | assumption | omega) (by first | assumption | omega) (by first | assumption | omega) (by first | assumption | omega) (by first | assumption | omega)) (vx_cwSW 3 hts gL_isSo_L_elementOf rfl rfl rfl (by decide +kernel) ⟨Nat.le_of_ble_eq_true rfl, Nat.le_of_ble_eq_true rfl⟩) hK hN hP hS hA [0, 1, 2, 3, 4] [0, 1] rfl rfl rfl hl.1 rfl (Nat.le_of_ble_eq_true rfl) dL_isSo_205 ⟨Nat.zero_le _, Nat.zero_le _⟩ (fun H locs hz9 hP hS => ?_)
                    refine lv_aload_n hx hb dL_isSo_208 rfl (lv_at hl 7 rfl) ?_
                    refine lv_iload hx hb dL_isSo_209 (lv_at hl 9 rfl) ?_
                    refine wv_iald hx hb hK hP 10 1 rfl rfl (k := i) (by omega) (by decide) dL_isSo_211 ?_
                    refine lv_icmp_ne (tgt := 323) hx hb dL_isSo_212 (by decide) (fun c212 => by exfalso; exact c212 rfl) (fun c212 => ?_)
                    refine lv_aload_n hx hb dL_isSo_215 rfl (lv_at hl 4 rfl) ?_
                    refine lv_iload hx hb dL_isSo_216 (lv_at hl 9 rfl) ?_
                    refine lv_iconst (v := nI 1) hx hb dL_isSo_218 (by decide) ?_
                    refine wv_callSWPi (As := [.ref x9, .int (nI i), .int (nI 1)]) (rest := []) ⟨hx, hb, hml, hown, hts⟩ (kL_elementOf l D x9 r r2 q co h va na ra cJ cI v nu rk n b fl me st lk cm i 1 (by first | assumption | omega) (by first | assumption | omega) (by first | assumption | omega) (by first | assumption | omega) (by first | assumption | omega)) (vx_cwSW 3 hts gL_isSo_L_elementOf rfl rfl rfl (by decide +kernel) ⟨Nat.le_of_ble_eq_true rfl, Nat.le_of_ble_eq_true rfl⟩) hK hN hP hS hA [0, 1, 2, 3, 4] [0, 1] rfl rfl rfl hl.1 rfl (Nat.le_of_ble_eq_true rfl) dL_isSo_219 ⟨Nat.zero_le _, Nat.zero_le _⟩ (fun H locs hz9 hP hS => ?_)
                    refine lv_iload hx hb dL_isSo_222 (lv_at hl 9 rfl) ?_
                    refine lv_iload hx hb dL_isSo_224 (lv_at hl 10 rfl) ?_
                    refine lv_isub hx hb dL_isSo_226 ?_
                    refine wv_ti (y := nI (rk0 fl v n i)) (dst_rk (by omega) hn) ?_
                    refine lv_icmp_ne (tgt := 323) hx hb dL_isSo_227 (by decide) (fun c227 => by exfalso; exact c227 rfl) (fun c227 => ?_)
                    refine lv_aload_n hx hb dL_isSo_230 rfl (lv_at hl 4 rfl) ?_
                    refine lv_iload hx hb dL_isSo_231 (lv_at hl 9 rfl) ?_
                    refine lv_iconst (v := nI 2) hx hb dL_isSo_233 (by decide) ?_
                    refine wv_callSWPi (As := [.ref x9, .int (nI i), .int (nI 2)]) (rest := []) ⟨hx, hb, hml, hown, hts⟩ (kL_elementOf l D x9 r r2 q co h va na ra cJ cI v nu rk n b fl me st lk cm i 2 (by first | assumption | omega) (by first | assumption | omega) (by first | assumption | omega) (by first | assumption | omega) (by first | assumption | omega)) (vx_cwSW 3 hts gL_isSo_L_elementOf rfl rfl rfl (by decide +kernel) ⟨Nat.le_of_ble_eq_true rfl, Nat.le_of_ble_eq_true rfl⟩) hK hN hP hS hA [0, 1, 2, 3, 4] [0, 1] rfl rfl rfl hl.1 rfl (Nat.le_of_ble_eq_true rfl) dL_isSo_234 ⟨Nat.zero_le _, Nat.zero_le _⟩ (fun H locs hz9 hP hS => ?_)
                    refine lv_iload hx hb dL_isSo_237 (lv_at hl 10 rfl) ?_
                    refine lv_icmp_ne (tgt := 323) hx hb dL_isSo_239 (by decide) (fun c239 => by exfalso; exact c239 rfl) (fun c239 => ?_)
                    refine lv_aload_n hx hb dL_isSo_242 rfl (lv_at hl 4 rfl) ?_
                    refine lv_iload hx hb dL_isSo_243 (lv_at hl 9 rfl) ?_
                    refine lv_iconst (v := nI 3) hx hb dL_isSo_245 (by decide) ?_
                    refine wv_callSWPi (As := [.ref x9, .int (nI i), .int (nI 3)]) (rest := []) ⟨hx, hb, hml, hown, hts⟩ (kL_elementOf l D x9 r r2 q co h va na ra cJ cI v nu rk n b fl me st lk cm i 3 (by first | assumption | omega) (by first | assumption | omega) (by first | assumption | omega) (by first | assumption | omega) (by first | assumption | omega)) (vx_cwSW 3 hts gL_isSo_L_elementOf rfl rfl rfl (by decide +kernel) ⟨Nat.le_of_ble_eq_true rfl, Nat.le_of_ble_eq_true rfl⟩) hK hN hP hS hA [0, 1, 2, 3, 4] [0, 1] rfl rfl rfl hl.1 rfl (Nat.le_of_ble_eq_true rfl) dL_isSo_246 ⟨Nat.zero_le _, Nat.zero_le _⟩ (fun H locs hz9 hP hS => ?_)
                    refine lv_iload hx hb dL_isSo_249 (lv_at hl 11 rfl) ?_
                    refine lv_aload_n hx hb dL_isSo_251 rfl (lv_at hl 5 rfl) ?_
                    refine lv_iconst (v := nI 1) hx hb dL_isSo_252 (by decide) ?_
                    refine wv_iald hx hb hK hP 8 1 rfl rfl (k := 1) (by omega) (by decide) dL_isSo_253 ?_
                    refine wv_ti (y := nI b) rfl ?_
                    refine wv_icmp_le (tgt := 261) hx hb (by omega) (by omega) dL_isSo_254 (by decide) (fun c254 => ?_) (fun c254 => by exfalso; omega)
                    refine lv_iconst (v := nI 0) hx hb dL_isSo_261 (by decide) ?_
                    refine lv_icmp_ne (tgt := 323) hx hb dL_isSo_262 (by decide) (fun c262 => by exfalso; exact c262 (by first | (show bI (brk fl v n b i) = _; rw [show brk fl v n b i = true from decide_eq_true (by omega)]; rfl) | (show bI (brk fl v n b i) = _; rw [show brk fl v n b i = false from decide_eq_false (by omega)]; rfl))) (fun c262 => ?_)
                    refine lv_aload_n hx hb dL_isSo_265 rfl (lv_at hl 4 rfl) ?_
                    refine lv_iload hx hb dL_isSo_266 (lv_at hl 9 rfl) ?_
                    refine lv_iconst (v := nI 4) hx hb dL_isSo_268 (by decide) ?_
                    refine wv_callSWPi (As := [.ref x9, .int (nI i), .int (nI 4)]) (rest := []) ⟨hx, hb, hml, hown, hts⟩ (kL_elementOf l D x9 r r2 q co h va na ra cJ cI v nu rk n b fl me st lk cm i 4 (by first | assumption | omega) (by first | assumption | omega) (by first | assumption | omega) (by first | assumption | omega) (by first | assumption | omega)) (vx_cwSW 3 hts gL_isSo_L_elementOf rfl rfl rfl (by decide +kernel) ⟨Nat.le_of_ble_eq_true rfl, Nat.le_of_ble_eq_true rfl⟩) hK hN hP hS hA [0, 1, 2, 3, 4] [0, 1] rfl rfl rfl hl.1 rfl (Nat.le_of_ble_eq_true rfl) dL_isSo_269 ⟨Nat.zero_le _, Nat.zero_le _⟩ (fun H locs hz9 hP hS => ?_)
                    refine lv_aload_n hx hb dL_isSo_272 rfl (lv_at hl 5 rfl) ?_
                    refine lv_aload_n hx hb dL_isSo_273 rfl (lv_at hl 6 rfl) ?_
                    refine lv_iload hx hb dL_isSo_274 (lv_at hl 9 rfl) ?_
                    refine wv_callSi (As := [.ref g, .ref vv, .int (nI i)]) (rest := [.int (elV fl v n b (nu i) i 4)]) ⟨hx, hb, hml, hown, hts⟩ (kL_fall l D g cI n b fl me st lk cm vv cJ v i (by first | assumption | omega) (by first | assumption | omega)) (va_cwS 3 hts gL_isSo_L_fall rfl rfl rfl (by decide +kernel) ⟨Nat.le_of_ble_eq_true rfl, Nat.le_of_ble_eq_true rfl⟩) hK hN hP hS hA [8, 9] [0, 1] rfl rfl rfl hl.1 rfl (Nat.le_of_ble_eq_true rfl) dL_isSo_276 ⟨Nat.zero_le _, Nat.zero_le _⟩ (fun H locs hz9 hP hS => ?_)
                    refine wv_ifeqB (tgt := 286) hx hb dL_isSo_279 (by decide) (fun c279 => ?_) (fun c279 => by exfalso; rw [c176] at c279; cases c279)
                    refine lv_iconst (v := nI 0) hx hb dL_isSo_286 (by decide) ?_
                    refine lv_icmp_ne (tgt := 323) hx hb dL_isSo_287 (by decide) (fun c287 => by exfalso; exact c287 (by show bI (fal fl v n i) = _; rw [c176]; rfl)) (fun c287 => ?_)
                    refine lv_aload_n hx hb dL_isSo_290 rfl (lv_at hl 4 rfl) ?_
                    refine lv_iload hx hb dL_isSo_291 (lv_at hl 9 rfl) ?_
                    refine lv_iconst (v := nI 5) hx hb dL_isSo_293 (by decide) ?_
                    refine wv_callSWPi (As := [.ref x9, .int (nI i), .int (nI 5)]) (rest := []) ⟨hx, hb, hml, hown, hts⟩ (kL_elementOf l D x9 r r2 q co h va na ra cJ cI v nu rk n b fl me st lk cm i 5 (by first | assumption | omega) (by first | assumption | omega) (by first | assumption | omega) (by first | assumption | omega) (by first | assumption | omega)) (vx_cwSW 3 hts gL_isSo_L_elementOf rfl rfl rfl (by decide +kernel) ⟨Nat.le_of_ble_eq_true rfl, Nat.le_of_ble_eq_true rfl⟩) hK hN hP hS hA [0, 1, 2, 3, 4] [0, 1] rfl rfl rfl hl.1 rfl (Nat.le_of_ble_eq_true rfl) dL_isSo_294 ⟨Nat.zero_le _, Nat.zero_le _⟩ (fun H locs hz9 hP hS => ?_)
                    refine lv_iload hx hb dL_isSo_297 (lv_at hl 12 rfl) ?_
                    refine lv_icmp_ne (tgt := 323) hx hb dL_isSo_299 (by decide) (fun c299 => by exfalso; exact c299 (by rw [show j = n by omega]; rfl)) (fun c299 => ?_)
                    refine lv_aload_n hx hb dL_isSo_302 rfl (lv_at hl 4 rfl) ?_
                    refine lv_iload hx hb dL_isSo_303 (lv_at hl 9 rfl) ?_
                    refine lv_iload hx hb dL_isSo_305 (lv_at hl 10 rfl) ?_
                    refine lv_isub hx hb dL_isSo_307 ?_
                    refine wv_ti (y := nI (rk0 fl v n i)) (dst_rk (by omega) hn) ?_
                    refine wv_callSWPl (As := [.ref x9, .int (nI (rk0 fl v n i))]) (rest := []) ⟨hx, hb, hml, hown, hts⟩ (kL_rankedOf l D x9 r r2 q co h va na ra cJ cI v nu rk n b fl me st lk cm (nI (rk0 fl v n i)) p1 (by first | assumption | omega) (by first | assumption | omega) (by first | assumption | omega)) (vx_cwSW 2 hts gL_isSo_L_rankedOf rfl rfl rfl (by decide +kernel) ⟨Nat.le_of_ble_eq_true rfl, Nat.le_of_ble_eq_true rfl⟩) hK hN hP hS hA [0, 1, 2, 3, 4] [0, 1] rfl rfl rfl hl.1 rfl (Nat.le_of_ble_eq_true rfl) dL_isSo_308 ⟨Nat.zero_le _, Nat.zero_le _⟩ (fun H locs hz9 hP hS => ?_)
                    refine lv_aload_n hx hb dL_isSo_311 rfl (lv_at hl 6 rfl) ?_
                    refine lv_iload hx hb dL_isSo_312 (lv_at hl 9 rfl) ?_
                    refine wv_lald hx hb hK hP 9 0 rfl rfl (k := i) (by omega) (by decide) dL_isSo_314 ?_
                    refine wv_lc_ne (tgt := 323) hx hb dL_isSo_315 dL_isSo_316 (by decide) (fun c316 => by exfalso; exact c316 hpv) (fun c316 => ?_)
                    refine lv_iconst (v := nI 1) hx hb dL_isSo_319 (by decide) ?_
                    refine lv_goto (tgt := 324) hx hb dL_isSo_320 (by decide) ?_
                    refine lv_istore (lv' := [(9, .int (nI 1)), (5, .int (nI ((cnt (fal fl v n) i) + 0))), (7, .long ((bst fl v n b i) ||| (lN 0))), (4, .int (nI (mx (far fl v n) i))), (6, .int (nI ((sm (ivo fl v n) i) + (cnt (ivp fl v i) j)))), (0, .ref x9), (1, .ref g), (2, .ref vv), (3, .ref nn), (10, .int (nI i)), (11, .int (dst fl v n i)), (12, .int (nI (far fl v n i))), (13, .int (nI (cnt (ivp fl v i) j))), (14, .int (nI j))]) hx hb dL_isSo_324 hl (by decide) rfl (fun ls hl => ?_)
                    refine lv_iinc (v := nI (i + 1)) (lv' := [(10, .int (nI (i + 1))), (9, .int (nI 1)), (5, .int (nI ((cnt (fal fl v n) i) + 0))), (7, .long ((bst fl v n b i) ||| (lN 0))), (4, .int (nI (mx (far fl v n) i))), (6, .int (nI ((sm (ivo fl v n) i) + (cnt (ivp fl v i) j)))), (0, .ref x9), (1, .ref g), (2, .ref vv), (3, .ref nn), (11, .int (dst fl v n i)), (12, .int (nI (far fl v n i))), (13, .int (nI (cnt (ivp fl v i) j))), (14, .int (nI j))]) hx hb dL_isSo_326 hl (k := 9) rfl (nI_1 _) (by decide) rfl (fun ls hl => ?_)
                    refine lv_goto (tgt := 18) hx hb dL_isSo_329 (by decide) ?_
                    have el_l4 : mx (far fl v n) (i + 1) = mx (far fl v n) i := by first | (rw [mx_s, Nat.max_eq_left (by omega)]; done) | (rw [mx_s, Nat.max_eq_right (by omega)]; done)
                    have el_l5 : cnt (fal fl v n) (i + 1) = (cnt (fal fl v n) i) + 0 := by first | exact cnt_t c176 | exact cnt_f c176
                    have el_l6 : sm (ivo fl v n) (i + 1) = (sm (ivo fl v n) i) + (cnt (ivp fl v i) j) := by rw [sm_s, show j = n by omega]; rfl
                    have el_l7 : bst fl v n b (i + 1) = (bst fl v n b i) ||| (lN 0) := by first | exact if_pos (decide_eq_true (by omega)) | (rw [lor_0]; exact if_neg (by rw [show brk fl v n b i = false from decide_eq_false (by omega)]; decide))
                    exact ih18 (i + 1) (by omega) (by first | assumption | omega) _ _ (by first | (rw [el_l5, el_l4, el_l6, el_l7]; exact hP) | (simp only [el_l5, el_l4, el_l6, el_l7]; exact hP) | exact hP) (by first | (rw [el_l5, el_l4, el_l6, el_l7]; exact hD) | (simp only [el_l5, el_l4, el_l6, el_l7]; exact hD) | exact hD) hS ls (by first | (rw [el_l5, el_l4, el_l6, el_l7]; exact lv_sub hl [6, 7, 8, 9, 4, 2, 5, 3, 1, 0] rfl) | (simp only [el_l5, el_l4, el_l6, el_l7]; exact lv_sub hl [6, 7, 8, 9, 4, 2, 5, 3, 1, 0] rfl) | exact lv_sub hl [6, 7, 8, 9, 4, 2, 5, 3, 1, 0] rfl)
                  · skip
                    refine lv_iconst (v := nI 1) hx hb dL_isSo_179 (by decide) ?_
                    refine lv_goto (tgt := 184) hx hb dL_isSo_180 (by decide) ?_
                    refine lv_iadd hx hb dL_isSo_184 ?_
                    refine wv_ti (nI_add _ _) ?_
                    refine lv_istore (lv' := [(5, .int (nI ((cnt (fal fl v n) i) + 1))), (7, .long ((bst fl v n b i) ||| (lN 0))), (4, .int (nI (mx (far fl v n) i))), (6, .int (nI ((sm (ivo fl v n) i) + (cnt (ivp fl v i) j)))), (0, .ref x9), (1, .ref g), (2, .ref vv), (3, .ref nn), (9, .int (nI 1)), (10, .int (nI i)), (11, .int (dst fl v n i)), (12, .int (nI (far fl v n i))), (13, .int (nI (cnt (ivp fl v i) j))), (14, .int (nI j))]) hx hb dL_isSo_185 hl (by decide) rfl (fun ls hl => ?_)
                    refine lv_aload_n hx hb dL_isSo_187 rfl (lv_at hl 4 rfl) ?_
                    refine lv_iload hx hb dL_isSo_188 (lv_at hl 9 rfl) ?_
                    refine wv_callSWPl (As := [.ref x9, .int (nI i)]) (rest := []) ⟨hx, hb, hml, hown, hts⟩ (kL_atOf l D x9 r r2 q co h va na ra cJ cI v nu rk n b fl me st lk cm i (by first | assumption | omega) (by first | assumption | omega)) (vx_cwSW 2 hts gL_isSo_L_atOf rfl rfl rfl (by decide +kernel) ⟨Nat.le_of_ble_eq_true rfl, Nat.le_of_ble_eq_true rfl⟩) hK hN hP hS hA [0, 1, 2, 3, 4] [0, 1] rfl rfl rfl hl.1 rfl (Nat.le_of_ble_eq_true rfl) dL_isSo_190 ⟨Nat.zero_le _, Nat.zero_le _⟩ (fun H locs hz9 hP hS => ?_)
                    refine lv_aload_n hx hb dL_isSo_193 rfl (lv_at hl 6 rfl) ?_
                    refine lv_iload hx hb dL_isSo_194 (lv_at hl 9 rfl) ?_
                    refine wv_lald hx hb hK hP 9 0 rfl rfl (k := i) (by omega) (by decide) dL_isSo_196 ?_
                    refine wv_lc_ne (tgt := 323) hx hb dL_isSo_197 dL_isSo_198 (by decide) (fun c198 => by exfalso; exact c198 rfl) (fun c198 => ?_)
                    refine lv_aload_n hx hb dL_isSo_201 rfl (lv_at hl 4 rfl) ?_
                    refine lv_iload hx hb dL_isSo_202 (lv_at hl 9 rfl) ?_
                    refine lv_iconst (v := nI 0) hx hb dL_isSo_204 (by decide) ?_
                    refine wv_callSWPi (As := [.ref x9, .int (nI i), .int (nI 0)]) (rest := []) ⟨hx, hb, hml, hown, hts⟩ (kL_elementOf l D x9 r r2 q co h va na ra cJ cI v nu rk n b fl me st lk cm i 0 (by first | assumption | omega) (by first | assumption | omega) (by first | assumption | omega) (by first | assumption | omega) (by first | assumption | omega)) (vx_cwSW 3 hts gL_isSo_L_elementOf rfl rfl rfl (by decide +kernel) ⟨Nat.le_of_ble_eq_true rfl, Nat.le_of_ble_eq_true rfl⟩) hK hN hP hS hA [0, 1, 2, 3, 4] [0, 1] rfl rfl rfl hl.1 rfl (Nat.le_of_ble_eq_true rfl) dL_isSo_205 ⟨Nat.zero_le _, Nat.zero_le _⟩ (fun H locs hz9 hP hS => ?_)
                    refine lv_aload_n hx hb dL_isSo_208 rfl (lv_at hl 7 rfl) ?_
                    refine lv_iload hx hb dL_isSo_209 (lv_at hl 9 rfl) ?_
                    refine wv_iald hx hb hK hP 10 1 rfl rfl (k := i) (by omega) (by decide) dL_isSo_211 ?_
                    refine lv_icmp_ne (tgt := 323) hx hb dL_isSo_212 (by decide) (fun c212 => by exfalso; exact c212 rfl) (fun c212 => ?_)
                    refine lv_aload_n hx hb dL_isSo_215 rfl (lv_at hl 4 rfl) ?_
                    refine lv_iload hx hb dL_isSo_216 (lv_at hl 9 rfl) ?_
                    refine lv_iconst (v := nI 1) hx hb dL_isSo_218 (by decide) ?_
                    refine wv_callSWPi (As := [.ref x9, .int (nI i), .int (nI 1)]) (rest := []) ⟨hx, hb, hml, hown, hts⟩ (kL_elementOf l D x9 r r2 q co h va na ra cJ cI v nu rk n b fl me st lk cm i 1 (by first | assumption | omega) (by first | assumption | omega) (by first | assumption | omega) (by first | assumption | omega) (by first | assumption | omega)) (vx_cwSW 3 hts gL_isSo_L_elementOf rfl rfl rfl (by decide +kernel) ⟨Nat.le_of_ble_eq_true rfl, Nat.le_of_ble_eq_true rfl⟩) hK hN hP hS hA [0, 1, 2, 3, 4] [0, 1] rfl rfl rfl hl.1 rfl (Nat.le_of_ble_eq_true rfl) dL_isSo_219 ⟨Nat.zero_le _, Nat.zero_le _⟩ (fun H locs hz9 hP hS => ?_)
                    refine lv_iload hx hb dL_isSo_222 (lv_at hl 9 rfl) ?_
                    refine lv_iload hx hb dL_isSo_224 (lv_at hl 10 rfl) ?_
                    refine lv_isub hx hb dL_isSo_226 ?_
                    refine wv_ti (y := nI (rk0 fl v n i)) (dst_rk (by omega) hn) ?_
                    refine lv_icmp_ne (tgt := 323) hx hb dL_isSo_227 (by decide) (fun c227 => by exfalso; exact c227 rfl) (fun c227 => ?_)
                    refine lv_aload_n hx hb dL_isSo_230 rfl (lv_at hl 4 rfl) ?_
                    refine lv_iload hx hb dL_isSo_231 (lv_at hl 9 rfl) ?_
                    refine lv_iconst (v := nI 2) hx hb dL_isSo_233 (by decide) ?_
                    refine wv_callSWPi (As := [.ref x9, .int (nI i), .int (nI 2)]) (rest := []) ⟨hx, hb, hml, hown, hts⟩ (kL_elementOf l D x9 r r2 q co h va na ra cJ cI v nu rk n b fl me st lk cm i 2 (by first | assumption | omega) (by first | assumption | omega) (by first | assumption | omega) (by first | assumption | omega) (by first | assumption | omega)) (vx_cwSW 3 hts gL_isSo_L_elementOf rfl rfl rfl (by decide +kernel) ⟨Nat.le_of_ble_eq_true rfl, Nat.le_of_ble_eq_true rfl⟩) hK hN hP hS hA [0, 1, 2, 3, 4] [0, 1] rfl rfl rfl hl.1 rfl (Nat.le_of_ble_eq_true rfl) dL_isSo_234 ⟨Nat.zero_le _, Nat.zero_le _⟩ (fun H locs hz9 hP hS => ?_)
                    refine lv_iload hx hb dL_isSo_237 (lv_at hl 10 rfl) ?_
                    refine lv_icmp_ne (tgt := 323) hx hb dL_isSo_239 (by decide) (fun c239 => by exfalso; exact c239 rfl) (fun c239 => ?_)
                    refine lv_aload_n hx hb dL_isSo_242 rfl (lv_at hl 4 rfl) ?_
                    refine lv_iload hx hb dL_isSo_243 (lv_at hl 9 rfl) ?_
                    refine lv_iconst (v := nI 3) hx hb dL_isSo_245 (by decide) ?_
                    refine wv_callSWPi (As := [.ref x9, .int (nI i), .int (nI 3)]) (rest := []) ⟨hx, hb, hml, hown, hts⟩ (kL_elementOf l D x9 r r2 q co h va na ra cJ cI v nu rk n b fl me st lk cm i 3 (by first | assumption | omega) (by first | assumption | omega) (by first | assumption | omega) (by first | assumption | omega) (by first | assumption | omega)) (vx_cwSW 3 hts gL_isSo_L_elementOf rfl rfl rfl (by decide +kernel) ⟨Nat.le_of_ble_eq_true rfl, Nat.le_of_ble_eq_true rfl⟩) hK hN hP hS hA [0, 1, 2, 3, 4] [0, 1] rfl rfl rfl hl.1 rfl (Nat.le_of_ble_eq_true rfl) dL_isSo_246 ⟨Nat.zero_le _, Nat.zero_le _⟩ (fun H locs hz9 hP hS => ?_)
                    refine lv_iload hx hb dL_isSo_249 (lv_at hl 11 rfl) ?_
                    refine lv_aload_n hx hb dL_isSo_251 rfl (lv_at hl 5 rfl) ?_
                    refine lv_iconst (v := nI 1) hx hb dL_isSo_252 (by decide) ?_
                    refine wv_iald hx hb hK hP 8 1 rfl rfl (k := 1) (by omega) (by decide) dL_isSo_253 ?_
                    refine wv_ti (y := nI b) rfl ?_
                    refine wv_icmp_le (tgt := 261) hx hb (by omega) (by omega) dL_isSo_254 (by decide) (fun c254 => ?_) (fun c254 => by exfalso; omega)
                    refine lv_iconst (v := nI 0) hx hb dL_isSo_261 (by decide) ?_
                    refine lv_icmp_ne (tgt := 323) hx hb dL_isSo_262 (by decide) (fun c262 => by exfalso; exact c262 (by first | (show bI (brk fl v n b i) = _; rw [show brk fl v n b i = true from decide_eq_true (by omega)]; rfl) | (show bI (brk fl v n b i) = _; rw [show brk fl v n b i = false from decide_eq_false (by omega)]; rfl))) (fun c262 => ?_)
                    refine lv_aload_n hx hb dL_isSo_265 rfl (lv_at hl 4 rfl) ?_
                    refine lv_iload hx hb dL_isSo_266 (lv_at hl 9 rfl) ?_
                    refine lv_iconst (v := nI 4) hx hb dL_isSo_268 (by decide) ?_
                    refine wv_callSWPi (As := [.ref x9, .int (nI i), .int (nI 4)]) (rest := []) ⟨hx, hb, hml, hown, hts⟩ (kL_elementOf l D x9 r r2 q co h va na ra cJ cI v nu rk n b fl me st lk cm i 4 (by first | assumption | omega) (by first | assumption | omega) (by first | assumption | omega) (by first | assumption | omega) (by first | assumption | omega)) (vx_cwSW 3 hts gL_isSo_L_elementOf rfl rfl rfl (by decide +kernel) ⟨Nat.le_of_ble_eq_true rfl, Nat.le_of_ble_eq_true rfl⟩) hK hN hP hS hA [0, 1, 2, 3, 4] [0, 1] rfl rfl rfl hl.1 rfl (Nat.le_of_ble_eq_true rfl) dL_isSo_269 ⟨Nat.zero_le _, Nat.zero_le _⟩ (fun H locs hz9 hP hS => ?_)
                    refine lv_aload_n hx hb dL_isSo_272 rfl (lv_at hl 5 rfl) ?_
                    refine lv_aload_n hx hb dL_isSo_273 rfl (lv_at hl 6 rfl) ?_
                    refine lv_iload hx hb dL_isSo_274 (lv_at hl 9 rfl) ?_
                    refine wv_callSi (As := [.ref g, .ref vv, .int (nI i)]) (rest := [.int (elV fl v n b (nu i) i 4)]) ⟨hx, hb, hml, hown, hts⟩ (kL_fall l D g cI n b fl me st lk cm vv cJ v i (by first | assumption | omega) (by first | assumption | omega)) (va_cwS 3 hts gL_isSo_L_fall rfl rfl rfl (by decide +kernel) ⟨Nat.le_of_ble_eq_true rfl, Nat.le_of_ble_eq_true rfl⟩) hK hN hP hS hA [8, 9] [0, 1] rfl rfl rfl hl.1 rfl (Nat.le_of_ble_eq_true rfl) dL_isSo_276 ⟨Nat.zero_le _, Nat.zero_le _⟩ (fun H locs hz9 hP hS => ?_)
                    refine wv_ifeqB (tgt := 286) hx hb dL_isSo_279 (by decide) (fun c279 => by exfalso; rw [c176] at c279; cases c279) (fun c279 => ?_)
                    refine lv_iconst (v := nI 1) hx hb dL_isSo_282 (by decide) ?_
                    refine lv_goto (tgt := 287) hx hb dL_isSo_283 (by decide) ?_
                    refine lv_icmp_ne (tgt := 323) hx hb dL_isSo_287 (by decide) (fun c287 => by exfalso; exact c287 (by show bI (fal fl v n i) = _; rw [c176]; rfl)) (fun c287 => ?_)
                    refine lv_aload_n hx hb dL_isSo_290 rfl (lv_at hl 4 rfl) ?_
                    refine lv_iload hx hb dL_isSo_291 (lv_at hl 9 rfl) ?_
                    refine lv_iconst (v := nI 5) hx hb dL_isSo_293 (by decide) ?_
                    refine wv_callSWPi (As := [.ref x9, .int (nI i), .int (nI 5)]) (rest := []) ⟨hx, hb, hml, hown, hts⟩ (kL_elementOf l D x9 r r2 q co h va na ra cJ cI v nu rk n b fl me st lk cm i 5 (by first | assumption | omega) (by first | assumption | omega) (by first | assumption | omega) (by first | assumption | omega) (by first | assumption | omega)) (vx_cwSW 3 hts gL_isSo_L_elementOf rfl rfl rfl (by decide +kernel) ⟨Nat.le_of_ble_eq_true rfl, Nat.le_of_ble_eq_true rfl⟩) hK hN hP hS hA [0, 1, 2, 3, 4] [0, 1] rfl rfl rfl hl.1 rfl (Nat.le_of_ble_eq_true rfl) dL_isSo_294 ⟨Nat.zero_le _, Nat.zero_le _⟩ (fun H locs hz9 hP hS => ?_)
                    refine lv_iload hx hb dL_isSo_297 (lv_at hl 12 rfl) ?_
                    refine lv_icmp_ne (tgt := 323) hx hb dL_isSo_299 (by decide) (fun c299 => by exfalso; exact c299 (by rw [show j = n by omega]; rfl)) (fun c299 => ?_)
                    refine lv_aload_n hx hb dL_isSo_302 rfl (lv_at hl 4 rfl) ?_
                    refine lv_iload hx hb dL_isSo_303 (lv_at hl 9 rfl) ?_
                    refine lv_iload hx hb dL_isSo_305 (lv_at hl 10 rfl) ?_
                    refine lv_isub hx hb dL_isSo_307 ?_
                    refine wv_ti (y := nI (rk0 fl v n i)) (dst_rk (by omega) hn) ?_
                    refine wv_callSWPl (As := [.ref x9, .int (nI (rk0 fl v n i))]) (rest := []) ⟨hx, hb, hml, hown, hts⟩ (kL_rankedOf l D x9 r r2 q co h va na ra cJ cI v nu rk n b fl me st lk cm (nI (rk0 fl v n i)) p1 (by first | assumption | omega) (by first | assumption | omega) (by first | assumption | omega)) (vx_cwSW 2 hts gL_isSo_L_rankedOf rfl rfl rfl (by decide +kernel) ⟨Nat.le_of_ble_eq_true rfl, Nat.le_of_ble_eq_true rfl⟩) hK hN hP hS hA [0, 1, 2, 3, 4] [0, 1] rfl rfl rfl hl.1 rfl (Nat.le_of_ble_eq_true rfl) dL_isSo_308 ⟨Nat.zero_le _, Nat.zero_le _⟩ (fun H locs hz9 hP hS => ?_)
                    refine lv_aload_n hx hb dL_isSo_311 rfl (lv_at hl 6 rfl) ?_
                    refine lv_iload hx hb dL_isSo_312 (lv_at hl 9 rfl) ?_
                    refine wv_lald hx hb hK hP 9 0 rfl rfl (k := i) (by omega) (by decide) dL_isSo_314 ?_
                    refine wv_lc_ne (tgt := 323) hx hb dL_isSo_315 dL_isSo_316 (by decide) (fun c316 => by exfalso; exact c316 hpv) (fun c316 => ?_)
                    refine lv_iconst (v := nI 1) hx hb dL_isSo_319 (by decide) ?_
                    refine lv_goto (tgt := 324) hx hb dL_isSo_320 (by decide) ?_
                    refine lv_istore (lv' := [(9, .int (nI 1)), (5, .int (nI ((cnt (fal fl v n) i) + 1))), (7, .long ((bst fl v n b i) ||| (lN 0))), (4, .int (nI (mx (far fl v n) i))), (6, .int (nI ((sm (ivo fl v n) i) + (cnt (ivp fl v i) j)))), (0, .ref x9), (1, .ref g), (2, .ref vv), (3, .ref nn), (10, .int (nI i)), (11, .int (dst fl v n i)), (12, .int (nI (far fl v n i))), (13, .int (nI (cnt (ivp fl v i) j))), (14, .int (nI j))]) hx hb dL_isSo_324 hl (by decide) rfl (fun ls hl => ?_)
                    refine lv_iinc (v := nI (i + 1)) (lv' := [(10, .int (nI (i + 1))), (9, .int (nI 1)), (5, .int (nI ((cnt (fal fl v n) i) + 1))), (7, .long ((bst fl v n b i) ||| (lN 0))), (4, .int (nI (mx (far fl v n) i))), (6, .int (nI ((sm (ivo fl v n) i) + (cnt (ivp fl v i) j)))), (0, .ref x9), (1, .ref g), (2, .ref vv), (3, .ref nn), (11, .int (dst fl v n i)), (12, .int (nI (far fl v n i))), (13, .int (nI (cnt (ivp fl v i) j))), (14, .int (nI j))]) hx hb dL_isSo_326 hl (k := 9) rfl (nI_1 _) (by decide) rfl (fun ls hl => ?_)
                    refine lv_goto (tgt := 18) hx hb dL_isSo_329 (by decide) ?_
                    have el_l4 : mx (far fl v n) (i + 1) = mx (far fl v n) i := by first | (rw [mx_s, Nat.max_eq_left (by omega)]; done) | (rw [mx_s, Nat.max_eq_right (by omega)]; done)
                    have el_l5 : cnt (fal fl v n) (i + 1) = (cnt (fal fl v n) i) + 1 := by first | exact cnt_t c176 | exact cnt_f c176
                    have el_l6 : sm (ivo fl v n) (i + 1) = (sm (ivo fl v n) i) + (cnt (ivp fl v i) j) := by rw [sm_s, show j = n by omega]; rfl
                    have el_l7 : bst fl v n b (i + 1) = (bst fl v n b i) ||| (lN 0) := by first | exact if_pos (decide_eq_true (by omega)) | (rw [lor_0]; exact if_neg (by rw [show brk fl v n b i = false from decide_eq_false (by omega)]; decide))
                    exact ih18 (i + 1) (by omega) (by first | assumption | omega) _ _ (by first | (rw [el_l5, el_l4, el_l6, el_l7]; exact hP) | (simp only [el_l5, el_l4, el_l6, el_l7]; exact hP) | exact hP) (by first | (rw [el_l5, el_l4, el_l6, el_l7]; exact hD) | (simp only [el_l5, el_l4, el_l6, el_l7]; exact hD) | exact hD) hS ls (by first | (rw [el_l5, el_l4, el_l6, el_l7]; exact lv_sub hl [6, 7, 8, 9, 4, 2, 5, 3, 1, 0] rfl) | (simp only [el_l5, el_l4, el_l6, el_l7]; exact lv_sub hl [6, 7, 8, 9, 4, 2, 5, 3, 1, 0] rfl) | exact lv_sub hl [6, 7, 8, 9, 4, 2, 5, 3, 1, 0] rfl)
                · skip
                  refine lv_lconst (v := lN 1) hx hb dL_isSo_156 rfl ?_
                  refine lv_iload hx hb dL_isSo_157 (lv_at hl 9 rfl) ?_
                  refine lv_lshl (v := (lN 1) <<< ((nI i).toInt64 &&& 63)) hx hb dL_isSo_159 rfl ?_
                  refine lv_goto (tgt := 164) hx hb dL_isSo_160 (by decide) ?_
                  refine lv_lor hx hb dL_isSo_164 ?_
                  refine lv_lstore (lv' := [(7, .long ((bst fl v n b i) ||| ((lN 1) <<< ((nI i).toInt64 &&& 63)))), (4, .int (nI (mx (far fl v n) i))), (6, .int (nI ((sm (ivo fl v n) i) + (cnt (ivp fl v i) j)))), (0, .ref x9), (1, .ref g), (2, .ref vv), (3, .ref nn), (5, .int (nI (cnt (fal fl v n) i))), (9, .int (nI 1)), (10, .int (nI i)), (11, .int (dst fl v n i)), (12, .int (nI (far fl v n i))), (13, .int (nI (cnt (ivp fl v i) j))), (14, .int (nI j))]) hx hb dL_isSo_165 hl (by decide) rfl (fun ls hl => ?_)
                  refine lv_iload hx hb dL_isSo_167 (lv_at hl 7 rfl) ?_
                  refine lv_aload_n hx hb dL_isSo_169 rfl (lv_at hl 4 rfl) ?_
                  refine lv_aload_n hx hb dL_isSo_170 rfl (lv_at hl 5 rfl) ?_
                  refine lv_iload hx hb dL_isSo_171 (lv_at hl 9 rfl) ?_
                  refine wv_callSi (As := [.ref g, .ref vv, .int (nI i)]) (rest := [.int (nI (cnt (fal fl v n) i))]) ⟨hx, hb, hml, hown, hts⟩ (kL_fall l D g cI n b fl me st lk cm vv cJ v i (by first | assumption | omega) (by first | assumption | omega)) (va_cwS 3 hts gL_isSo_L_fall rfl rfl rfl (by decide +kernel) ⟨Nat.le_of_ble_eq_true rfl, Nat.le_of_ble_eq_true rfl⟩) hK hN hP hS hA [8, 9] [0, 1] rfl rfl rfl hl.1 rfl (Nat.le_of_ble_eq_true rfl) dL_isSo_173 ⟨Nat.zero_le _, Nat.zero_le _⟩ (fun H locs hz9 hP hS => ?_)
                  refine wv_ifeqB (tgt := 183) hx hb dL_isSo_176 (by decide) (fun c176 => ?_) (fun c176 => ?_)
                  · skip
                    refine lv_iconst (v := nI 0) hx hb dL_isSo_183 (by decide) ?_
                    refine lv_iadd hx hb dL_isSo_184 ?_
                    refine wv_ti (nI_add _ _) ?_
                    refine lv_istore (lv' := [(5, .int (nI ((cnt (fal fl v n) i) + 0))), (7, .long ((bst fl v n b i) ||| ((lN 1) <<< ((nI i).toInt64 &&& 63)))), (4, .int (nI (mx (far fl v n) i))), (6, .int (nI ((sm (ivo fl v n) i) + (cnt (ivp fl v i) j)))), (0, .ref x9), (1, .ref g), (2, .ref vv), (3, .ref nn), (9, .int (nI 1)), (10, .int (nI i)), (11, .int (dst fl v n i)), (12, .int (nI (far fl v n i))), (13, .int (nI (cnt (ivp fl v i) j))), (14, .int (nI j))]) hx hb dL_isSo_185 hl (by decide) rfl (fun ls hl => ?_)
                    refine lv_aload_n hx hb dL_isSo_187 rfl (lv_at hl 4 rfl) ?_
                    refine lv_iload hx hb dL_isSo_188 (lv_at hl 9 rfl) ?_
                    refine wv_callSWPl (As := [.ref x9, .int (nI i)]) (rest := []) ⟨hx, hb, hml, hown, hts⟩ (kL_atOf l D x9 r r2 q co h va na ra cJ cI v nu rk n b fl me st lk cm i (by first | assumption | omega) (by first | assumption | omega)) (vx_cwSW 2 hts gL_isSo_L_atOf rfl rfl rfl (by decide +kernel) ⟨Nat.le_of_ble_eq_true rfl, Nat.le_of_ble_eq_true rfl⟩) hK hN hP hS hA [0, 1, 2, 3, 4] [0, 1] rfl rfl rfl hl.1 rfl (Nat.le_of_ble_eq_true rfl) dL_isSo_190 ⟨Nat.zero_le _, Nat.zero_le _⟩ (fun H locs hz9 hP hS => ?_)
                    refine lv_aload_n hx hb dL_isSo_193 rfl (lv_at hl 6 rfl) ?_
                    refine lv_iload hx hb dL_isSo_194 (lv_at hl 9 rfl) ?_
                    refine wv_lald hx hb hK hP 9 0 rfl rfl (k := i) (by omega) (by decide) dL_isSo_196 ?_
                    refine wv_lc_ne (tgt := 323) hx hb dL_isSo_197 dL_isSo_198 (by decide) (fun c198 => by exfalso; exact c198 rfl) (fun c198 => ?_)
                    refine lv_aload_n hx hb dL_isSo_201 rfl (lv_at hl 4 rfl) ?_
                    refine lv_iload hx hb dL_isSo_202 (lv_at hl 9 rfl) ?_
                    refine lv_iconst (v := nI 0) hx hb dL_isSo_204 (by decide) ?_
                    refine wv_callSWPi (As := [.ref x9, .int (nI i), .int (nI 0)]) (rest := []) ⟨hx, hb, hml, hown, hts⟩ (kL_elementOf l D x9 r r2 q co h va na ra cJ cI v nu rk n b fl me st lk cm i 0 (by first | assumption | omega) (by first | assumption | omega) (by first | assumption | omega) (by first | assumption | omega) (by first | assumption | omega)) (vx_cwSW 3 hts gL_isSo_L_elementOf rfl rfl rfl (by decide +kernel) ⟨Nat.le_of_ble_eq_true rfl, Nat.le_of_ble_eq_true rfl⟩) hK hN hP hS hA [0, 1, 2, 3, 4] [0, 1] rfl rfl rfl hl.1 rfl (Nat.le_of_ble_eq_true rfl) dL_isSo_205 ⟨Nat.zero_le _, Nat.zero_le _⟩ (fun H locs hz9 hP hS => ?_)
                    refine lv_aload_n hx hb dL_isSo_208 rfl (lv_at hl 7 rfl) ?_
                    refine lv_iload hx hb dL_isSo_209 (lv_at hl 9 rfl) ?_
                    refine wv_iald hx hb hK hP 10 1 rfl rfl (k := i) (by omega) (by decide) dL_isSo_211 ?_
                    refine lv_icmp_ne (tgt := 323) hx hb dL_isSo_212 (by decide) (fun c212 => by exfalso; exact c212 rfl) (fun c212 => ?_)
                    refine lv_aload_n hx hb dL_isSo_215 rfl (lv_at hl 4 rfl) ?_
                    refine lv_iload hx hb dL_isSo_216 (lv_at hl 9 rfl) ?_
                    refine lv_iconst (v := nI 1) hx hb dL_isSo_218 (by decide) ?_
                    refine wv_callSWPi (As := [.ref x9, .int (nI i), .int (nI 1)]) (rest := []) ⟨hx, hb, hml, hown, hts⟩ (kL_elementOf l D x9 r r2 q co h va na ra cJ cI v nu rk n b fl me st lk cm i 1 (by first | assumption | omega) (by first | assumption | omega) (by first | assumption | omega) (by first | assumption | omega) (by first | assumption | omega)) (vx_cwSW 3 hts gL_isSo_L_elementOf rfl rfl rfl (by decide +kernel) ⟨Nat.le_of_ble_eq_true rfl, Nat.le_of_ble_eq_true rfl⟩) hK hN hP hS hA [0, 1, 2, 3, 4] [0, 1] rfl rfl rfl hl.1 rfl (Nat.le_of_ble_eq_true rfl) dL_isSo_219 ⟨Nat.zero_le _, Nat.zero_le _⟩ (fun H locs hz9 hP hS => ?_)
                    refine lv_iload hx hb dL_isSo_222 (lv_at hl 9 rfl) ?_
                    refine lv_iload hx hb dL_isSo_224 (lv_at hl 10 rfl) ?_
                    refine lv_isub hx hb dL_isSo_226 ?_
                    refine wv_ti (y := nI (rk0 fl v n i)) (dst_rk (by omega) hn) ?_
                    refine lv_icmp_ne (tgt := 323) hx hb dL_isSo_227 (by decide) (fun c227 => by exfalso; exact c227 rfl) (fun c227 => ?_)
                    refine lv_aload_n hx hb dL_isSo_230 rfl (lv_at hl 4 rfl) ?_
                    refine lv_iload hx hb dL_isSo_231 (lv_at hl 9 rfl) ?_
                    refine lv_iconst (v := nI 2) hx hb dL_isSo_233 (by decide) ?_
                    refine wv_callSWPi (As := [.ref x9, .int (nI i), .int (nI 2)]) (rest := []) ⟨hx, hb, hml, hown, hts⟩ (kL_elementOf l D x9 r r2 q co h va na ra cJ cI v nu rk n b fl me st lk cm i 2 (by first | assumption | omega) (by first | assumption | omega) (by first | assumption | omega) (by first | assumption | omega) (by first | assumption | omega)) (vx_cwSW 3 hts gL_isSo_L_elementOf rfl rfl rfl (by decide +kernel) ⟨Nat.le_of_ble_eq_true rfl, Nat.le_of_ble_eq_true rfl⟩) hK hN hP hS hA [0, 1, 2, 3, 4] [0, 1] rfl rfl rfl hl.1 rfl (Nat.le_of_ble_eq_true rfl) dL_isSo_234 ⟨Nat.zero_le _, Nat.zero_le _⟩ (fun H locs hz9 hP hS => ?_)
                    refine lv_iload hx hb dL_isSo_237 (lv_at hl 10 rfl) ?_
                    refine lv_icmp_ne (tgt := 323) hx hb dL_isSo_239 (by decide) (fun c239 => by exfalso; exact c239 rfl) (fun c239 => ?_)
                    refine lv_aload_n hx hb dL_isSo_242 rfl (lv_at hl 4 rfl) ?_
                    refine lv_iload hx hb dL_isSo_243 (lv_at hl 9 rfl) ?_
                    refine lv_iconst (v := nI 3) hx hb dL_isSo_245 (by decide) ?_
                    refine wv_callSWPi (As := [.ref x9, .int (nI i), .int (nI 3)]) (rest := []) ⟨hx, hb, hml, hown, hts⟩ (kL_elementOf l D x9 r r2 q co h va na ra cJ cI v nu rk n b fl me st lk cm i 3 (by first | assumption | omega) (by first | assumption | omega) (by first | assumption | omega) (by first | assumption | omega) (by first | assumption | omega)) (vx_cwSW 3 hts gL_isSo_L_elementOf rfl rfl rfl (by decide +kernel) ⟨Nat.le_of_ble_eq_true rfl, Nat.le_of_ble_eq_true rfl⟩) hK hN hP hS hA [0, 1, 2, 3, 4] [0, 1] rfl rfl rfl hl.1 rfl (Nat.le_of_ble_eq_true rfl) dL_isSo_246 ⟨Nat.zero_le _, Nat.zero_le _⟩ (fun H locs hz9 hP hS => ?_)
                    refine lv_iload hx hb dL_isSo_249 (lv_at hl 11 rfl) ?_
                    refine lv_aload_n hx hb dL_isSo_251 rfl (lv_at hl 5 rfl) ?_
                    refine lv_iconst (v := nI 1) hx hb dL_isSo_252 (by decide) ?_
                    refine wv_iald hx hb hK hP 8 1 rfl rfl (k := 1) (by omega) (by decide) dL_isSo_253 ?_
                    refine wv_ti (y := nI b) rfl ?_
                    refine wv_icmp_le (tgt := 261) hx hb (by omega) (by omega) dL_isSo_254 (by decide) (fun c254 => by exfalso; omega) (fun c254 => ?_)
                    refine lv_iconst (v := nI 1) hx hb dL_isSo_257 (by decide) ?_
                    refine lv_goto (tgt := 262) hx hb dL_isSo_258 (by decide) ?_
                    refine lv_icmp_ne (tgt := 323) hx hb dL_isSo_262 (by decide) (fun c262 => by exfalso; exact c262 (by first | (show bI (brk fl v n b i) = _; rw [show brk fl v n b i = true from decide_eq_true (by omega)]; rfl) | (show bI (brk fl v n b i) = _; rw [show brk fl v n b i = false from decide_eq_false (by omega)]; rfl))) (fun c262 => ?_)
                    refine lv_aload_n hx hb dL_isSo_265 rfl (lv_at hl 4 rfl) ?_
                    refine lv_iload hx hb dL_isSo_266 (lv_at hl 9 rfl) ?_
                    refine lv_iconst (v := nI 4) hx hb dL_isSo_268 (by decide) ?_
                    refine wv_callSWPi (As := [.ref x9, .int (nI i), .int (nI 4)]) (rest := []) ⟨hx, hb, hml, hown, hts⟩ (kL_elementOf l D x9 r r2 q co h va na ra cJ cI v nu rk n b fl me st lk cm i 4 (by first | assumption | omega) (by first | assumption | omega) (by first | assumption | omega) (by first | assumption | omega) (by first | assumption | omega)) (vx_cwSW 3 hts gL_isSo_L_elementOf rfl rfl rfl (by decide +kernel) ⟨Nat.le_of_ble_eq_true rfl, Nat.le_of_ble_eq_true rfl⟩) hK hN hP hS hA [0, 1, 2, 3, 4] [0, 1] rfl rfl rfl hl.1 rfl (Nat.le_of_ble_eq_true rfl) dL_isSo_269 ⟨Nat.zero_le _, Nat.zero_le _⟩ (fun H locs hz9 hP hS => ?_)
                    refine lv_aload_n hx hb dL_isSo_272 rfl (lv_at hl 5 rfl) ?_
                    refine lv_aload_n hx hb dL_isSo_273 rfl (lv_at hl 6 rfl) ?_
                    refine lv_iload hx hb dL_isSo_274 (lv_at hl 9 rfl) ?_
                    refine wv_callSi (As := [.ref g, .ref vv, .int (nI i)]) (rest := [.int (elV fl v n b (nu i) i 4)]) ⟨hx, hb, hml, hown, hts⟩ (kL_fall l D g cI n b fl me st lk cm vv cJ v i (by first | assumption | omega) (by first | assumption | omega)) (va_cwS 3 hts gL_isSo_L_fall rfl rfl rfl (by decide +kernel) ⟨Nat.le_of_ble_eq_true rfl, Nat.le_of_ble_eq_true rfl⟩) hK hN hP hS hA [8, 9] [0, 1] rfl rfl rfl hl.1 rfl (Nat.le_of_ble_eq_true rfl) dL_isSo_276 ⟨Nat.zero_le _, Nat.zero_le _⟩ (fun H locs hz9 hP hS => ?_)
                    refine wv_ifeqB (tgt := 286) hx hb dL_isSo_279 (by decide) (fun c279 => ?_) (fun c279 => by exfalso; rw [c176] at c279; cases c279)
                    refine lv_iconst (v := nI 0) hx hb dL_isSo_286 (by decide) ?_
                    refine lv_icmp_ne (tgt := 323) hx hb dL_isSo_287 (by decide) (fun c287 => by exfalso; exact c287 (by show bI (fal fl v n i) = _; rw [c176]; rfl)) (fun c287 => ?_)
                    refine lv_aload_n hx hb dL_isSo_290 rfl (lv_at hl 4 rfl) ?_
                    refine lv_iload hx hb dL_isSo_291 (lv_at hl 9 rfl) ?_
                    refine lv_iconst (v := nI 5) hx hb dL_isSo_293 (by decide) ?_
                    refine wv_callSWPi (As := [.ref x9, .int (nI i), .int (nI 5)]) (rest := []) ⟨hx, hb, hml, hown, hts⟩ (kL_elementOf l D x9 r r2 q co h va na ra cJ cI v nu rk n b fl me st lk cm i 5 (by first | assumption | omega) (by first | assumption | omega) (by first | assumption | omega) (by first | assumption | omega) (by first | assumption | omega)) (vx_cwSW 3 hts gL_isSo_L_elementOf rfl rfl rfl (by decide +kernel) ⟨Nat.le_of_ble_eq_true rfl, Nat.le_of_ble_eq_true rfl⟩) hK hN hP hS hA [0, 1, 2, 3, 4] [0, 1] rfl rfl rfl hl.1 rfl (Nat.le_of_ble_eq_true rfl) dL_isSo_294 ⟨Nat.zero_le _, Nat.zero_le _⟩ (fun H locs hz9 hP hS => ?_)
                    refine lv_iload hx hb dL_isSo_297 (lv_at hl 12 rfl) ?_
                    refine lv_icmp_ne (tgt := 323) hx hb dL_isSo_299 (by decide) (fun c299 => by exfalso; exact c299 (by rw [show j = n by omega]; rfl)) (fun c299 => ?_)
                    refine lv_aload_n hx hb dL_isSo_302 rfl (lv_at hl 4 rfl) ?_
                    refine lv_iload hx hb dL_isSo_303 (lv_at hl 9 rfl) ?_
                    refine lv_iload hx hb dL_isSo_305 (lv_at hl 10 rfl) ?_
                    refine lv_isub hx hb dL_isSo_307 ?_
                    refine wv_ti (y := nI (rk0 fl v n i)) (dst_rk (by omega) hn) ?_
                    refine wv_callSWPl (As := [.ref x9, .int (nI (rk0 fl v n i))]) (rest := []) ⟨hx, hb, hml, hown, hts⟩ (kL_rankedOf l D x9 r r2 q co h va na ra cJ cI v nu rk n b fl me st lk cm (nI (rk0 fl v n i)) p1 (by first | assumption | omega) (by first | assumption | omega) (by first | assumption | omega)) (vx_cwSW 2 hts gL_isSo_L_rankedOf rfl rfl rfl (by decide +kernel) ⟨Nat.le_of_ble_eq_true rfl, Nat.le_of_ble_eq_true rfl⟩) hK hN hP hS hA [0, 1, 2, 3, 4] [0, 1] rfl rfl rfl hl.1 rfl (Nat.le_of_ble_eq_true rfl) dL_isSo_308 ⟨Nat.zero_le _, Nat.zero_le _⟩ (fun H locs hz9 hP hS => ?_)
                    refine lv_aload_n hx hb dL_isSo_311 rfl (lv_at hl 6 rfl) ?_
                    refine lv_iload hx hb dL_isSo_312 (lv_at hl 9 rfl) ?_
                    refine wv_lald hx hb hK hP 9 0 rfl rfl (k := i) (by omega) (by decide) dL_isSo_314 ?_
                    refine wv_lc_ne (tgt := 323) hx hb dL_isSo_315 dL_isSo_316 (by decide) (fun c316 => by exfalso; exact c316 hpv) (fun c316 => ?_)
                    refine lv_iconst (v := nI 1) hx hb dL_isSo_319 (by decide) ?_
                    refine lv_goto (tgt := 324) hx hb dL_isSo_320 (by decide) ?_
                    refine lv_istore (lv' := [(9, .int (nI 1)), (5, .int (nI ((cnt (fal fl v n) i) + 0))), (7, .long ((bst fl v n b i) ||| ((lN 1) <<< ((nI i).toInt64 &&& 63)))), (4, .int (nI (mx (far fl v n) i))), (6, .int (nI ((sm (ivo fl v n) i) + (cnt (ivp fl v i) j)))), (0, .ref x9), (1, .ref g), (2, .ref vv), (3, .ref nn), (10, .int (nI i)), (11, .int (dst fl v n i)), (12, .int (nI (far fl v n i))), (13, .int (nI (cnt (ivp fl v i) j))), (14, .int (nI j))]) hx hb dL_isSo_324 hl (by decide) rfl (fun ls hl => ?_)
                    refine lv_iinc (v := nI (i + 1)) (lv' := [(10, .int (nI (i + 1))), (9, .int (nI 1)), (5, .int (nI ((cnt (fal fl v n) i) + 0))), (7, .long ((bst fl v n b i) ||| ((lN 1) <<< ((nI i).toInt64 &&& 63)))), (4, .int (nI (mx (far fl v n) i))), (6, .int (nI ((sm (ivo fl v n) i) + (cnt (ivp fl v i) j)))), (0, .ref x9), (1, .ref g), (2, .ref vv), (3, .ref nn), (11, .int (dst fl v n i)), (12, .int (nI (far fl v n i))), (13, .int (nI (cnt (ivp fl v i) j))), (14, .int (nI j))]) hx hb dL_isSo_326 hl (k := 9) rfl (nI_1 _) (by decide) rfl (fun ls hl => ?_)
                    refine lv_goto (tgt := 18) hx hb dL_isSo_329 (by decide) ?_
                    have el_l4 : mx (far fl v n) (i + 1) = mx (far fl v n) i := by first | (rw [mx_s, Nat.max_eq_left (by omega)]; done) | (rw [mx_s, Nat.max_eq_right (by omega)]; done)
                    have el_l5 : cnt (fal fl v n) (i + 1) = (cnt (fal fl v n) i) + 0 := by first | exact cnt_t c176 | exact cnt_f c176
                    have el_l6 : sm (ivo fl v n) (i + 1) = (sm (ivo fl v n) i) + (cnt (ivp fl v i) j) := by rw [sm_s, show j = n by omega]; rfl
                    have el_l7 : bst fl v n b (i + 1) = (bst fl v n b i) ||| ((lN 1) <<< ((nI i).toInt64 &&& 63)) := by first | exact if_pos (decide_eq_true (by omega)) | (rw [lor_0]; exact if_neg (by rw [show brk fl v n b i = false from decide_eq_false (by omega)]; decide))
                    exact ih18 (i + 1) (by omega) (by first | assumption | omega) _ _ (by first | (rw [el_l5, el_l4, el_l6, el_l7]; exact hP) | (simp only [el_l5, el_l4, el_l6, el_l7]; exact hP) | exact hP) (by first | (rw [el_l5, el_l4, el_l6, el_l7]; exact hD) | (simp only [el_l5, el_l4, el_l6, el_l7]; exact hD) | exact hD) hS ls (by first | (rw [el_l5, el_l4, el_l6, el_l7]; exact lv_sub hl [6, 7, 8, 9, 4, 2, 5, 3, 1, 0] rfl) | (simp only [el_l5, el_l4, el_l6, el_l7]; exact lv_sub hl [6, 7, 8, 9, 4, 2, 5, 3, 1, 0] rfl) | exact lv_sub hl [6, 7, 8, 9, 4, 2, 5, 3, 1, 0] rfl)
                  · skip
                    refine lv_iconst (v := nI 1) hx hb dL_isSo_179 (by decide) ?_
                    refine lv_goto (tgt := 184) hx hb dL_isSo_180 (by decide) ?_
                    refine lv_iadd hx hb dL_isSo_184 ?_
                    refine wv_ti (nI_add _ _) ?_
                    refine lv_istore (lv' := [(5, .int (nI ((cnt (fal fl v n) i) + 1))), (7, .long ((bst fl v n b i) ||| ((lN 1) <<< ((nI i).toInt64 &&& 63)))), (4, .int (nI (mx (far fl v n) i))), (6, .int (nI ((sm (ivo fl v n) i) + (cnt (ivp fl v i) j)))), (0, .ref x9), (1, .ref g), (2, .ref vv), (3, .ref nn), (9, .int (nI 1)), (10, .int (nI i)), (11, .int (dst fl v n i)), (12, .int (nI (far fl v n i))), (13, .int (nI (cnt (ivp fl v i) j))), (14, .int (nI j))]) hx hb dL_isSo_185 hl (by decide) rfl (fun ls hl => ?_)
                    refine lv_aload_n hx hb dL_isSo_187 rfl (lv_at hl 4 rfl) ?_
                    refine lv_iload hx hb dL_isSo_188 (lv_at hl 9 rfl) ?_
                    refine wv_callSWPl (As := [.ref x9, .int (nI i)]) (rest := []) ⟨hx, hb, hml, hown, hts⟩ (kL_atOf l D x9 r r2 q co h va na ra cJ cI v nu rk n b fl me st lk cm i (by first | assumption | omega) (by first | assumption | omega)) (vx_cwSW 2 hts gL_isSo_L_atOf rfl rfl rfl (by decide +kernel) ⟨Nat.le_of_ble_eq_true rfl, Nat.le_of_ble_eq_true rfl⟩) hK hN hP hS hA [0, 1, 2, 3, 4] [0, 1] rfl rfl rfl hl.1 rfl (Nat.le_of_ble_eq_true rfl) dL_isSo_190 ⟨Nat.zero_le _, Nat.zero_le _⟩ (fun H locs hz9 hP hS => ?_)
                    refine lv_aload_n hx hb dL_isSo_193 rfl (lv_at hl 6 rfl) ?_
                    refine lv_iload hx hb dL_isSo_194 (lv_at hl 9 rfl) ?_
                    refine wv_lald hx hb hK hP 9 0 rfl rfl (k := i) (by omega) (by decide) dL_isSo_196 ?_
                    refine wv_lc_ne (tgt := 323) hx hb dL_isSo_197 dL_isSo_198 (by decide) (fun c198 => by exfalso; exact c198 rfl) (fun c198 => ?_)
                    refine lv_aload_n hx hb dL_isSo_201 rfl (lv_at hl 4 rfl) ?_
                    refine lv_iload hx hb dL_isSo_202 (lv_at hl 9 rfl) ?_
                    refine lv_iconst (v := nI 0) hx hb dL_isSo_204 (by decide) ?_
                    refine wv_callSWPi (As := [.ref x9, .int (nI i), .int (nI 0)]) (rest := []) ⟨hx, hb, hml, hown, hts⟩ (kL_elementOf l D x9 r r2 q co h va na ra cJ cI v nu rk n b fl me st lk cm i 0 (by first | assumption | omega) (by first | assumption | omega) (by first | assumption | omega) (by first | assumption | omega) (by first | assumption | omega)) (vx_cwSW 3 hts gL_isSo_L_elementOf rfl rfl rfl (by decide +kernel) ⟨Nat.le_of_ble_eq_true rfl, Nat.le_of_ble_eq_true rfl⟩) hK hN hP hS hA [0, 1, 2, 3, 4] [0, 1] rfl rfl rfl hl.1 rfl (Nat.le_of_ble_eq_true rfl) dL_isSo_205 ⟨Nat.zero_le _, Nat.zero_le _⟩ (fun H locs hz9 hP hS => ?_)
                    refine lv_aload_n hx hb dL_isSo_208 rfl (lv_at hl 7 rfl) ?_
                    refine lv_iload hx hb dL_isSo_209 (lv_at hl 9 rfl) ?_
                    refine wv_iald hx hb hK hP 10 1 rfl rfl (k := i) (by omega) (by decide) dL_isSo_211 ?_
                    refine lv_icmp_ne (tgt := 323) hx hb dL_isSo_212 (by decide) (fun c212 => by exfalso; exact c212 rfl) (fun c212 => ?_)
                    refine lv_aload_n hx hb dL_isSo_215 rfl (lv_at hl 4 rfl) ?_
                    refine lv_iload hx hb dL_isSo_216 (lv_at hl 9 rfl) ?_
                    refine lv_iconst (v := nI 1) hx hb dL_isSo_218 (by decide) ?_
                    refine wv_callSWPi (As := [.ref x9, .int (nI i), .int (nI 1)]) (rest := []) ⟨hx, hb, hml, hown, hts⟩ (kL_elementOf l D x9 r r2 q co h va na ra cJ cI v nu rk n b fl me st lk cm i 1 (by first | assumption | omega) (by first | assumption | omega) (by first | assumption | omega) (by first | assumption | omega) (by first | assumption | omega)) (vx_cwSW 3 hts gL_isSo_L_elementOf rfl rfl rfl (by decide +kernel) ⟨Nat.le_of_ble_eq_true rfl, Nat.le_of_ble_eq_true rfl⟩) hK hN hP hS hA [0, 1, 2, 3, 4] [0, 1] rfl rfl rfl hl.1 rfl (Nat.le_of_ble_eq_true rfl) dL_isSo_219 ⟨Nat.zero_le _, Nat.zero_le _⟩ (fun H locs hz9 hP hS => ?_)
                    refine lv_iload hx hb dL_isSo_222 (lv_at hl 9 rfl) ?_
                    refine lv_iload hx hb dL_isSo_224 (lv_at hl 10 rfl) ?_
                    refine lv_isub hx hb dL_isSo_226 ?_
                    refine wv_ti (y := nI (rk0 fl v n i)) (dst_rk (by omega) hn) ?_
                    refine lv_icmp_ne (tgt := 323) hx hb dL_isSo_227 (by decide) (fun c227 => by exfalso; exact c227 rfl) (fun c227 => ?_)
                    refine lv_aload_n hx hb dL_isSo_230 rfl (lv_at hl 4 rfl) ?_
                    refine lv_iload hx hb dL_isSo_231 (lv_at hl 9 rfl) ?_
                    refine lv_iconst (v := nI 2) hx hb dL_isSo_233 (by decide) ?_
                    refine wv_callSWPi (As := [.ref x9, .int (nI i), .int (nI 2)]) (rest := []) ⟨hx, hb, hml, hown, hts⟩ (kL_elementOf l D x9 r r2 q co h va na ra cJ cI v nu rk n b fl me st lk cm i 2 (by first | assumption | omega) (by first | assumption | omega) (by first | assumption | omega) (by first | assumption | omega) (by first | assumption | omega)) (vx_cwSW 3 hts gL_isSo_L_elementOf rfl rfl rfl (by decide +kernel) ⟨Nat.le_of_ble_eq_true rfl, Nat.le_of_ble_eq_true rfl⟩) hK hN hP hS hA [0, 1, 2, 3, 4] [0, 1] rfl rfl rfl hl.1 rfl (Nat.le_of_ble_eq_true rfl) dL_isSo_234 ⟨Nat.zero_le _, Nat.zero_le _⟩ (fun H locs hz9 hP hS => ?_)
                    refine lv_iload hx hb dL_isSo_237 (lv_at hl 10 rfl) ?_
                    refine lv_icmp_ne (tgt := 323) hx hb dL_isSo_239 (by decide) (fun c239 => by exfalso; exact c239 rfl) (fun c239 => ?_)
                    refine lv_aload_n hx hb dL_isSo_242 rfl (lv_at hl 4 rfl) ?_
                    refine lv_iload hx hb dL_isSo_243 (lv_at hl 9 rfl) ?_
                    refine lv_iconst (v := nI 3) hx hb dL_isSo_245 (by decide) ?_
                    refine wv_callSWPi (As := [.ref x9, .int (nI i), .int (nI 3)]) (rest := []) ⟨hx, hb, hml, hown, hts⟩ (kL_elementOf l D x9 r r2 q co h va na ra cJ cI v nu rk n b fl me st lk cm i 3 (by first | assumption | omega) (by first | assumption | omega) (by first | assumption | omega) (by first | assumption | omega) (by first | assumption | omega)) (vx_cwSW 3 hts gL_isSo_L_elementOf rfl rfl rfl (by decide +kernel) ⟨Nat.le_of_ble_eq_true rfl, Nat.le_of_ble_eq_true rfl⟩) hK hN hP hS hA [0, 1, 2, 3, 4] [0, 1] rfl rfl rfl hl.1 rfl (Nat.le_of_ble_eq_true rfl) dL_isSo_246 ⟨Nat.zero_le _, Nat.zero_le _⟩ (fun H locs hz9 hP hS => ?_)
                    refine lv_iload hx hb dL_isSo_249 (lv_at hl 11 rfl) ?_
                    refine lv_aload_n hx hb dL_isSo_251 rfl (lv_at hl 5 rfl) ?_
                    refine lv_iconst (v := nI 1) hx hb dL_isSo_252 (by decide) ?_
                    refine wv_iald hx hb hK hP 8 1 rfl rfl (k := 1) (by omega) (by decide) dL_isSo_253 ?_
                    refine wv_ti (y := nI b) rfl ?_
                    refine wv_icmp_le (tgt := 261) hx hb (by omega) (by omega) dL_isSo_254 (by decide) (fun c254 => by exfalso; omega) (fun c254 => ?_)
                    refine lv_iconst (v := nI 1) hx hb dL_isSo_257 (by decide) ?_
                    refine lv_goto (tgt := 262) hx hb dL_isSo_258 (by decide) ?_
                    refine lv_icmp_ne (tgt := 323) hx hb dL_isSo_262 (by decide) (fun c262 => by exfalso; exact c262 (by first | (show bI (brk fl v n b i) = _; rw [show brk fl v n b i = true from decide_eq_true (by omega)]; rfl) | (show bI (brk fl v n b i) = _; rw [show brk fl v n b i = false from decide_eq_false (by omega)]; rfl))) (fun c262 => ?_)
                    refine lv_aload_n hx hb dL_isSo_265 rfl (lv_at hl 4 rfl) ?_
                    refine lv_iload hx hb dL_isSo_266 (lv_at hl 9 rfl) ?_
                    refine lv_iconst (v := nI 4) hx hb dL_isSo_268 (by decide) ?_
                    refine wv_callSWPi (As := [.ref x9, .int (nI i), .int (nI 4)]) (rest := []) ⟨hx, hb, hml, hown, hts⟩ (kL_elementOf l D x9 r r2 q co h va na ra cJ cI v nu rk n b fl me st lk cm i 4 (by first | assumption | omega) (by first | assumption | omega) (by first | assumption | omega) (by first | assumption | omega) (by first | assumption | omega)) (vx_cwSW 3 hts gL_isSo_L_elementOf rfl rfl rfl (by decide +kernel) ⟨Nat.le_of_ble_eq_true rfl, Nat.le_of_ble_eq_true rfl⟩) hK hN hP hS hA [0, 1, 2, 3, 4] [0, 1] rfl rfl rfl hl.1 rfl (Nat.le_of_ble_eq_true rfl) dL_isSo_269 ⟨Nat.zero_le _, Nat.zero_le _⟩ (fun H locs hz9 hP hS => ?_)
                    refine lv_aload_n hx hb dL_isSo_272 rfl (lv_at hl 5 rfl) ?_
                    refine lv_aload_n hx hb dL_isSo_273 rfl (lv_at hl 6 rfl) ?_
                    refine lv_iload hx hb dL_isSo_274 (lv_at hl 9 rfl) ?_
                    refine wv_callSi (As := [.ref g, .ref vv, .int (nI i)]) (rest := [.int (elV fl v n b (nu i) i 4)]) ⟨hx, hb, hml, hown, hts⟩ (kL_fall l D g cI n b fl me st lk cm vv cJ v i (by first | assumption | omega) (by first | assumption | omega)) (va_cwS 3 hts gL_isSo_L_fall rfl rfl rfl (by decide +kernel) ⟨Nat.le_of_ble_eq_true rfl, Nat.le_of_ble_eq_true rfl⟩) hK hN hP hS hA [8, 9] [0, 1] rfl rfl rfl hl.1 rfl (Nat.le_of_ble_eq_true rfl) dL_isSo_276 ⟨Nat.zero_le _, Nat.zero_le _⟩ (fun H locs hz9 hP hS => ?_)
                    refine wv_ifeqB (tgt := 286) hx hb dL_isSo_279 (by decide) (fun c279 => by exfalso; rw [c176] at c279; cases c279) (fun c279 => ?_)
                    refine lv_iconst (v := nI 1) hx hb dL_isSo_282 (by decide) ?_
                    refine lv_goto (tgt := 287) hx hb dL_isSo_283 (by decide) ?_
                    refine lv_icmp_ne (tgt := 323) hx hb dL_isSo_287 (by decide) (fun c287 => by exfalso; exact c287 (by show bI (fal fl v n i) = _; rw [c176]; rfl)) (fun c287 => ?_)
                    refine lv_aload_n hx hb dL_isSo_290 rfl (lv_at hl 4 rfl) ?_
                    refine lv_iload hx hb dL_isSo_291 (lv_at hl 9 rfl) ?_
                    refine lv_iconst (v := nI 5) hx hb dL_isSo_293 (by decide) ?_
                    refine wv_callSWPi (As := [.ref x9, .int (nI i), .int (nI 5)]) (rest := []) ⟨hx, hb, hml, hown, hts⟩ (kL_elementOf l D x9 r r2 q co h va na ra cJ cI v nu rk n b fl me st lk cm i 5 (by first | assumption | omega) (by first | assumption | omega) (by first | assumption | omega) (by first | assumption | omega) (by first | assumption | omega)) (vx_cwSW 3 hts gL_isSo_L_elementOf rfl rfl rfl (by decide +kernel) ⟨Nat.le_of_ble_eq_true rfl, Nat.le_of_ble_eq_true rfl⟩) hK hN hP hS hA [0, 1, 2, 3, 4] [0, 1] rfl rfl rfl hl.1 rfl (Nat.le_of_ble_eq_true rfl) dL_isSo_294 ⟨Nat.zero_le _, Nat.zero_le _⟩ (fun H locs hz9 hP hS => ?_)
                    refine lv_iload hx hb dL_isSo_297 (lv_at hl 12 rfl) ?_
                    refine lv_icmp_ne (tgt := 323) hx hb dL_isSo_299 (by decide) (fun c299 => by exfalso; exact c299 (by rw [show j = n by omega]; rfl)) (fun c299 => ?_)
                    refine lv_aload_n hx hb dL_isSo_302 rfl (lv_at hl 4 rfl) ?_
                    refine lv_iload hx hb dL_isSo_303 (lv_at hl 9 rfl) ?_
                    refine lv_iload hx hb dL_isSo_305 (lv_at hl 10 rfl) ?_
                    refine lv_isub hx hb dL_isSo_307 ?_
                    refine wv_ti (y := nI (rk0 fl v n i)) (dst_rk (by omega) hn) ?_
                    refine wv_callSWPl (As := [.ref x9, .int (nI (rk0 fl v n i))]) (rest := []) ⟨hx, hb, hml, hown, hts⟩ (kL_rankedOf l D x9 r r2 q co h va na ra cJ cI v nu rk n b fl me st lk cm (nI (rk0 fl v n i)) p1 (by first | assumption | omega) (by first | assumption | omega) (by first | assumption | omega)) (vx_cwSW 2 hts gL_isSo_L_rankedOf rfl rfl rfl (by decide +kernel) ⟨Nat.le_of_ble_eq_true rfl, Nat.le_of_ble_eq_true rfl⟩) hK hN hP hS hA [0, 1, 2, 3, 4] [0, 1] rfl rfl rfl hl.1 rfl (Nat.le_of_ble_eq_true rfl) dL_isSo_308 ⟨Nat.zero_le _, Nat.zero_le _⟩ (fun H locs hz9 hP hS => ?_)
                    refine lv_aload_n hx hb dL_isSo_311 rfl (lv_at hl 6 rfl) ?_
                    refine lv_iload hx hb dL_isSo_312 (lv_at hl 9 rfl) ?_
                    refine wv_lald hx hb hK hP 9 0 rfl rfl (k := i) (by omega) (by decide) dL_isSo_314 ?_
                    refine wv_lc_ne (tgt := 323) hx hb dL_isSo_315 dL_isSo_316 (by decide) (fun c316 => by exfalso; exact c316 hpv) (fun c316 => ?_)
                    refine lv_iconst (v := nI 1) hx hb dL_isSo_319 (by decide) ?_
                    refine lv_goto (tgt := 324) hx hb dL_isSo_320 (by decide) ?_
                    refine lv_istore (lv' := [(9, .int (nI 1)), (5, .int (nI ((cnt (fal fl v n) i) + 1))), (7, .long ((bst fl v n b i) ||| ((lN 1) <<< ((nI i).toInt64 &&& 63)))), (4, .int (nI (mx (far fl v n) i))), (6, .int (nI ((sm (ivo fl v n) i) + (cnt (ivp fl v i) j)))), (0, .ref x9), (1, .ref g), (2, .ref vv), (3, .ref nn), (10, .int (nI i)), (11, .int (dst fl v n i)), (12, .int (nI (far fl v n i))), (13, .int (nI (cnt (ivp fl v i) j))), (14, .int (nI j))]) hx hb dL_isSo_324 hl (by decide) rfl (fun ls hl => ?_)
                    refine lv_iinc (v := nI (i + 1)) (lv' := [(10, .int (nI (i + 1))), (9, .int (nI 1)), (5, .int (nI ((cnt (fal fl v n) i) + 1))), (7, .long ((bst fl v n b i) ||| ((lN 1) <<< ((nI i).toInt64 &&& 63)))), (4, .int (nI (mx (far fl v n) i))), (6, .int (nI ((sm (ivo fl v n) i) + (cnt (ivp fl v i) j)))), (0, .ref x9), (1, .ref g), (2, .ref vv), (3, .ref nn), (11, .int (dst fl v n i)), (12, .int (nI (far fl v n i))), (13, .int (nI (cnt (ivp fl v i) j))), (14, .int (nI j))]) hx hb dL_isSo_326 hl (k := 9) rfl (nI_1 _) (by decide) rfl (fun ls hl => ?_)
                    refine lv_goto (tgt := 18) hx hb dL_isSo_329 (by decide) ?_
                    have el_l4 : mx (far fl v n) (i + 1) = mx (far fl v n) i := by first | (rw [mx_s, Nat.max_eq_left (by omega)]; done) | (rw [mx_s, Nat.max_eq_right (by omega)]; done)
                    have el_l5 : cnt (fal fl v n) (i + 1) = (cnt (fal fl v n) i) + 1 := by first | exact cnt_t c176 | exact cnt_f c176
                    have el_l6 : sm (ivo fl v n) (i + 1) = (sm (ivo fl v n) i) + (cnt (ivp fl v i) j) := by rw [sm_s, show j = n by omega]; rfl
                    have el_l7 : bst fl v n b (i + 1) = (bst fl v n b i) ||| ((lN 1) <<< ((nI i).toInt64 &&& 63)) := by first | exact if_pos (decide_eq_true (by omega)) | (rw [lor_0]; exact if_neg (by rw [show brk fl v n b i = false from decide_eq_false (by omega)]; decide))
                    exact ih18 (i + 1) (by omega) (by first | assumption | omega) _ _ (by first | (rw [el_l5, el_l4, el_l6, el_l7]; exact hP) | (simp only [el_l5, el_l4, el_l6, el_l7]; exact hP) | exact hP) (by first | (rw [el_l5, el_l4, el_l6, el_l7]; exact hD) | (simp only [el_l5, el_l4, el_l6, el_l7]; exact hD) | exact hD) hS ls (by first | (rw [el_l5, el_l4, el_l6, el_l7]; exact lv_sub hl [6, 7, 8, 9, 4, 2, 5, 3, 1, 0] rfl) | (simp only [el_l5, el_l4, el_l6, el_l7]; exact lv_sub hl [6, 7, 8, 9, 4, 2, 5, 3, 1, 0] rfl) | exact lv_sub hl [6, 7, 8, 9, 4, 2, 5, 3, 1, 0] rfl)
              · skip
                refine lv_iload hx hb dL_isSo_137 (lv_at hl 11 rfl) ?_
                refine lv_goto (tgt := 144) hx hb dL_isSo_139 (by decide) ?_
                refine lv_istore (lv' := [(4, .int (nI (far fl v n i))), (6, .int (nI ((sm (ivo fl v n) i) + (cnt (ivp fl v i) j)))), (0, .ref x9), (1, .ref g), (2, .ref vv), (3, .ref nn), (5, .int (nI (cnt (fal fl v n) i))), (7, .long (bst fl v n b i)), (9, .int (nI 1)), (10, .int (nI i)), (11, .int (dst fl v n i)), (12, .int (nI (far fl v n i))), (13, .int (nI (cnt (ivp fl v i) j))), (14, .int (nI j))]) hx hb dL_isSo_144 hl (by decide) rfl (fun ls hl => ?_)
                refine lv_lload hx hb dL_isSo_146 (lv_at hl 7 rfl) ?_
                refine lv_iload hx hb dL_isSo_148 (lv_at hl 11 rfl) ?_
                refine lv_aload_n hx hb dL_isSo_150 rfl (lv_at hl 3 rfl) ?_
                refine lv_iconst (v := nI 1) hx hb dL_isSo_151 (by decide) ?_
                refine wv_iald hx hb hK hP 8 1 rfl rfl (k := 1) (by omega) (by decide) dL_isSo_152 ?_
                refine wv_ti (y := nI b) rfl ?_
                refine wv_icmp_le (tgt := 163) hx hb (by omega) (by omega) dL_isSo_153 (by decide) (fun c153 => ?_) (fun c153 => ?_)
                · skip
                  refine lv_lconst (v := lN 0) hx hb dL_isSo_163 rfl ?_
                  refine lv_lor hx hb dL_isSo_164 ?_
                  refine lv_lstore (lv' := [(7, .long ((bst fl v n b i) ||| (lN 0))), (4, .int (nI (far fl v n i))), (6, .int (nI ((sm (ivo fl v n) i) + (cnt (ivp fl v i) j)))), (0, .ref x9), (1, .ref g), (2, .ref vv), (3, .ref nn), (5, .int (nI (cnt (fal fl v n) i))), (9, .int (nI 1)), (10, .int (nI i)), (11, .int (dst fl v n i)), (12, .int (nI (far fl v n i))), (13, .int (nI (cnt (ivp fl v i) j))), (14, .int (nI j))]) hx hb dL_isSo_165 hl (by decide) rfl (fun ls hl => ?_)
                  refine lv_iload hx hb dL_isSo_167 (lv_at hl 7 rfl) ?_
                  refine lv_aload_n hx hb dL_isSo_169 rfl (lv_at hl 4 rfl) ?_
                  refine lv_aload_n hx hb dL_isSo_170 rfl (lv_at hl 5 rfl) ?_
                  refine lv_iload hx hb dL_isSo_171 (lv_at hl 9 rfl) ?_
                  refine wv_callSi (As := [.ref g, .ref vv, .int (nI i)]) (rest := [.int (nI (cnt (fal fl v n) i))]) ⟨hx, hb, hml, hown, hts⟩ (kL_fall l D g cI n b fl me st lk cm vv cJ v i (by first | assumption | omega) (by first | assumption | omega)) (va_cwS 3 hts gL_isSo_L_fall rfl rfl rfl (by decide +kernel) ⟨Nat.le_of_ble_eq_true rfl, Nat.le_of_ble_eq_true rfl⟩) hK hN hP hS hA [8, 9] [0, 1] rfl rfl rfl hl.1 rfl (Nat.le_of_ble_eq_true rfl) dL_isSo_173 ⟨Nat.zero_le _, Nat.zero_le _⟩ (fun H locs hz9 hP hS => ?_)
                  refine wv_ifeqB (tgt := 183) hx hb dL_isSo_176 (by decide) (fun c176 => ?_) (fun c176 => ?_)
                  · skip
                    refine lv_iconst (v := nI 0) hx hb dL_isSo_183 (by decide) ?_
                    refine lv_iadd hx hb dL_isSo_184 ?_
                    refine wv_ti (nI_add _ _) ?_
                    refine lv_istore (lv' := [(5, .int (nI ((cnt (fal fl v n) i) + 0))), (7, .long ((bst fl v n b i) ||| (lN 0))), (4, .int (nI (far fl v n i))), (6, .int (nI ((sm (ivo fl v n) i) + (cnt (ivp fl v i) j)))), (0, .ref x9), (1, .ref g), (2, .ref vv), (3, .ref nn), (9, .int (nI 1)), (10, .int (nI i)), (11, .int (dst fl v n i)), (12, .int (nI (far fl v n i))), (13, .int (nI (cnt (ivp fl v i) j))), (14, .int (nI j))]) hx hb dL_isSo_185 hl (by decide) rfl (fun ls hl => ?_)
                    refine lv_aload_n hx hb dL_isSo_187 rfl (lv_at hl 4 rfl) ?_
                    refine lv_iload hx hb dL_isSo_188 (lv_at hl 9 rfl) ?_
                    refine wv_callSWPl (As := [.ref x9, .int (nI i)]) (rest := []) ⟨hx, hb, hml, hown, hts⟩ (kL_atOf l D x9 r r2 q co h va na ra cJ cI v nu rk n b fl me st lk cm i (by first | assumption | omega) (by first | assumption | omega)) (vx_cwSW 2 hts gL_isSo_L_atOf rfl rfl rfl (by decide +kernel) ⟨Nat.le_of_ble_eq_true rfl, Nat.le_of_ble_eq_true rfl⟩) hK hN hP hS hA [0, 1, 2, 3, 4] [0, 1] rfl rfl rfl hl.1 rfl (Nat.le_of_ble_eq_true rfl) dL_isSo_190 ⟨Nat.zero_le _, Nat.zero_le _⟩ (fun H locs hz9 hP hS => ?_)
                    refine lv_aload_n hx hb dL_isSo_193 rfl (lv_at hl 6 rfl) ?_
                    refine lv_iload hx hb dL_isSo_194 (lv_at hl 9 rfl) ?_
                    refine wv_lald hx hb hK hP 9 0 rfl rfl (k := i) (by omega) (by decide) dL_isSo_196 ?_
                    refine wv_lc_ne (tgt := 323) hx hb dL_isSo_197 dL_isSo_198 (by decide) (fun c198 => by exfalso; exact c198 rfl) (fun c198 => ?_)
                    refine lv_aload_n hx hb dL_isSo_201 rfl (lv_at hl 4 rfl) ?_
                    refine lv_iload hx hb dL_isSo_202 (lv_at hl 9 rfl) ?_
                    refine lv_iconst (v := nI 0) hx hb dL_isSo_204 (by decide) ?_
                    refine wv_callSWPi (As := [.ref x9, .int (nI i), .int (nI 0)]) (rest := []) ⟨hx, hb, hml, hown, hts⟩ (kL_elementOf l D x9 r r2 q co h va na ra cJ cI v nu rk n b fl me st lk cm i 0 (by first | assumption | omega) (by first | assumption | omega) (by first | assumption | omega) (by first | assumption | omega) (by first | assumption | omega)) (vx_cwSW 3 hts gL_isSo_L_elementOf rfl rfl rfl (by decide +kernel) ⟨Nat.le_of_ble_eq_true rfl, Nat.le_of_ble_eq_true rfl⟩) hK hN hP hS hA [0, 1, 2, 3, 4] [0, 1] rfl rfl rfl hl.1 rfl (Nat.le_of_ble_eq_true rfl) dL_isSo_205 ⟨Nat.zero_le _, Nat.zero_le _⟩ (fun H locs hz9 hP hS => ?_)
                    refine lv_aload_n hx hb dL_isSo_208 rfl (lv_at hl 7 rfl) ?_
                    refine lv_iload hx hb dL_isSo_209 (lv_at hl 9 rfl) ?_
                    refine wv_iald hx hb hK hP 10 1 rfl rfl (k := i) (by omega) (by decide) dL_isSo_211 ?_
                    refine lv_icmp_ne (tgt := 323) hx hb dL_isSo_212 (by decide) (fun c212 => by exfalso; exact c212 rfl) (fun c212 => ?_)
                    refine lv_aload_n hx hb dL_isSo_215 rfl (lv_at hl 4 rfl) ?_
                    refine lv_iload hx hb dL_isSo_216 (lv_at hl 9 rfl) ?_
                    refine lv_iconst (v := nI 1) hx hb dL_isSo_218 (by decide) ?_
                    refine wv_callSWPi (As := [.ref x9, .int (nI i), .int (nI 1)]) (rest := []) ⟨hx, hb, hml, hown, hts⟩ (kL_elementOf l D x9 r r2 q co h va na ra cJ cI v nu rk n b fl me st lk cm i 1 (by first | assumption | omega) (by first | assumption | omega) (by first | assumption | omega) (by first | assumption | omega) (by first | assumption | omega)) (vx_cwSW 3 hts gL_isSo_L_elementOf rfl rfl rfl (by decide +kernel) ⟨Nat.le_of_ble_eq_true rfl, Nat.le_of_ble_eq_true rfl⟩) hK hN hP hS hA [0, 1, 2, 3, 4] [0, 1] rfl rfl rfl hl.1 rfl (Nat.le_of_ble_eq_true rfl) dL_isSo_219 ⟨Nat.zero_le _, Nat.zero_le _⟩ (fun H locs hz9 hP hS => ?_)
                    refine lv_iload hx hb dL_isSo_222 (lv_at hl 9 rfl) ?_
                    refine lv_iload hx hb dL_isSo_224 (lv_at hl 10 rfl) ?_
                    refine lv_isub hx hb dL_isSo_226 ?_
                    refine wv_ti (y := nI (rk0 fl v n i)) (dst_rk (by omega) hn) ?_
                    refine lv_icmp_ne (tgt := 323) hx hb dL_isSo_227 (by decide) (fun c227 => by exfalso; exact c227 rfl) (fun c227 => ?_)
                    refine lv_aload_n hx hb dL_isSo_230 rfl (lv_at hl 4 rfl) ?_
                    refine lv_iload hx hb dL_isSo_231 (lv_at hl 9 rfl) ?_
                    refine lv_iconst (v := nI 2) hx hb dL_isSo_233 (by decide) ?_
                    refine wv_callSWPi (As := [.ref x9, .int (nI i), .int (nI 2)]) (rest := []) ⟨hx, hb, hml, hown, hts⟩ (kL_elementOf l D x9 r r2 q co h va na ra cJ cI v nu rk n b fl me st lk cm i 2 (by first | assumption | omega) (by first | assumption | omega) (by first | assumption | omega) (by first | assumption | omega) (by first | assumption | omega)) (vx_cwSW 3 hts gL_isSo_L_elementOf rfl rfl rfl (by decide +kernel) ⟨Nat.le_of_ble_eq_true rfl, Nat.le_of_ble_eq_true rfl⟩) hK hN hP hS hA [0, 1, 2, 3, 4] [0, 1] rfl rfl rfl hl.1 rfl (Nat.le_of_ble_eq_true rfl) dL_isSo_234 ⟨Nat.zero_le _, Nat.zero_le _⟩ (fun H locs hz9 hP hS => ?_)
                    refine lv_iload hx hb dL_isSo_237 (lv_at hl 10 rfl) ?_
                    refine lv_icmp_ne (tgt := 323) hx hb dL_isSo_239 (by decide) (fun c239 => by exfalso; exact c239 rfl) (fun c239 => ?_)
                    refine lv_aload_n hx hb dL_isSo_242 rfl (lv_at hl 4 rfl) ?_
                    refine lv_iload hx hb dL_isSo_243 (lv_at hl 9 rfl) ?_
                    refine lv_iconst (v := nI 3) hx hb dL_isSo_245 (by decide) ?_
                    refine wv_callSWPi (As := [.ref x9, .int (nI i), .int (nI 3)]) (rest := []) ⟨hx, hb, hml, hown, hts⟩ (kL_elementOf l D x9 r r2 q co h va na ra cJ cI v nu rk n b fl me st lk cm i 3 (by first | assumption | omega) (by first | assumption | omega) (by first | assumption | omega) (by first | assumption | omega) (by first | assumption | omega)) (vx_cwSW 3 hts gL_isSo_L_elementOf rfl rfl rfl (by decide +kernel) ⟨Nat.le_of_ble_eq_true rfl, Nat.le_of_ble_eq_true rfl⟩) hK hN hP hS hA [0, 1, 2, 3, 4] [0, 1] rfl rfl rfl hl.1 rfl (Nat.le_of_ble_eq_true rfl) dL_isSo_246 ⟨Nat.zero_le _, Nat.zero_le _⟩ (fun H locs hz9 hP hS => ?_)
                    refine lv_iload hx hb dL_isSo_249 (lv_at hl 11 rfl) ?_
                    refine lv_aload_n hx hb dL_isSo_251 rfl (lv_at hl 5 rfl) ?_
                    refine lv_iconst (v := nI 1) hx hb dL_isSo_252 (by decide) ?_
                    refine wv_iald hx hb hK hP 8 1 rfl rfl (k := 1) (by omega) (by decide) dL_isSo_253 ?_
                    refine wv_ti (y := nI b) rfl ?_
                    refine wv_icmp_le (tgt := 261) hx hb (by omega) (by omega) dL_isSo_254 (by decide) (fun c254 => ?_) (fun c254 => by exfalso; omega)
                    refine lv_iconst (v := nI 0) hx hb dL_isSo_261 (by decide) ?_
                    refine lv_icmp_ne (tgt := 323) hx hb dL_isSo_262 (by decide) (fun c262 => by exfalso; exact c262 (by first | (show bI (brk fl v n b i) = _; rw [show brk fl v n b i = true from decide_eq_true (by omega)]; rfl) | (show bI (brk fl v n b i) = _; rw [show brk fl v n b i = false from decide_eq_false (by omega)]; rfl))) (fun c262 => ?_)
                    refine lv_aload_n hx hb dL_isSo_265 rfl (lv_at hl 4 rfl) ?_
                    refine lv_iload hx hb dL_isSo_266 (lv_at hl 9 rfl) ?_
                    refine lv_iconst (v := nI 4) hx hb dL_isSo_268 (by decide) ?_
                    refine wv_callSWPi (As := [.ref x9, .int (nI i), .int (nI 4)]) (rest := []) ⟨hx, hb, hml, hown, hts⟩ (kL_elementOf l D x9 r r2 q co h va na ra cJ cI v nu rk n b fl me st lk cm i 4 (by first | assumption | omega) (by first | assumption | omega) (by first | assumption | omega) (by first | assumption | omega) (by first | assumption | omega)) (vx_cwSW 3 hts gL_isSo_L_elementOf rfl rfl rfl (by decide +kernel) ⟨Nat.le_of_ble_eq_true rfl, Nat.le_of_ble_eq_true rfl⟩) hK hN hP hS hA [0, 1, 2, 3, 4] [0, 1] rfl rfl rfl hl.1 rfl (Nat.le_of_ble_eq_true rfl) dL_isSo_269 ⟨Nat.zero_le _, Nat.zero_le _⟩ (fun H locs hz9 hP hS => ?_)
                    refine lv_aload_n hx hb dL_isSo_272 rfl (lv_at hl 5 rfl) ?_
                    refine lv_aload_n hx hb dL_isSo_273 rfl (lv_at hl 6 rfl) ?_
                    refine lv_iload hx hb dL_isSo_274 (lv_at hl 9 rfl) ?_
                    refine wv_callSi (As := [.ref g, .ref vv, .int (nI i)]) (rest := [.int (elV fl v n b (nu i) i 4)]) ⟨hx, hb, hml, hown, hts⟩ (kL_fall l D g cI n b fl me st lk cm vv cJ v i (by first | assumption | omega) (by first | assumption | omega)) (va_cwS 3 hts gL_isSo_L_fall rfl rfl rfl (by decide +kernel) ⟨Nat.le_of_ble_eq_true rfl, Nat.le_of_ble_eq_true rfl⟩) hK hN hP hS hA [8, 9] [0, 1] rfl rfl rfl hl.1 rfl (Nat.le_of_ble_eq_true rfl) dL_isSo_276 ⟨Nat.zero_le _, Nat.zero_le _⟩ (fun H locs hz9 hP hS => ?_)
                    refine wv_ifeqB (tgt := 286) hx hb dL_isSo_279 (by decide) (fun c279 => ?_) (fun c279 => by exfalso; rw [c176] at c279; cases c279)
                    refine lv_iconst (v := nI 0) hx hb dL_isSo_286 (by decide) ?_
                    refine lv_icmp_ne (tgt := 323) hx hb dL_isSo_287 (by decide) (fun c287 => by exfalso; exact c287 (by show bI (fal fl v n i) = _; rw [c176]; rfl)) (fun c287 => ?_)
                    refine lv_aload_n hx hb dL_isSo_290 rfl (lv_at hl 4 rfl) ?_
                    refine lv_iload hx hb dL_isSo_291 (lv_at hl 9 rfl) ?_
                    refine lv_iconst (v := nI 5) hx hb dL_isSo_293 (by decide) ?_
                    refine wv_callSWPi (As := [.ref x9, .int (nI i), .int (nI 5)]) (rest := []) ⟨hx, hb, hml, hown, hts⟩ (kL_elementOf l D x9 r r2 q co h va na ra cJ cI v nu rk n b fl me st lk cm i 5 (by first | assumption | omega) (by first | assumption | omega) (by first | assumption | omega) (by first | assumption | omega) (by first | assumption | omega)) (vx_cwSW 3 hts gL_isSo_L_elementOf rfl rfl rfl (by decide +kernel) ⟨Nat.le_of_ble_eq_true rfl, Nat.le_of_ble_eq_true rfl⟩) hK hN hP hS hA [0, 1, 2, 3, 4] [0, 1] rfl rfl rfl hl.1 rfl (Nat.le_of_ble_eq_true rfl) dL_isSo_294 ⟨Nat.zero_le _, Nat.zero_le _⟩ (fun H locs hz9 hP hS => ?_)
                    refine lv_iload hx hb dL_isSo_297 (lv_at hl 12 rfl) ?_
                    refine lv_icmp_ne (tgt := 323) hx hb dL_isSo_299 (by decide) (fun c299 => by exfalso; exact c299 (by rw [show j = n by omega]; rfl)) (fun c299 => ?_)
                    refine lv_aload_n hx hb dL_isSo_302 rfl (lv_at hl 4 rfl) ?_
                    refine lv_iload hx hb dL_isSo_303 (lv_at hl 9 rfl) ?_
                    refine lv_iload hx hb dL_isSo_305 (lv_at hl 10 rfl) ?_
                    refine lv_isub hx hb dL_isSo_307 ?_
                    refine wv_ti (y := nI (rk0 fl v n i)) (dst_rk (by omega) hn) ?_
                    refine wv_callSWPl (As := [.ref x9, .int (nI (rk0 fl v n i))]) (rest := []) ⟨hx, hb, hml, hown, hts⟩ (kL_rankedOf l D x9 r r2 q co h va na ra cJ cI v nu rk n b fl me st lk cm (nI (rk0 fl v n i)) p1 (by first | assumption | omega) (by first | assumption | omega) (by first | assumption | omega)) (vx_cwSW 2 hts gL_isSo_L_rankedOf rfl rfl rfl (by decide +kernel) ⟨Nat.le_of_ble_eq_true rfl, Nat.le_of_ble_eq_true rfl⟩) hK hN hP hS hA [0, 1, 2, 3, 4] [0, 1] rfl rfl rfl hl.1 rfl (Nat.le_of_ble_eq_true rfl) dL_isSo_308 ⟨Nat.zero_le _, Nat.zero_le _⟩ (fun H locs hz9 hP hS => ?_)
                    refine lv_aload_n hx hb dL_isSo_311 rfl (lv_at hl 6 rfl) ?_
                    refine lv_iload hx hb dL_isSo_312 (lv_at hl 9 rfl) ?_
                    refine wv_lald hx hb hK hP 9 0 rfl rfl (k := i) (by omega) (by decide) dL_isSo_314 ?_
                    refine wv_lc_ne (tgt := 323) hx hb dL_isSo_315 dL_isSo_316 (by decide) (fun c316 => by exfalso; exact c316 hpv) (fun c316 => ?_)
                    refine lv_iconst (v := nI 1) hx hb dL_isSo_319 (by decide) ?_
                    refine lv_goto (tgt := 324) hx hb dL_isSo_320 (by decide) ?_
                    refine lv_istore (lv' := [(9, .int (nI 1)), (5, .int (nI ((cnt (fal fl v n) i) + 0))), (7, .long ((bst fl v n b i) ||| (lN 0))), (4, .int (nI (far fl v n i))), (6, .int (nI ((sm (ivo fl v n) i) + (cnt (ivp fl v i) j)))), (0, .ref x9), (1, .ref g), (2, .ref vv), (3, .ref nn), (10, .int (nI i)), (11, .int (dst fl v n i)), (12, .int (nI (far fl v n i))), (13, .int (nI (cnt (ivp fl v i) j))), (14, .int (nI j))]) hx hb dL_isSo_324 hl (by decide) rfl (fun ls hl => ?_)
                    refine lv_iinc (v := nI (i + 1)) (lv' := [(10, .int (nI (i + 1))), (9, .int (nI 1)), (5, .int (nI ((cnt (fal fl v n) i) + 0))), (7, .long ((bst fl v n b i) ||| (lN 0))), (4, .int (nI (far fl v n i))), (6, .int (nI ((sm (ivo fl v n) i) + (cnt (ivp fl v i) j)))), (0, .ref x9), (1, .ref g), (2, .ref vv), (3, .ref nn), (11, .int (dst fl v n i)), (12, .int (nI (far fl v n i))), (13, .int (nI (cnt (ivp fl v i) j))), (14, .int (nI j))]) hx hb dL_isSo_326 hl (k := 9) rfl (nI_1 _) (by decide) rfl (fun ls hl => ?_)
                    refine lv_goto (tgt := 18) hx hb dL_isSo_329 (by decide) ?_
                    have el_l4 : mx (far fl v n) (i + 1) = far fl v n i := by first | (rw [mx_s, Nat.max_eq_left (by omega)]; done) | (rw [mx_s, Nat.max_eq_right (by omega)]; done)
                    have el_l5 : cnt (fal fl v n) (i + 1) = (cnt (fal fl v n) i) + 0 := by first | exact cnt_t c176 | exact cnt_f c176
                    have el_l6 : sm (ivo fl v n) (i + 1) = (sm (ivo fl v n) i) + (cnt (ivp fl v i) j) := by rw [sm_s, show j = n by omega]; rfl
                    have el_l7 : bst fl v n b (i + 1) = (bst fl v n b i) ||| (lN 0) := by first | exact if_pos (decide_eq_true (by omega)) | (rw [lor_0]; exact if_neg (by rw [show brk fl v n b i = false from decide_eq_false (by omega)]; decide))
                    exact ih18 (i + 1) (by omega) (by first | assumption | omega) _ _ (by first | (rw [el_l5, el_l4, el_l6, el_l7]; exact hP) | (simp only [el_l5, el_l4, el_l6, el_l7]; exact hP) | exact hP) (by first | (rw [el_l5, el_l4, el_l6, el_l7]; exact hD) | (simp only [el_l5, el_l4, el_l6, el_l7]; exact hD) | exact hD) hS ls (by first | (rw [el_l5, el_l4, el_l6, el_l7]; exact lv_sub hl [6, 7, 8, 9, 4, 2, 5, 3, 1, 0] rfl) | (simp only [el_l5, el_l4, el_l6, el_l7]; exact lv_sub hl [6, 7, 8, 9, 4, 2, 5, 3, 1, 0] rfl) | exact lv_sub hl [6, 7, 8, 9, 4, 2, 5, 3, 1, 0] rfl)
                  · skip
                    refine lv_iconst (v := nI 1) hx hb dL_isSo_179 (by decide) ?_
                    refine lv_goto (tgt := 184) hx hb dL_isSo_180 (by decide) ?_
                    refine lv_iadd hx hb dL_isSo_184 ?_
                    refine wv_ti (nI_add _ _) ?_
                    refine lv_istore (lv' := [(5, .int (nI ((cnt (fal fl v n) i) + 1))), (7, .long ((bst fl v n b i) ||| (lN 0))), (4, .int (nI (far fl v n i))), (6, .int (nI ((sm (ivo fl v n) i) + (cnt (ivp fl v i) j)))), (0, .ref x9), (1, .ref g), (2, .ref vv), (3, .ref nn), (9, .int (nI 1)), (10, .int (nI i)), (11, .int (dst fl v n i)), (12, .int (nI (far fl v n i))), (13, .int (nI (cnt (ivp fl v i) j))), (14, .int (nI j))]) hx hb dL_isSo_185 hl (by decide) rfl (fun ls hl => ?_)
                    refine lv_aload_n hx hb dL_isSo_187 rfl (lv_at hl 4 rfl) ?_
                    refine lv_iload hx hb dL_isSo_188 (lv_at hl 9 rfl) ?_
                    refine wv_callSWPl (As := [.ref x9, .int (nI i)]) (rest := []) ⟨hx, hb, hml, hown, hts⟩ (kL_atOf l D x9 r r2 q co h va na ra cJ cI v nu rk n b fl me st lk cm i (by first | assumption | omega) (by first | assumption | omega)) (vx_cwSW 2 hts gL_isSo_L_atOf rfl rfl rfl (by decide +kernel) ⟨Nat.le_of_ble_eq_true rfl, Nat.le_of_ble_eq_true rfl⟩) hK hN hP hS hA [0, 1, 2, 3, 4] [0, 1] rfl rfl rfl hl.1 rfl (Nat.le_of_ble_eq_true rfl) dL_isSo_190 ⟨Nat.zero_le _, Nat.zero_le _⟩ (fun H locs hz9 hP hS => ?_)
                    refine lv_aload_n hx hb dL_isSo_193 rfl (lv_at hl 6 rfl) ?_
                    refine lv_iload hx hb dL_isSo_194 (lv_at hl 9 rfl) ?_
                    refine wv_lald hx hb hK hP 9 0 rfl rfl (k := i) (by omega) (by decide) dL_isSo_196 ?_
                    refine wv_lc_ne (tgt := 323) hx hb dL_isSo_197 dL_isSo_198 (by decide) (fun c198 => by exfalso; exact c198 rfl) (fun c198 => ?_)
                    refine lv_aload_n hx hb dL_isSo_201 rfl (lv_at hl 4 rfl) ?_
                    refine lv_iload hx hb dL_isSo_202 (lv_at hl 9 rfl) ?_
                    refine lv_iconst (v := nI 0) hx hb dL_isSo_204 (by decide) ?_
                    refine wv_callSWPi (As := [.ref x9, .int (nI i), .int (nI 0)]) (rest := []) ⟨hx, hb, hml, hown, hts⟩ (kL_elementOf l D x9 r r2 q co h va na ra cJ cI v nu rk n b fl me st lk cm i 0 (by first | assumption | omega) (by first | assumption | omega) (by first | assumption | omega) (by first | assumption | omega) (by first | assumption | omega)) (vx_cwSW 3 hts gL_isSo_L_elementOf rfl rfl rfl (by decide +kernel) ⟨Nat.le_of_ble_eq_true rfl, Nat.le_of_ble_eq_true rfl⟩) hK hN hP hS hA [0, 1, 2, 3, 4] [0, 1] rfl rfl rfl hl.1 rfl (Nat.le_of_ble_eq_true rfl) dL_isSo_205 ⟨Nat.zero_le _, Nat.zero_le _⟩ (fun H locs hz9 hP hS => ?_)
                    refine lv_aload_n hx hb dL_isSo_208 rfl (lv_at hl 7 rfl) ?_
                    refine lv_iload hx hb dL_isSo_209 (lv_at hl 9 rfl) ?_
                    refine wv_iald hx hb hK hP 10 1 rfl rfl (k := i) (by omega) (by decide) dL_isSo_211 ?_
                    refine lv_icmp_ne (tgt := 323) hx hb dL_isSo_212 (by decide) (fun c212 => by exfalso; exact c212 rfl) (fun c212 => ?_)
                    refine lv_aload_n hx hb dL_isSo_215 rfl (lv_at hl 4 rfl) ?_
                    refine lv_iload hx hb dL_isSo_216 (lv_at hl 9 rfl) ?_
                    refine lv_iconst (v := nI 1) hx hb dL_isSo_218 (by decide) ?_
                    refine wv_callSWPi (As := [.ref x9, .int (nI i), .int (nI 1)]) (rest := []) ⟨hx, hb, hml, hown, hts⟩ (kL_elementOf l D x9 r r2 q co h va na ra cJ cI v nu rk n b fl me st lk cm i 1 (by first | assumption | omega) (by first | assumption | omega) (by first | assumption | omega) (by first | assumption | omega) (by first | assumption | omega)) (vx_cwSW 3 hts gL_isSo_L_elementOf rfl rfl rfl (by decide +kernel) ⟨Nat.le_of_ble_eq_true rfl, Nat.le_of_ble_eq_true rfl⟩) hK hN hP hS hA [0, 1, 2, 3, 4] [0, 1] rfl rfl rfl hl.1 rfl (Nat.le_of_ble_eq_true rfl) dL_isSo_219 ⟨Nat.zero_le _, Nat.zero_le _⟩ (fun H locs hz9 hP hS => ?_)
                    refine lv_iload hx hb dL_isSo_222 (lv_at hl 9 rfl) ?_
                    refine lv_iload hx hb dL_isSo_224 (lv_at hl 10 rfl) ?_
                    refine lv_isub hx hb dL_isSo_226 ?_
                    refine wv_ti (y := nI (rk0 fl v n i)) (dst_rk (by omega) hn) ?_
                    refine lv_icmp_ne (tgt := 323) hx hb dL_isSo_227 (by decide) (fun c227 => by exfalso; exact c227 rfl) (fun c227 => ?_)
                    refine lv_aload_n hx hb dL_isSo_230 rfl (lv_at hl 4 rfl) ?_
                    refine lv_iload hx hb dL_isSo_231 (lv_at hl 9 rfl) ?_
                    refine lv_iconst (v := nI 2) hx hb dL_isSo_233 (by decide) ?_
                    refine wv_callSWPi (As := [.ref x9, .int (nI i), .int (nI 2)]) (rest := []) ⟨hx, hb, hml, hown, hts⟩ (kL_elementOf l D x9 r r2 q co h va na ra cJ cI v nu rk n b fl me st lk cm i 2 (by first | assumption | omega) (by first | assumption | omega) (by first | assumption | omega) (by first | assumption | omega) (by first | assumption | omega)) (vx_cwSW 3 hts gL_isSo_L_elementOf rfl rfl rfl (by decide +kernel) ⟨Nat.le_of_ble_eq_true rfl, Nat.le_of_ble_eq_true rfl⟩) hK hN hP hS hA [0, 1, 2, 3, 4] [0, 1] rfl rfl rfl hl.1 rfl (Nat.le_of_ble_eq_true rfl) dL_isSo_234 ⟨Nat.zero_le _, Nat.zero_le _⟩ (fun H locs hz9 hP hS => ?_)
                    refine lv_iload hx hb dL_isSo_237 (lv_at hl 10 rfl) ?_
                    refine lv_icmp_ne (tgt := 323) hx hb dL_isSo_239 (by decide) (fun c239 => by exfalso; exact c239 rfl) (fun c239 => ?_)
                    refine lv_aload_n hx hb dL_isSo_242 rfl (lv_at hl 4 rfl) ?_
                    refine lv_iload hx hb dL_isSo_243 (lv_at hl 9 rfl) ?_
                    refine lv_iconst (v := nI 3) hx hb dL_isSo_245 (by decide) ?_
                    refine wv_callSWPi (As := [.ref x9, .int (nI i), .int (nI 3)]) (rest := []) ⟨hx, hb, hml, hown, hts⟩ (kL_elementOf l D x9 r r2 q co h va na ra cJ cI v nu rk n b fl me st lk cm i 3 (by first | assumption | omega) (by first | assumption | omega) (by first | assumption | omega) (by first | assumption | omega) (by first | assumption | omega)) (vx_cwSW 3 hts gL_isSo_L_elementOf rfl rfl rfl (by decide +kernel) ⟨Nat.le_of_ble_eq_true rfl, Nat.le_of_ble_eq_true rfl⟩) hK hN hP hS hA [0, 1, 2, 3, 4] [0, 1] rfl rfl rfl hl.1 rfl (Nat.le_of_ble_eq_true rfl) dL_isSo_246 ⟨Nat.zero_le _, Nat.zero_le _⟩ (fun H locs hz9 hP hS => ?_)
                    refine lv_iload hx hb dL_isSo_249 (lv_at hl 11 rfl) ?_
                    refine lv_aload_n hx hb dL_isSo_251 rfl (lv_at hl 5 rfl) ?_
                    refine lv_iconst (v := nI 1) hx hb dL_isSo_252 (by decide) ?_
                    refine wv_iald hx hb hK hP 8 1 rfl rfl (k := 1) (by omega) (by decide) dL_isSo_253 ?_
                    refine wv_ti (y := nI b) rfl ?_
                    refine wv_icmp_le (tgt := 261) hx hb (by omega) (by omega) dL_isSo_254 (by decide) (fun c254 => ?_) (fun c254 => by exfalso; omega)
                    refine lv_iconst (v := nI 0) hx hb dL_isSo_261 (by decide) ?_
                    refine lv_icmp_ne (tgt := 323) hx hb dL_isSo_262 (by decide) (fun c262 => by exfalso; exact c262 (by first | (show bI (brk fl v n b i) = _; rw [show brk fl v n b i = true from decide_eq_true (by omega)]; rfl) | (show bI (brk fl v n b i) = _; rw [show brk fl v n b i = false from decide_eq_false (by omega)]; rfl))) (fun c262 => ?_)
                    refine lv_aload_n hx hb dL_isSo_265 rfl (lv_at hl 4 rfl) ?_
                    refine lv_iload hx hb dL_isSo_266 (lv_at hl 9 rfl) ?_
                    refine lv_iconst (v := nI 4) hx hb dL_isSo_268 (by decide) ?_
                    refine wv_callSWPi (As := [.ref x9, .int (nI i), .int (nI 4)]) (rest := []) ⟨hx, hb, hml, hown, hts⟩ (kL_elementOf l D x9 r r2 q co h va na ra cJ cI v nu rk n b fl me st lk cm i 4 (by first | assumption | omega) (by first | assumption | omega) (by first | assumption | omega) (by first | assumption | omega) (by first | assumption | omega)) (vx_cwSW 3 hts gL_isSo_L_elementOf rfl rfl rfl (by decide +kernel) ⟨Nat.le_of_ble_eq_true rfl, Nat.le_of_ble_eq_true rfl⟩) hK hN hP hS hA [0, 1, 2, 3, 4] [0, 1] rfl rfl rfl hl.1 rfl (Nat.le_of_ble_eq_true rfl) dL_isSo_269 ⟨Nat.zero_le _, Nat.zero_le _⟩ (fun H locs hz9 hP hS => ?_)
                    refine lv_aload_n hx hb dL_isSo_272 rfl (lv_at hl 5 rfl) ?_
                    refine lv_aload_n hx hb dL_isSo_273 rfl (lv_at hl 6 rfl) ?_
                    refine lv_iload hx hb dL_isSo_274 (lv_at hl 9 rfl) ?_
                    refine wv_callSi (As := [.ref g, .ref vv, .int (nI i)]) (rest := [.int (elV fl v n b (nu i) i 4)]) ⟨hx, hb, hml, hown, hts⟩ (kL_fall l D g cI n b fl me st lk cm vv cJ v i (by first | assumption | omega) (by first | assumption | omega)) (va_cwS 3 hts gL_isSo_L_fall rfl rfl rfl (by decide +kernel) ⟨Nat.le_of_ble_eq_true rfl, Nat.le_of_ble_eq_true rfl⟩) hK hN hP hS hA [8, 9] [0, 1] rfl rfl rfl hl.1 rfl (Nat.le_of_ble_eq_true rfl) dL_isSo_276 ⟨Nat.zero_le _, Nat.zero_le _⟩ (fun H locs hz9 hP hS => ?_)
                    refine wv_ifeqB (tgt := 286) hx hb dL_isSo_279 (by decide) (fun c279 => by exfalso; rw [c176] at c279; cases c279) (fun c279 => ?_)
                    refine lv_iconst (v := nI 1) hx hb dL_isSo_282 (by decide) ?_
                    refine lv_goto (tgt := 287) hx hb dL_isSo_283 (by decide) ?_
                    refine lv_icmp_ne (tgt := 323) hx hb dL_isSo_287 (by decide) (fun c287 => by exfalso; exact c287 (by show bI (fal fl v n i) = _; rw [c176]; rfl)) (fun c287 => ?_)
                    refine lv_aload_n hx hb dL_isSo_290 rfl (lv_at hl 4 rfl) ?_
                    refine lv_iload hx hb dL_isSo_291 (lv_at hl 9 rfl) ?_
                    refine lv_iconst (v := nI 5) hx hb dL_isSo_293 (by decide) ?_
                    refine wv_callSWPi (As := [.ref x9, .int (nI i), .int (nI 5)]) (rest := []) ⟨hx, hb, hml, hown, hts⟩ (kL_elementOf l D x9 r r2 q co h va na ra cJ cI v nu rk n b fl me st lk cm i 5 (by first | assumption | omega) (by first | assumption | omega) (by first | assumption | omega) (by first | assumption | omega) (by first | assumption | omega)) (vx_cwSW 3 hts gL_isSo_L_elementOf rfl rfl rfl (by decide +kernel) ⟨Nat.le_of_ble_eq_true rfl, Nat.le_of_ble_eq_true rfl⟩) hK hN hP hS hA [0, 1, 2, 3, 4] [0, 1] rfl rfl rfl hl.1 rfl (Nat.le_of_ble_eq_true rfl) dL_isSo_294 ⟨Nat.zero_le _, Nat.zero_le _⟩ (fun H locs hz9 hP hS => ?_)
                    refine lv_iload hx hb dL_isSo_297 (lv_at hl 12 rfl) ?_
                    refine lv_icmp_ne (tgt := 323) hx hb dL_isSo_299 (by decide) (fun c299 => by exfalso; exact c299 (by rw [show j = n by omega]; rfl)) (fun c299 => ?_)
                    refine lv_aload_n hx hb dL_isSo_302 rfl (lv_at hl 4 rfl) ?_
                    refine lv_iload hx hb dL_isSo_303 (lv_at hl 9 rfl) ?_
                    refine lv_iload hx hb dL_isSo_305 (lv_at hl 10 rfl) ?_
                    refine lv_isub hx hb dL_isSo_307 ?_
                    refine wv_ti (y := nI (rk0 fl v n i)) (dst_rk (by omega) hn) ?_
                    refine wv_callSWPl (As := [.ref x9, .int (nI (rk0 fl v n i))]) (rest := []) ⟨hx, hb, hml, hown, hts⟩ (kL_rankedOf l D x9 r r2 q co h va na ra cJ cI v nu rk n b fl me st lk cm (nI (rk0 fl v n i)) p1 (by first | assumption | omega) (by first | assumption | omega) (by first | assumption | omega)) (vx_cwSW 2 hts gL_isSo_L_rankedOf rfl rfl rfl (by decide +kernel) ⟨Nat.le_of_ble_eq_true rfl, Nat.le_of_ble_eq_true rfl⟩) hK hN hP hS hA [0, 1, 2, 3, 4] [0, 1] rfl rfl rfl hl.1 rfl (Nat.le_of_ble_eq_true rfl) dL_isSo_308 ⟨Nat.zero_le _, Nat.zero_le _⟩ (fun H locs hz9 hP hS => ?_)
                    refine lv_aload_n hx hb dL_isSo_311 rfl (lv_at hl 6 rfl) ?_
                    refine lv_iload hx hb dL_isSo_312 (lv_at hl 9 rfl) ?_
                    refine wv_lald hx hb hK hP 9 0 rfl rfl (k := i) (by omega) (by decide) dL_isSo_314 ?_
                    refine wv_lc_ne (tgt := 323) hx hb dL_isSo_315 dL_isSo_316 (by decide) (fun c316 => by exfalso; exact c316 hpv) (fun c316 => ?_)
                    refine lv_iconst (v := nI 1) hx hb dL_isSo_319 (by decide) ?_
                    refine lv_goto (tgt := 324) hx hb dL_isSo_320 (by decide) ?_
                    refine lv_istore (lv' := [(9, .int (nI 1)), (5, .int (nI ((cnt (fal fl v n) i) + 1))), (7, .long ((bst fl v n b i) ||| (lN 0))), (4, .int (nI (far fl v n i))), (6, .int (nI ((sm (ivo fl v n) i) + (cnt (ivp fl v i) j)))), (0, .ref x9), (1, .ref g), (2, .ref vv), (3, .ref nn), (10, .int (nI i)), (11, .int (dst fl v n i)), (12, .int (nI (far fl v n i))), (13, .int (nI (cnt (ivp fl v i) j))), (14, .int (nI j))]) hx hb dL_isSo_324 hl (by decide) rfl (fun ls hl => ?_)
                    refine lv_iinc (v := nI (i + 1)) (lv' := [(10, .int (nI (i + 1))), (9, .int (nI 1)), (5, .int (nI ((cnt (fal fl v n) i) + 1))), (7, .long ((bst fl v n b i) ||| (lN 0))), (4, .int (nI (far fl v n i))), (6, .int (nI ((sm (ivo fl v n) i) + (cnt (ivp fl v i) j)))), (0, .ref x9), (1, .ref g), (2, .ref vv), (3, .ref nn), (11, .int (dst fl v n i)), (12, .int (nI (far fl v n i))), (13, .int (nI (cnt (ivp fl v i) j))), (14, .int (nI j))]) hx hb dL_isSo_326 hl (k := 9) rfl (nI_1 _) (by decide) rfl (fun ls hl => ?_)
                    refine lv_goto (tgt := 18) hx hb dL_isSo_329 (by decide) ?_
                    have el_l4 : mx (far fl v n) (i + 1) = far fl v n i := by first | (rw [mx_s, Nat.max_eq_left (by omega)]; done) | (rw [mx_s, Nat.max_eq_right (by omega)]; done)
                    have el_l5 : cnt (fal fl v n) (i + 1) = (cnt (fal fl v n) i) + 1 := by first | exact cnt_t c176 | exact cnt_f c176
                    have el_l6 : sm (ivo fl v n) (i + 1) = (sm (ivo fl v n) i) + (cnt (ivp fl v i) j) := by rw [sm_s, show j = n by omega]; rfl
                    have el_l7 : bst fl v n b (i + 1) = (bst fl v n b i) ||| (lN 0) := by first | exact if_pos (decide_eq_true (by omega)) | (rw [lor_0]; exact if_neg (by rw [show brk fl v n b i = false from decide_eq_false (by omega)]; decide))
                    exact ih18 (i + 1) (by omega) (by first | assumption | omega) _ _ (by first | (rw [el_l5, el_l4, el_l6, el_l7]; exact hP) | (simp only [el_l5, el_l4, el_l6, el_l7]; exact hP) | exact hP) (by first | (rw [el_l5, el_l4, el_l6, el_l7]; exact hD) | (simp only [el_l5, el_l4, el_l6, el_l7]; exact hD) | exact hD) hS ls (by first | (rw [el_l5, el_l4, el_l6, el_l7]; exact lv_sub hl [6, 7, 8, 9, 4, 2, 5, 3, 1, 0] rfl) | (simp only [el_l5, el_l4, el_l6, el_l7]; exact lv_sub hl [6, 7, 8, 9, 4, 2, 5, 3, 1, 0] rfl) | exact lv_sub hl [6, 7, 8, 9, 4, 2, 5, 3, 1, 0] rfl)
                · skip
                  refine lv_lconst (v := lN 1) hx hb dL_isSo_156 rfl ?_
                  refine lv_iload hx hb dL_isSo_157 (lv_at hl 9 rfl) ?_
                  refine lv_lshl (v := (lN 1) <<< ((nI i).toInt64 &&& 63)) hx hb dL_isSo_159 rfl ?_
                  refine lv_goto (tgt := 164) hx hb dL_isSo_160 (by decide) ?_
                  refine lv_lor hx hb dL_isSo_164 ?_
                  refine lv_lstore (lv' := [(7, .long ((bst fl v n b i) ||| ((lN 1) <<< ((nI i).toInt64 &&& 63)))), (4, .int (nI (far fl v n i))), (6, .int (nI ((sm (ivo fl v n) i) + (cnt (ivp fl v i) j)))), (0, .ref x9), (1, .ref g), (2, .ref vv), (3, .ref nn), (5, .int (nI (cnt (fal fl v n) i))), (9, .int (nI 1)), (10, .int (nI i)), (11, .int (dst fl v n i)), (12, .int (nI (far fl v n i))), (13, .int (nI (cnt (ivp fl v i) j))), (14, .int (nI j))]) hx hb dL_isSo_165 hl (by decide) rfl (fun ls hl => ?_)
                  refine lv_iload hx hb dL_isSo_167 (lv_at hl 7 rfl) ?_
                  refine lv_aload_n hx hb dL_isSo_169 rfl (lv_at hl 4 rfl) ?_
                  refine lv_aload_n hx hb dL_isSo_170 rfl (lv_at hl 5 rfl) ?_
                  refine lv_iload hx hb dL_isSo_171 (lv_at hl 9 rfl) ?_
                  refine wv_callSi (As := [.ref g, .ref vv, .int (nI i)]) (rest := [.int (nI (cnt (fal fl v n) i))]) ⟨hx, hb, hml, hown, hts⟩ (kL_fall l D g cI n b fl me st lk cm vv cJ v i (by first | assumption | omega) (by first | assumption | omega)) (va_cwS 3 hts gL_isSo_L_fall rfl rfl rfl (by decide +kernel) ⟨Nat.le_of_ble_eq_true rfl, Nat.le_of_ble_eq_true rfl⟩) hK hN hP hS hA [8, 9] [0, 1] rfl rfl rfl hl.1 rfl (Nat.le_of_ble_eq_true rfl) dL_isSo_173 ⟨Nat.zero_le _, Nat.zero_le _⟩ (fun H locs hz9 hP hS => ?_)
                  refine wv_ifeqB (tgt := 183) hx hb dL_isSo_176 (by decide) (fun c176 => ?_) (fun c176 => ?_)
                  · skip
                    refine lv_iconst (v := nI 0) hx hb dL_isSo_183 (by decide) ?_
                    refine lv_iadd hx hb dL_isSo_184 ?_
                    refine wv_ti (nI_add _ _) ?_
                    refine lv_istore (lv' := [(5, .int (nI ((cnt (fal fl v n) i) + 0))), (7, .long ((bst fl v n b i) ||| ((lN 1) <<< ((nI i).toInt64 &&& 63)))), (4, .int (nI (far fl v n i))), (6, .int (nI ((sm (ivo fl v n) i) + (cnt (ivp fl v i) j)))), (0, .ref x9), (1, .ref g), (2, .ref vv), (3, .ref nn), (9, .int (nI 1)), (10, .int (nI i)), (11, .int (dst fl v n i)), (12, .int (nI (far fl v n i))), (13, .int (nI (cnt (ivp fl v i) j))), (14, .int (nI j))]) hx hb dL_isSo_185 hl (by decide) rfl (fun ls hl => ?_)
                    refine lv_aload_n hx hb dL_isSo_187 rfl (lv_at hl 4 rfl) ?_
                    refine lv_iload hx hb dL_isSo_188 (lv_at hl 9 rfl) ?_
                    refine wv_callSWPl (As := [.ref x9, .int (nI i)]) (rest := []) ⟨hx, hb, hml, hown, hts⟩ (kL_atOf l D x9 r r2 q co h va na ra cJ cI v nu rk n b fl me st lk cm i (by first | assumption | omega) (by first | assumption | omega)) (vx_cwSW 2 hts gL_isSo_L_atOf rfl rfl rfl (by decide +kernel) ⟨Nat.le_of_ble_eq_true rfl, Nat.le_of_ble_eq_true rfl⟩) hK hN hP hS hA [0, 1, 2, 3, 4] [0, 1] rfl rfl rfl hl.1 rfl (Nat.le_of_ble_eq_true rfl) dL_isSo_190 ⟨Nat.zero_le _, Nat.zero_le _⟩ (fun H locs hz9 hP hS => ?_)
                    refine lv_aload_n hx hb dL_isSo_193 rfl (lv_at hl 6 rfl) ?_
                    refine lv_iload hx hb dL_isSo_194 (lv_at hl 9 rfl) ?_
                    refine wv_lald hx hb hK hP 9 0 rfl rfl (k := i) (by omega) (by decide) dL_isSo_196 ?_
                    refine wv_lc_ne (tgt := 323) hx hb dL_isSo_197 dL_isSo_198 (by decide) (fun c198 => by exfalso; exact c198 rfl) (fun c198 => ?_)
                    refine lv_aload_n hx hb dL_isSo_201 rfl (lv_at hl 4 rfl) ?_
                    refine lv_iload hx hb dL_isSo_202 (lv_at hl 9 rfl) ?_
                    refine lv_iconst (v := nI 0) hx hb dL_isSo_204 (by decide) ?_
                    refine wv_callSWPi (As := [.ref x9, .int (nI i), .int (nI 0)]) (rest := []) ⟨hx, hb, hml, hown, hts⟩ (kL_elementOf l D x9 r r2 q co h va na ra cJ cI v nu rk n b fl me st lk cm i 0 (by first | assumption | omega) (by first | assumption | omega) (by first | assumption | omega) (by first | assumption | omega) (by first | assumption | omega)) (vx_cwSW 3 hts gL_isSo_L_elementOf rfl rfl rfl (by decide +kernel) ⟨Nat.le_of_ble_eq_true rfl, Nat.le_of_ble_eq_true rfl⟩) hK hN hP hS hA [0, 1, 2, 3, 4] [0, 1] rfl rfl rfl hl.1 rfl (Nat.le_of_ble_eq_true rfl) dL_isSo_205 ⟨Nat.zero_le _, Nat.zero_le _⟩ (fun H locs hz9 hP hS => ?_)
                    refine lv_aload_n hx hb dL_isSo_208 rfl (lv_at hl 7 rfl) ?_
                    refine lv_iload hx hb dL_isSo_209 (lv_at hl 9 rfl) ?_
                    refine wv_iald hx hb hK hP 10 1 rfl rfl (k := i) (by omega) (by decide) dL_isSo_211 ?_
                    refine lv_icmp_ne (tgt := 323) hx hb dL_isSo_212 (by decide) (fun c212 => by exfalso; exact c212 rfl) (fun c212 => ?_)
                    refine lv_aload_n hx hb dL_isSo_215 rfl (lv_at hl 4 rfl) ?_
                    refine lv_iload hx hb dL_isSo_216 (lv_at hl 9 rfl) ?_
                    refine lv_iconst (v := nI 1) hx hb dL_isSo_218 (by decide) ?_
                    refine wv_callSWPi (As := [.ref x9, .int (nI i), .int (nI 1)]) (rest := []) ⟨hx, hb, hml, hown, hts⟩ (kL_elementOf l D x9 r r2 q co h va na ra cJ cI v nu rk n b fl me st lk cm i 1 (by first | assumption | omega) (by first | assumption | omega) (by first | assumption | omega) (by first | assumption | omega) (by first | assumption | omega)) (vx_cwSW 3 hts gL_isSo_L_elementOf rfl rfl rfl (by decide +kernel) ⟨Nat.le_of_ble_eq_true rfl, Nat.le_of_ble_eq_true rfl⟩) hK hN hP hS hA [0, 1, 2, 3, 4] [0, 1] rfl rfl rfl hl.1 rfl (Nat.le_of_ble_eq_true rfl) dL_isSo_219 ⟨Nat.zero_le _, Nat.zero_le _⟩ (fun H locs hz9 hP hS => ?_)
                    refine lv_iload hx hb dL_isSo_222 (lv_at hl 9 rfl) ?_
                    refine lv_iload hx hb dL_isSo_224 (lv_at hl 10 rfl) ?_
                    refine lv_isub hx hb dL_isSo_226 ?_
                    refine wv_ti (y := nI (rk0 fl v n i)) (dst_rk (by omega) hn) ?_
                    refine lv_icmp_ne (tgt := 323) hx hb dL_isSo_227 (by decide) (fun c227 => by exfalso; exact c227 rfl) (fun c227 => ?_)
                    refine lv_aload_n hx hb dL_isSo_230 rfl (lv_at hl 4 rfl) ?_
                    refine lv_iload hx hb dL_isSo_231 (lv_at hl 9 rfl) ?_
                    refine lv_iconst (v := nI 2) hx hb dL_isSo_233 (by decide) ?_
                    refine wv_callSWPi (As := [.ref x9, .int (nI i), .int (nI 2)]) (rest := []) ⟨hx, hb, hml, hown, hts⟩ (kL_elementOf l D x9 r r2 q co h va na ra cJ cI v nu rk n b fl me st lk cm i 2 (by first | assumption | omega) (by first | assumption | omega) (by first | assumption | omega) (by first | assumption | omega) (by first | assumption | omega)) (vx_cwSW 3 hts gL_isSo_L_elementOf rfl rfl rfl (by decide +kernel) ⟨Nat.le_of_ble_eq_true rfl, Nat.le_of_ble_eq_true rfl⟩) hK hN hP hS hA [0, 1, 2, 3, 4] [0, 1] rfl rfl rfl hl.1 rfl (Nat.le_of_ble_eq_true rfl) dL_isSo_234 ⟨Nat.zero_le _, Nat.zero_le _⟩ (fun H locs hz9 hP hS => ?_)
                    refine lv_iload hx hb dL_isSo_237 (lv_at hl 10 rfl) ?_
                    refine lv_icmp_ne (tgt := 323) hx hb dL_isSo_239 (by decide) (fun c239 => by exfalso; exact c239 rfl) (fun c239 => ?_)
                    refine lv_aload_n hx hb dL_isSo_242 rfl (lv_at hl 4 rfl) ?_
                    refine lv_iload hx hb dL_isSo_243 (lv_at hl 9 rfl) ?_
                    refine lv_iconst (v := nI 3) hx hb dL_isSo_245 (by decide) ?_
                    refine wv_callSWPi (As := [.ref x9, .int (nI i), .int (nI 3)]) (rest := []) ⟨hx, hb, hml, hown, hts⟩ (kL_elementOf l D x9 r r2 q co h va na ra cJ cI v nu rk n b fl me st lk cm i 3 (by first | assumption | omega) (by first | assumption | omega) (by first | assumption | omega) (by first | assumption | omega) (by first | assumption | omega)) (vx_cwSW 3 hts gL_isSo_L_elementOf rfl rfl rfl (by decide +kernel) ⟨Nat.le_of_ble_eq_true rfl, Nat.le_of_ble_eq_true rfl⟩) hK hN hP hS hA [0, 1, 2, 3, 4] [0, 1] rfl rfl rfl hl.1 rfl (Nat.le_of_ble_eq_true rfl) dL_isSo_246 ⟨Nat.zero_le _, Nat.zero_le _⟩ (fun H locs hz9 hP hS => ?_)
                    refine lv_iload hx hb dL_isSo_249 (lv_at hl 11 rfl) ?_
                    refine lv_aload_n hx hb dL_isSo_251 rfl (lv_at hl 5 rfl) ?_
                    refine lv_iconst (v := nI 1) hx hb dL_isSo_252 (by decide) ?_
                    refine wv_iald hx hb hK hP 8 1 rfl rfl (k := 1) (by omega) (by decide) dL_isSo_253 ?_
                    refine wv_ti (y := nI b) rfl ?_
                    refine wv_icmp_le (tgt := 261) hx hb (by omega) (by omega) dL_isSo_254 (by decide) (fun c254 => by exfalso; omega) (fun c254 => ?_)
                    refine lv_iconst (v := nI 1) hx hb dL_isSo_257 (by decide) ?_
                    refine lv_goto (tgt := 262) hx hb dL_isSo_258 (by decide) ?_
                    refine lv_icmp_ne (tgt := 323) hx hb dL_isSo_262 (by decide) (fun c262 => by exfalso; exact c262 (by first | (show bI (brk fl v n b i) = _; rw [show brk fl v n b i = true from decide_eq_true (by omega)]; rfl) | (show bI (brk fl v n b i) = _; rw [show brk fl v n b i = false from decide_eq_false (by omega)]; rfl))) (fun c262 => ?_)
                    refine lv_aload_n hx hb dL_isSo_265 rfl (lv_at hl 4 rfl) ?_
                    refine lv_iload hx hb dL_isSo_266 (lv_at hl 9 rfl) ?_
                    refine lv_iconst (v := nI 4) hx hb dL_isSo_268 (by decide) ?_
                    refine wv_callSWPi (As := [.ref x9, .int (nI i), .int (nI 4)]) (rest := []) ⟨hx, hb, hml, hown, hts⟩ (kL_elementOf l D x9 r r2 q co h va na ra cJ cI v nu rk n b fl me st lk cm i 4 (by first | assumption | omega) (by first | assumption | omega) (by first | assumption | omega) (by first | assumption | omega) (by first | assumption | omega)) (vx_cwSW 3 hts gL_isSo_L_elementOf rfl rfl rfl (by decide +kernel) ⟨Nat.le_of_ble_eq_true rfl, Nat.le_of_ble_eq_true rfl⟩) hK hN hP hS hA [0, 1, 2, 3, 4] [0, 1] rfl rfl rfl hl.1 rfl (Nat.le_of_ble_eq_true rfl) dL_isSo_269 ⟨Nat.zero_le _, Nat.zero_le _⟩ (fun H locs hz9 hP hS => ?_)
                    refine lv_aload_n hx hb dL_isSo_272 rfl (lv_at hl 5 rfl) ?_
                    refine lv_aload_n hx hb dL_isSo_273 rfl (lv_at hl 6 rfl) ?_
                    refine lv_iload hx hb dL_isSo_274 (lv_at hl 9 rfl) ?_
                    refine wv_callSi (As := [.ref g, .ref vv, .int (nI i)]) (rest := [.int (elV fl v n b (nu i) i 4)]) ⟨hx, hb, hml, hown, hts⟩ (kL_fall l D g cI n b fl me st lk cm vv cJ v i (by first | assumption | omega) (by first | assumption | omega)) (va_cwS 3 hts gL_isSo_L_fall rfl rfl rfl (by decide +kernel) ⟨Nat.le_of_ble_eq_true rfl, Nat.le_of_ble_eq_true rfl⟩) hK hN hP hS hA [8, 9] [0, 1] rfl rfl rfl hl.1 rfl (Nat.le_of_ble_eq_true rfl) dL_isSo_276 ⟨Nat.zero_le _, Nat.zero_le _⟩ (fun H locs hz9 hP hS => ?_)
                    refine wv_ifeqB (tgt := 286) hx hb dL_isSo_279 (by decide) (fun c279 => ?_) (fun c279 => by exfalso; rw [c176] at c279; cases c279)
                    refine lv_iconst (v := nI 0) hx hb dL_isSo_286 (by decide) ?_
                    refine lv_icmp_ne (tgt := 323) hx hb dL_isSo_287 (by decide) (fun c287 => by exfalso; exact c287 (by show bI (fal fl v n i) = _; rw [c176]; rfl)) (fun c287 => ?_)
                    refine lv_aload_n hx hb dL_isSo_290 rfl (lv_at hl 4 rfl) ?_
                    refine lv_iload hx hb dL_isSo_291 (lv_at hl 9 rfl) ?_
                    refine lv_iconst (v := nI 5) hx hb dL_isSo_293 (by decide) ?_
                    refine wv_callSWPi (As := [.ref x9, .int (nI i), .int (nI 5)]) (rest := []) ⟨hx, hb, hml, hown, hts⟩ (kL_elementOf l D x9 r r2 q co h va na ra cJ cI v nu rk n b fl me st lk cm i 5 (by first | assumption | omega) (by first | assumption | omega) (by first | assumption | omega) (by first | assumption | omega) (by first | assumption | omega)) (vx_cwSW 3 hts gL_isSo_L_elementOf rfl rfl rfl (by decide +kernel) ⟨Nat.le_of_ble_eq_true rfl, Nat.le_of_ble_eq_true rfl⟩) hK hN hP hS hA [0, 1, 2, 3, 4] [0, 1] rfl rfl rfl hl.1 rfl (Nat.le_of_ble_eq_true rfl) dL_isSo_294 ⟨Nat.zero_le _, Nat.zero_le _⟩ (fun H locs hz9 hP hS => ?_)
                    refine lv_iload hx hb dL_isSo_297 (lv_at hl 12 rfl) ?_
                    refine lv_icmp_ne (tgt := 323) hx hb dL_isSo_299 (by decide) (fun c299 => by exfalso; exact c299 (by rw [show j = n by omega]; rfl)) (fun c299 => ?_)
                    refine lv_aload_n hx hb dL_isSo_302 rfl (lv_at hl 4 rfl) ?_
                    refine lv_iload hx hb dL_isSo_303 (lv_at hl 9 rfl) ?_
                    refine lv_iload hx hb dL_isSo_305 (lv_at hl 10 rfl) ?_
                    refine lv_isub hx hb dL_isSo_307 ?_
                    refine wv_ti (y := nI (rk0 fl v n i)) (dst_rk (by omega) hn) ?_
                    refine wv_callSWPl (As := [.ref x9, .int (nI (rk0 fl v n i))]) (rest := []) ⟨hx, hb, hml, hown, hts⟩ (kL_rankedOf l D x9 r r2 q co h va na ra cJ cI v nu rk n b fl me st lk cm (nI (rk0 fl v n i)) p1 (by first | assumption | omega) (by first | assumption | omega) (by first | assumption | omega)) (vx_cwSW 2 hts gL_isSo_L_rankedOf rfl rfl rfl (by decide +kernel) ⟨Nat.le_of_ble_eq_true rfl, Nat.le_of_ble_eq_true rfl⟩) hK hN hP hS hA [0, 1, 2, 3, 4] [0, 1] rfl rfl rfl hl.1 rfl (Nat.le_of_ble_eq_true rfl) dL_isSo_308 ⟨Nat.zero_le _, Nat.zero_le _⟩ (fun H locs hz9 hP hS => ?_)
                    refine lv_aload_n hx hb dL_isSo_311 rfl (lv_at hl 6 rfl) ?_
                    refine lv_iload hx hb dL_isSo_312 (lv_at hl 9 rfl) ?_
                    refine wv_lald hx hb hK hP 9 0 rfl rfl (k := i) (by omega) (by decide) dL_isSo_314 ?_
                    refine wv_lc_ne (tgt := 323) hx hb dL_isSo_315 dL_isSo_316 (by decide) (fun c316 => by exfalso; exact c316 hpv) (fun c316 => ?_)
                    refine lv_iconst (v := nI 1) hx hb dL_isSo_319 (by decide) ?_
                    refine lv_goto (tgt := 324) hx hb dL_isSo_320 (by decide) ?_
                    refine lv_istore (lv' := [(9, .int (nI 1)), (5, .int (nI ((cnt (fal fl v n) i) + 0))), (7, .long ((bst fl v n b i) ||| ((lN 1) <<< ((nI i).toInt64 &&& 63)))), (4, .int (nI (far fl v n i))), (6, .int (nI ((sm (ivo fl v n) i) + (cnt (ivp fl v i) j)))), (0, .ref x9), (1, .ref g), (2, .ref vv), (3, .ref nn), (10, .int (nI i)), (11, .int (dst fl v n i)), (12, .int (nI (far fl v n i))), (13, .int (nI (cnt (ivp fl v i) j))), (14, .int (nI j))]) hx hb dL_isSo_324 hl (by decide) rfl (fun ls hl => ?_)
                    refine lv_iinc (v := nI (i + 1)) (lv' := [(10, .int (nI (i + 1))), (9, .int (nI 1)), (5, .int (nI ((cnt (fal fl v n) i) + 0))), (7, .long ((bst fl v n b i) ||| ((lN 1) <<< ((nI i).toInt64 &&& 63)))), (4, .int (nI (far fl v n i))), (6, .int (nI ((sm (ivo fl v n) i) + (cnt (ivp fl v i) j)))), (0, .ref x9), (1, .ref g), (2, .ref vv), (3, .ref nn), (11, .int (dst fl v n i)), (12, .int (nI (far fl v n i))), (13, .int (nI (cnt (ivp fl v i) j))), (14, .int (nI j))]) hx hb dL_isSo_326 hl (k := 9) rfl (nI_1 _) (by decide) rfl (fun ls hl => ?_)
                    refine lv_goto (tgt := 18) hx hb dL_isSo_329 (by decide) ?_
                    have el_l4 : mx (far fl v n) (i + 1) = far fl v n i := by first | (rw [mx_s, Nat.max_eq_left (by omega)]; done) | (rw [mx_s, Nat.max_eq_right (by omega)]; done)
                    have el_l5 : cnt (fal fl v n) (i + 1) = (cnt (fal fl v n) i) + 0 := by first | exact cnt_t c176 | exact cnt_f c176
                    have el_l6 : sm (ivo fl v n) (i + 1) = (sm (ivo fl v n) i) + (cnt (ivp fl v i) j) := by rw [sm_s, show j = n by omega]; rfl
                    have el_l7 : bst fl v n b (i + 1) = (bst fl v n b i) ||| ((lN 1) <<< ((nI i).toInt64 &&& 63)) := by first | exact if_pos (decide_eq_true (by omega)) | (rw [lor_0]; exact if_neg (by rw [show brk fl v n b i = false from decide_eq_false (by omega)]; decide))
                    exact ih18 (i + 1) (by omega) (by first | assumption | omega) _ _ (by first | (rw [el_l5, el_l4, el_l6, el_l7]; exact hP) | (simp only [el_l5, el_l4, el_l6, el_l7]; exact hP) | exact hP) (by first | (rw [el_l5, el_l4, el_l6, el_l7]; exact hD) | (simp only [el_l5, el_l4, el_l6, el_l7]; exact hD) | exact hD) hS ls (by first | (rw [el_l5, el_l4, el_l6, el_l7]; exact lv_sub hl [6, 7, 8, 9, 4, 2, 5, 3, 1, 0] rfl) | (simp only [el_l5, el_l4, el_l6, el_l7]; exact lv_sub hl [6, 7, 8, 9, 4, 2, 5, 3, 1, 0] rfl) | exact lv_sub hl [6, 7, 8, 9, 4, 2, 5, 3, 1, 0] rfl)
                  · skip
                    refine lv_iconst (v := nI 1) hx hb dL_isSo_179 (by decide) ?_
                    refine lv_goto (tgt := 184) hx hb dL_isSo_180 (by decide) ?_
                    refine lv_iadd hx hb dL_isSo_184 ?_
                    refine wv_ti (nI_add _ _) ?_
                    refine lv_istore (lv' := [(5, .int (nI ((cnt (fal fl v n) i) + 1))), (7, .long ((bst fl v n b i) ||| ((lN 1) <<< ((nI i).toInt64 &&& 63)))), (4, .int (nI (far fl v n i))), (6, .int (nI ((sm (ivo fl v n) i) + (cnt (ivp fl v i) j)))), (0, .ref x9), (1, .ref g), (2, .ref vv), (3, .ref nn), (9, .int (nI 1)), (10, .int (nI i)), (11, .int (dst fl v n i)), (12, .int (nI (far fl v n i))), (13, .int (nI (cnt (ivp fl v i) j))), (14, .int (nI j))]) hx hb dL_isSo_185 hl (by decide) rfl (fun ls hl => ?_)
                    refine lv_aload_n hx hb dL_isSo_187 rfl (lv_at hl 4 rfl) ?_
                    refine lv_iload hx hb dL_isSo_188 (lv_at hl 9 rfl) ?_
                    refine wv_callSWPl (As := [.ref x9, .int (nI i)]) (rest := []) ⟨hx, hb, hml, hown, hts⟩ (kL_atOf l D x9 r r2 q co h va na ra cJ cI v nu rk n b fl me st lk cm i (by first | assumption | omega) (by first | assumption | omega)) (vx_cwSW 2 hts gL_isSo_L_atOf rfl rfl rfl (by decide +kernel) ⟨Nat.le_of_ble_eq_true rfl, Nat.le_of_ble_eq_true rfl⟩) hK hN hP hS hA [0, 1, 2, 3, 4] [0, 1] rfl rfl rfl hl.1 rfl (Nat.le_of_ble_eq_true rfl) dL_isSo_190 ⟨Nat.zero_le _, Nat.zero_le _⟩ (fun H locs hz9 hP hS => ?_)
                    refine lv_aload_n hx hb dL_isSo_193 rfl (lv_at hl 6 rfl) ?_
                    refine lv_iload hx hb dL_isSo_194 (lv_at hl 9 rfl) ?_
                    refine wv_lald hx hb hK hP 9 0 rfl rfl (k := i) (by omega) (by decide) dL_isSo_196 ?_
                    refine wv_lc_ne (tgt := 323) hx hb dL_isSo_197 dL_isSo_198 (by decide) (fun c198 => by exfalso; exact c198 rfl) (fun c198 => ?_)
                    refine lv_aload_n hx hb dL_isSo_201 rfl (lv_at hl 4 rfl) ?_
                    refine lv_iload hx hb dL_isSo_202 (lv_at hl 9 rfl) ?_
                    refine lv_iconst (v := nI 0) hx hb dL_isSo_204 (by decide) ?_
                    refine wv_callSWPi (As := [.ref x9, .int (nI i), .int (nI 0)]) (rest := []) ⟨hx, hb, hml, hown, hts⟩ (kL_elementOf l D x9 r r2 q co h va na ra cJ cI v nu rk n b fl me st lk cm i 0 (by first | assumption | omega) (by first | assumption | omega) (by first | assumption | omega) (by first | assumption | omega) (by first | assumption | omega)) (vx_cwSW 3 hts gL_isSo_L_elementOf rfl rfl rfl (by decide +kernel) ⟨Nat.le_of_ble_eq_true rfl, Nat.le_of_ble_eq_true rfl⟩) hK hN hP hS hA [0, 1, 2, 3, 4] [0, 1] rfl rfl rfl hl.1 rfl (Nat.le_of_ble_eq_true rfl) dL_isSo_205 ⟨Nat.zero_le _, Nat.zero_le _⟩ (fun H locs hz9 hP hS => ?_)
                    refine lv_aload_n hx hb dL_isSo_208 rfl (lv_at hl 7 rfl) ?_
                    refine lv_iload hx hb dL_isSo_209 (lv_at hl 9 rfl) ?_
                    refine wv_iald hx hb hK hP 10 1 rfl rfl (k := i) (by omega) (by decide) dL_isSo_211 ?_
                    refine lv_icmp_ne (tgt := 323) hx hb dL_isSo_212 (by decide) (fun c212 => by exfalso; exact c212 rfl) (fun c212 => ?_)
                    refine lv_aload_n hx hb dL_isSo_215 rfl (lv_at hl 4 rfl) ?_
                    refine lv_iload hx hb dL_isSo_216 (lv_at hl 9 rfl) ?_
                    refine lv_iconst (v := nI 1) hx hb dL_isSo_218 (by decide) ?_
                    refine wv_callSWPi (As := [.ref x9, .int (nI i), .int (nI 1)]) (rest := []) ⟨hx, hb, hml, hown, hts⟩ (kL_elementOf l D x9 r r2 q co h va na ra cJ cI v nu rk n b fl me st lk cm i 1 (by first | assumption | omega) (by first | assumption | omega) (by first | assumption | omega) (by first | assumption | omega) (by first | assumption | omega)) (vx_cwSW 3 hts gL_isSo_L_elementOf rfl rfl rfl (by decide +kernel) ⟨Nat.le_of_ble_eq_true rfl, Nat.le_of_ble_eq_true rfl⟩) hK hN hP hS hA [0, 1, 2, 3, 4] [0, 1] rfl rfl rfl hl.1 rfl (Nat.le_of_ble_eq_true rfl) dL_isSo_219 ⟨Nat.zero_le _, Nat.zero_le _⟩ (fun H locs hz9 hP hS => ?_)
                    refine lv_iload hx hb dL_isSo_222 (lv_at hl 9 rfl) ?_
                    refine lv_iload hx hb dL_isSo_224 (lv_at hl 10 rfl) ?_
                    refine lv_isub hx hb dL_isSo_226 ?_
                    refine wv_ti (y := nI (rk0 fl v n i)) (dst_rk (by omega) hn) ?_
                    refine lv_icmp_ne (tgt := 323) hx hb dL_isSo_227 (by decide) (fun c227 => by exfalso; exact c227 rfl) (fun c227 => ?_)
                    refine lv_aload_n hx hb dL_isSo_230 rfl (lv_at hl 4 rfl) ?_
                    refine lv_iload hx hb dL_isSo_231 (lv_at hl 9 rfl) ?_
                    refine lv_iconst (v := nI 2) hx hb dL_isSo_233 (by decide) ?_
                    refine wv_callSWPi (As := [.ref x9, .int (nI i), .int (nI 2)]) (rest := []) ⟨hx, hb, hml, hown, hts⟩ (kL_elementOf l D x9 r r2 q co h va na ra cJ cI v nu rk n b fl me st lk cm i 2 (by first | assumption | omega) (by first | assumption | omega) (by first | assumption | omega) (by first | assumption | omega) (by first | assumption | omega)) (vx_cwSW 3 hts gL_isSo_L_elementOf rfl rfl rfl (by decide +kernel) ⟨Nat.le_of_ble_eq_true rfl, Nat.le_of_ble_eq_true rfl⟩) hK hN hP hS hA [0, 1, 2, 3, 4] [0, 1] rfl rfl rfl hl.1 rfl (Nat.le_of_ble_eq_true rfl) dL_isSo_234 ⟨Nat.zero_le _, Nat.zero_le _⟩ (fun H locs hz9 hP hS => ?_)
                    refine lv_iload hx hb dL_isSo_237 (lv_at hl 10 rfl) ?_
                    refine lv_icmp_ne (tgt := 323) hx hb dL_isSo_239 (by decide) (fun c239 => by exfalso; exact c239 rfl) (fun c239 => ?_)
                    refine lv_aload_n hx hb dL_isSo_242 rfl (lv_at hl 4 rfl) ?_
                    refine lv_iload hx hb dL_isSo_243 (lv_at hl 9 rfl) ?_
                    refine lv_iconst (v := nI 3) hx hb dL_isSo_245 (by decide) ?_
                    refine wv_callSWPi (As := [.ref x9, .int (nI i), .int (nI 3)]) (rest := []) ⟨hx, hb, hml, hown, hts⟩ (kL_elementOf l D x9 r r2 q co h va na ra cJ cI v nu rk n b fl me st lk cm i 3 (by first | assumption | omega) (by first | assumption | omega) (by first | assumption | omega) (by first | assumption | omega) (by first | assumption | omega)) (vx_cwSW 3 hts gL_isSo_L_elementOf rfl rfl rfl (by decide +kernel) ⟨Nat.le_of_ble_eq_true rfl, Nat.le_of_ble_eq_true rfl⟩) hK hN hP hS hA [0, 1, 2, 3, 4] [0, 1] rfl rfl rfl hl.1 rfl (Nat.le_of_ble_eq_true rfl) dL_isSo_246 ⟨Nat.zero_le _, Nat.zero_le _⟩ (fun H locs hz9 hP hS => ?_)
                    refine lv_iload hx hb dL_isSo_249 (lv_at hl 11 rfl) ?_
                    refine lv_aload_n hx hb dL_isSo_251 rfl (lv_at hl 5 rfl) ?_
                    refine lv_iconst (v := nI 1) hx hb dL_isSo_252 (by decide) ?_
                    refine wv_iald hx hb hK hP 8 1 rfl rfl (k := 1) (by omega) (by decide) dL_isSo_253 ?_
                    refine wv_ti (y := nI b) rfl ?_
                    refine wv_icmp_le (tgt := 261) hx hb (by omega) (by omega) dL_isSo_254 (by decide) (fun c254 => by exfalso; omega) (fun c254 => ?_)
                    refine lv_iconst (v := nI 1) hx hb dL_isSo_257 (by decide) ?_
                    refine lv_goto (tgt := 262) hx hb dL_isSo_258 (by decide) ?_
                    refine lv_icmp_ne (tgt := 323) hx hb dL_isSo_262 (by decide) (fun c262 => by exfalso; exact c262 (by first | (show bI (brk fl v n b i) = _; rw [show brk fl v n b i = true from decide_eq_true (by omega)]; rfl) | (show bI (brk fl v n b i) = _; rw [show brk fl v n b i = false from decide_eq_false (by omega)]; rfl))) (fun c262 => ?_)
                    refine lv_aload_n hx hb dL_isSo_265 rfl (lv_at hl 4 rfl) ?_
                    refine lv_iload hx hb dL_isSo_266 (lv_at hl 9 rfl) ?_
                    refine lv_iconst (v := nI 4) hx hb dL_isSo_268 (by decide) ?_
                    refine wv_callSWPi (As := [.ref x9, .int (nI i), .int (nI 4)]) (rest := []) ⟨hx, hb, hml, hown, hts⟩ (kL_elementOf l D x9 r r2 q co h va na ra cJ cI v nu rk n b fl me st lk cm i 4 (by first | assumption | omega) (by first | assumption | omega) (by first | assumption | omega) (by first | assumption | omega) (by first | assumption | omega)) (vx_cwSW 3 hts gL_isSo_L_elementOf rfl rfl rfl (by decide +kernel) ⟨Nat.le_of_ble_eq_true rfl, Nat.le_of_ble_eq_true rfl⟩) hK hN hP hS hA [0, 1, 2, 3, 4] [0, 1] rfl rfl rfl hl.1 rfl (Nat.le_of_ble_eq_true rfl) dL_isSo_269 ⟨Nat.zero_le _, Nat.zero_le _⟩ (fun H locs hz9 hP hS => ?_)
                    refine lv_aload_n hx hb dL_isSo_272 rfl (lv_at hl 5 rfl) ?_
                    refine lv_aload_n hx hb dL_isSo_273 rfl (lv_at hl 6 rfl) ?_
                    refine lv_iload hx hb dL_isSo_274 (lv_at hl 9 rfl) ?_
                    refine wv_callSi (As := [.ref g, .ref vv, .int (nI i)]) (rest := [.int (elV fl v n b (nu i) i 4)]) ⟨hx, hb, hml, hown, hts⟩ (kL_fall l D g cI n b fl me st lk cm vv cJ v i (by first | assumption | omega) (by first | assumption | omega)) (va_cwS 3 hts gL_isSo_L_fall rfl rfl rfl (by decide +kernel) ⟨Nat.le_of_ble_eq_true rfl, Nat.le_of_ble_eq_true rfl⟩) hK hN hP hS hA [8, 9] [0, 1] rfl rfl rfl hl.1 rfl (Nat.le_of_ble_eq_true rfl) dL_isSo_276 ⟨Nat.zero_le _, Nat.zero_le _⟩ (fun H locs hz9 hP hS => ?_)
                    refine wv_ifeqB (tgt := 286) hx hb dL_isSo_279 (by decide) (fun c279 => by exfalso; rw [c176] at c279; cases c279) (fun c279 => ?_)
                    refine lv_iconst (v := nI 1) hx hb dL_isSo_282 (by decide) ?_
                    refine lv_goto (tgt := 287) hx hb dL_isSo_283 (by decide) ?_
                    refine lv_icmp_ne (tgt := 323) hx hb dL_isSo_287 (by decide) (fun c287 => by exfalso; exact c287 (by show bI (fal fl v n i) = _; rw [c176]; rfl)) (fun c287 => ?_)
                    refine lv_aload_n hx hb dL_isSo_290 rfl (lv_at hl 4 rfl) ?_
                    refine lv_iload hx hb dL_isSo_291 (lv_at hl 9 rfl) ?_
                    refine lv_iconst (v := nI 5) hx hb dL_isSo_293 (by decide) ?_
                    refine wv_callSWPi (As := [.ref x9, .int (nI i), .int (nI 5)]) (rest := []) ⟨hx, hb, hml, hown, hts⟩ (kL_elementOf l D x9 r r2 q co h va na ra cJ cI v nu rk n b fl me st lk cm i 5 (by first | assumption | omega) (by first | assumption | omega) (by first | assumption | omega) (by first | assumption | omega) (by first | assumption | omega)) (vx_cwSW 3 hts gL_isSo_L_elementOf rfl rfl rfl (by decide +kernel) ⟨Nat.le_of_ble_eq_true rfl, Nat.le_of_ble_eq_true rfl⟩) hK hN hP hS hA [0, 1, 2, 3, 4] [0, 1] rfl rfl rfl hl.1 rfl (Nat.le_of_ble_eq_true rfl) dL_isSo_294 ⟨Nat.zero_le _, Nat.zero_le _⟩ (fun H locs hz9 hP hS => ?_)
                    refine lv_iload hx hb dL_isSo_297 (lv_at hl 12 rfl) ?_
                    refine lv_icmp_ne (tgt := 323) hx hb dL_isSo_299 (by decide) (fun c299 => by exfalso; exact c299 (by rw [show j = n by omega]; rfl)) (fun c299 => ?_)
                    refine lv_aload_n hx hb dL_isSo_302 rfl (lv_at hl 4 rfl) ?_
                    refine lv_iload hx hb dL_isSo_303 (lv_at hl 9 rfl) ?_
                    refine lv_iload hx hb dL_isSo_305 (lv_at hl 10 rfl) ?_
                    refine lv_isub hx hb dL_isSo_307 ?_
                    refine wv_ti (y := nI (rk0 fl v n i)) (dst_rk (by omega) hn) ?_
                    refine wv_callSWPl (As := [.ref x9, .int (nI (rk0 fl v n i))]) (rest := []) ⟨hx, hb, hml, hown, hts⟩ (kL_rankedOf l D x9 r r2 q co h va na ra cJ cI v nu rk n b fl me st lk cm (nI (rk0 fl v n i)) p1 (by first | assumption | omega) (by first | assumption | omega) (by first | assumption | omega)) (vx_cwSW 2 hts gL_isSo_L_rankedOf rfl rfl rfl (by decide +kernel) ⟨Nat.le_of_ble_eq_true rfl, Nat.le_of_ble_eq_true rfl⟩) hK hN hP hS hA [0, 1, 2, 3, 4] [0, 1] rfl rfl rfl hl.1 rfl (Nat.le_of_ble_eq_true rfl) dL_isSo_308 ⟨Nat.zero_le _, Nat.zero_le _⟩ (fun H locs hz9 hP hS => ?_)
                    refine lv_aload_n hx hb dL_isSo_311 rfl (lv_at hl 6 rfl) ?_
                    refine lv_iload hx hb dL_isSo_312 (lv_at hl 9 rfl) ?_
                    refine wv_lald hx hb hK hP 9 0 rfl rfl (k := i) (by omega) (by decide) dL_isSo_314 ?_
                    refine wv_lc_ne (tgt := 323) hx hb dL_isSo_315 dL_isSo_316 (by decide) (fun c316 => by exfalso; exact c316 hpv) (fun c316 => ?_)
                    refine lv_iconst (v := nI 1) hx hb dL_isSo_319 (by decide) ?_
                    refine lv_goto (tgt := 324) hx hb dL_isSo_320 (by decide) ?_
                    refine lv_istore (lv' := [(9, .int (nI 1)), (5, .int (nI ((cnt (fal fl v n) i) + 1))), (7, .long ((bst fl v n b i) ||| ((lN 1) <<< ((nI i).toInt64 &&& 63)))), (4, .int (nI (far fl v n i))), (6, .int (nI ((sm (ivo fl v n) i) + (cnt (ivp fl v i) j)))), (0, .ref x9), (1, .ref g), (2, .ref vv), (3, .ref nn), (10, .int (nI i)), (11, .int (dst fl v n i)), (12, .int (nI (far fl v n i))), (13, .int (nI (cnt (ivp fl v i) j))), (14, .int (nI j))]) hx hb dL_isSo_324 hl (by decide) rfl (fun ls hl => ?_)
                    refine lv_iinc (v := nI (i + 1)) (lv' := [(10, .int (nI (i + 1))), (9, .int (nI 1)), (5, .int (nI ((cnt (fal fl v n) i) + 1))), (7, .long ((bst fl v n b i) ||| ((lN 1) <<< ((nI i).toInt64 &&& 63)))), (4, .int (nI (far fl v n i))), (6, .int (nI ((sm (ivo fl v n) i) + (cnt (ivp fl v i) j)))), (0, .ref x9), (1, .ref g), (2, .ref vv), (3, .ref nn), (11, .int (dst fl v n i)), (12, .int (nI (far fl v n i))), (13, .int (nI (cnt (ivp fl v i) j))), (14, .int (nI j))]) hx hb dL_isSo_326 hl (k := 9) rfl (nI_1 _) (by decide) rfl (fun ls hl => ?_)
                    refine lv_goto (tgt := 18) hx hb dL_isSo_329 (by decide) ?_
                    have el_l4 : mx (far fl v n) (i + 1) = far fl v n i := by first | (rw [mx_s, Nat.max_eq_left (by omega)]; done) | (rw [mx_s, Nat.max_eq_right (by omega)]; done)
                    have el_l5 : cnt (fal fl v n) (i + 1) = (cnt (fal fl v n) i) + 1 := by first | exact cnt_t c176 | exact cnt_f c176
                    have el_l6 : sm (ivo fl v n) (i + 1) = (sm (ivo fl v n) i) + (cnt (ivp fl v i) j) := by rw [sm_s, show j = n by omega]; rfl
                    have el_l7 : bst fl v n b (i + 1) = (bst fl v n b i) ||| ((lN 1) <<< ((nI i).toInt64 &&& 63)) := by first | exact if_pos (decide_eq_true (by omega)) | (rw [lor_0]; exact if_neg (by rw [show brk fl v n b i = false from decide_eq_false (by omega)]; decide))
                    exact ih18 (i + 1) (by omega) (by first | assumption | omega) _ _ (by first | (rw [el_l5, el_l4, el_l6, el_l7]; exact hP) | (simp only [el_l5, el_l4, el_l6, el_l7]; exact hP) | exact hP) (by first | (rw [el_l5, el_l4, el_l6, el_l7]; exact hD) | (simp only [el_l5, el_l4, el_l6, el_l7]; exact hD) | exact hD) hS ls (by first | (rw [el_l5, el_l4, el_l6, el_l7]; exact lv_sub hl [6, 7, 8, 9, 4, 2, 5, 3, 1, 0] rfl) | (simp only [el_l5, el_l4, el_l6, el_l7]; exact lv_sub hl [6, 7, 8, 9, 4, 2, 5, 3, 1, 0] rfl) | exact lv_sub hl [6, 7, 8, 9, 4, 2, 5, 3, 1, 0] rfl)
            · skip
              refine lv_iload hx hb dL_isSo_63 (lv_at hl 12 rfl) ?_
              refine lv_iload hx hb dL_isSo_65 (lv_at hl 13 rfl) ?_
              refine lv_iload hx hb dL_isSo_67 (lv_at hl 9 rfl) ?_
              refine wv_icmp_ge (tgt := 87) hx hb (by omega) (by omega) dL_isSo_69 (by decide) (fun c69 => ?_) (fun c69 => ?_)
              · skip
                refine lv_iload hx hb dL_isSo_87 (lv_at hl 13 rfl) ?_
                refine lv_iload hx hb dL_isSo_89 (lv_at hl 9 rfl) ?_
                refine wv_icmp_le (tgt := 113) hx hb (by omega) (by omega) dL_isSo_91 (by decide) (fun c91 => ?_) (fun c91 => ?_)
                · skip
                  refine lv_iconst (v := nI 0) hx hb dL_isSo_113 (by decide) ?_
                  refine lv_iadd hx hb dL_isSo_114 ?_
                  refine wv_ti (nI_add _ _) ?_
                  refine lv_istore (lv' := [(13, .int (nI ((cnt (ivp fl v i) j) + 0))), (0, .ref x9), (1, .ref g), (2, .ref vv), (3, .ref nn), (4, .int (nI (mx (far fl v n) i))), (5, .int (nI (cnt (fal fl v n) i))), (6, .int (nI (sm (ivo fl v n) i))), (7, .long (bst fl v n b i)), (9, .int (nI 1)), (10, .int (nI i)), (11, .int (dst fl v n i)), (12, .int (nI (far fl v n i))), (14, .int (nI j))]) hx hb dL_isSo_115 hl (by decide) rfl (fun ls hl => ?_)
                  refine lv_iinc (v := nI (j + 1)) (lv' := [(14, .int (nI (j + 1))), (13, .int (nI ((cnt (ivp fl v i) j) + 0))), (0, .ref x9), (1, .ref g), (2, .ref vv), (3, .ref nn), (4, .int (nI (mx (far fl v n) i))), (5, .int (nI (cnt (fal fl v n) i))), (6, .int (nI (sm (ivo fl v n) i))), (7, .long (bst fl v n b i)), (9, .int (nI 1)), (10, .int (nI i)), (11, .int (dst fl v n i)), (12, .int (nI (far fl v n i)))]) hx hb dL_isSo_117 hl (k := 13) rfl (nI_1 _) (by decide) rfl (fun ls hl => ?_)
                  refine lv_goto (tgt := 55) hx hb dL_isSo_120 (by decide) ?_
                  have el_l13 : cnt (ivp fl v i) (j + 1) = (cnt (ivp fl v i) j) + 0 := by first | exact cnt_t (by rw [ivp_lt c69]; exact c84) | exact cnt_f (by rw [ivp_lt c69]; exact c84) | exact cnt_t (by rw [ivp_gt c91]; exact c106) | exact cnt_f (by rw [ivp_gt c91]; exact c106) | (rw [show j = i by omega]; exact cnt_f ivp_eq)
                  exact ih55 (j + 1) (by omega) (by first | assumption | omega) _ _ (by first | (rw [el_l13]; exact hP) | (simp only [el_l13]; exact hP) | exact hP) (by first | (rw [el_l13]; exact hD) | (simp only [el_l13]; exact hD) | exact hD) hS ls (by first | (rw [el_l13]; exact lv_sub hl [2, 3, 4, 5, 6, 7, 8, 9, 10, 11, 12, 13, 1, 0] rfl) | (simp only [el_l13]; exact lv_sub hl [2, 3, 4, 5, 6, 7, 8, 9, 10, 11, 12, 13, 1, 0] rfl) | exact lv_sub hl [2, 3, 4, 5, 6, 7, 8, 9, 10, 11, 12, 13, 1, 0] rfl)
                · skip
                  refine lv_aload_n hx hb dL_isSo_94 rfl (lv_at hl 1 rfl) ?_
                  refine lv_aload_n hx hb dL_isSo_95 rfl (lv_at hl 2 rfl) ?_
                  refine lv_iload hx hb dL_isSo_96 (lv_at hl 13 rfl) ?_
                  refine wv_lald hx hb hK hP 9 0 rfl rfl (k := j) (by omega) (by decide) dL_isSo_98 ?_
                  refine lv_aload_n hx hb dL_isSo_99 rfl (lv_at hl 2 rfl) ?_
                  refine lv_iload hx hb dL_isSo_100 (lv_at hl 9 rfl) ?_
                  refine wv_lald hx hb hK hP 9 0 rfl rfl (k := i) (by omega) (by decide) dL_isSo_102 ?_
                  refine wv_callSi (As := [.ref g, .long (v j), .long (v i)]) (rest := [.int (nI (cnt (ivp fl v i) j))]) ⟨hx, hb, hml, hown, hts⟩ (kL_ahead l D g cI n b fl me st lk cm (v j) (v i)) (va_cwS 3 hts gL_isSo_L_ahead rfl rfl rfl (by decide +kernel) ⟨Nat.le_of_ble_eq_true rfl, Nat.le_of_ble_eq_true rfl⟩) hK hN hP hS hA [8] [1] rfl rfl rfl hl.1 rfl (Nat.le_of_ble_eq_true rfl) dL_isSo_103 ⟨Nat.zero_le _, Nat.zero_le _⟩ (fun H locs hz9 hP hS => ?_)
                  refine wv_ifeqB (tgt := 113) hx hb dL_isSo_106 (by decide) (fun c106 => ?_) (fun c106 => ?_)
                  · skip
                    refine lv_iconst (v := nI 0) hx hb dL_isSo_113 (by decide) ?_
                    refine lv_iadd hx hb dL_isSo_114 ?_
                    refine wv_ti (nI_add _ _) ?_
                    refine lv_istore (lv' := [(13, .int (nI ((cnt (ivp fl v i) j) + 0))), (0, .ref x9), (1, .ref g), (2, .ref vv), (3, .ref nn), (4, .int (nI (mx (far fl v n) i))), (5, .int (nI (cnt (fal fl v n) i))), (6, .int (nI (sm (ivo fl v n) i))), (7, .long (bst fl v n b i)), (9, .int (nI 1)), (10, .int (nI i)), (11, .int (dst fl v n i)), (12, .int (nI (far fl v n i))), (14, .int (nI j))]) hx hb dL_isSo_115 hl (by decide) rfl (fun ls hl => ?_)
                    refine lv_iinc (v := nI (j + 1)) (lv' := [(14, .int (nI (j + 1))), (13, .int (nI ((cnt (ivp fl v i) j) + 0))), (0, .ref x9), (1, .ref g), (2, .ref vv), (3, .ref nn), (4, .int (nI (mx (far fl v n) i))), (5, .int (nI (cnt (fal fl v n) i))), (6, .int (nI (sm (ivo fl v n) i))), (7, .long (bst fl v n b i)), (9, .int (nI 1)), (10, .int (nI i)), (11, .int (dst fl v n i)), (12, .int (nI (far fl v n i)))]) hx hb dL_isSo_117 hl (k := 13) rfl (nI_1 _) (by decide) rfl (fun ls hl => ?_)
                    refine lv_goto (tgt := 55) hx hb dL_isSo_120 (by decide) ?_
                    have el_l13 : cnt (ivp fl v i) (j + 1) = (cnt (ivp fl v i) j) + 0 := by first | exact cnt_t (by rw [ivp_lt c69]; exact c84) | exact cnt_f (by rw [ivp_lt c69]; exact c84) | exact cnt_t (by rw [ivp_gt c91]; exact c106) | exact cnt_f (by rw [ivp_gt c91]; exact c106) | (rw [show j = i by omega]; exact cnt_f ivp_eq)
                    exact ih55 (j + 1) (by omega) (by first | assumption | omega) _ _ (by first | (rw [el_l13]; exact hP) | (simp only [el_l13]; exact hP) | exact hP) (by first | (rw [el_l13]; exact hD) | (simp only [el_l13]; exact hD) | exact hD) hS ls (by first | (rw [el_l13]; exact lv_sub hl [2, 3, 4, 5, 6, 7, 8, 9, 10, 11, 12, 13, 1, 0] rfl) | (simp only [el_l13]; exact lv_sub hl [2, 3, 4, 5, 6, 7, 8, 9, 10, 11, 12, 13, 1, 0] rfl) | exact lv_sub hl [2, 3, 4, 5, 6, 7, 8, 9, 10, 11, 12, 13, 1, 0] rfl)
                  · skip
                    refine lv_iconst (v := nI 1) hx hb dL_isSo_109 (by decide) ?_
                    refine lv_goto (tgt := 114) hx hb dL_isSo_110 (by decide) ?_
                    refine lv_iadd hx hb dL_isSo_114 ?_
                    refine wv_ti (nI_add _ _) ?_
                    refine lv_istore (lv' := [(13, .int (nI ((cnt (ivp fl v i) j) + 1))), (0, .ref x9), (1, .ref g), (2, .ref vv), (3, .ref nn), (4, .int (nI (mx (far fl v n) i))), (5, .int (nI (cnt (fal fl v n) i))), (6, .int (nI (sm (ivo fl v n) i))), (7, .long (bst fl v n b i)), (9, .int (nI 1)), (10, .int (nI i)), (11, .int (dst fl v n i)), (12, .int (nI (far fl v n i))), (14, .int (nI j))]) hx hb dL_isSo_115 hl (by decide) rfl (fun ls hl => ?_)
                    refine lv_iinc (v := nI (j + 1)) (lv' := [(14, .int (nI (j + 1))), (13, .int (nI ((cnt (ivp fl v i) j) + 1))), (0, .ref x9), (1, .ref g), (2, .ref vv), (3, .ref nn), (4, .int (nI (mx (far fl v n) i))), (5, .int (nI (cnt (fal fl v n) i))), (6, .int (nI (sm (ivo fl v n) i))), (7, .long (bst fl v n b i)), (9, .int (nI 1)), (10, .int (nI i)), (11, .int (dst fl v n i)), (12, .int (nI (far fl v n i)))]) hx hb dL_isSo_117 hl (k := 13) rfl (nI_1 _) (by decide) rfl (fun ls hl => ?_)
                    refine lv_goto (tgt := 55) hx hb dL_isSo_120 (by decide) ?_
                    have el_l13 : cnt (ivp fl v i) (j + 1) = (cnt (ivp fl v i) j) + 1 := by first | exact cnt_t (by rw [ivp_lt c69]; exact c84) | exact cnt_f (by rw [ivp_lt c69]; exact c84) | exact cnt_t (by rw [ivp_gt c91]; exact c106) | exact cnt_f (by rw [ivp_gt c91]; exact c106) | (rw [show j = i by omega]; exact cnt_f ivp_eq)
                    exact ih55 (j + 1) (by omega) (by first | assumption | omega) _ _ (by first | (rw [el_l13]; exact hP) | (simp only [el_l13]; exact hP) | exact hP) (by first | (rw [el_l13]; exact hD) | (simp only [el_l13]; exact hD) | exact hD) hS ls (by first | (rw [el_l13]; exact lv_sub hl [2, 3, 4, 5, 6, 7, 8, 9, 10, 11, 12, 13, 1, 0] rfl) | (simp only [el_l13]; exact lv_sub hl [2, 3, 4, 5, 6, 7, 8, 9, 10, 11, 12, 13, 1, 0] rfl) | exact lv_sub hl [2, 3, 4, 5, 6, 7, 8, 9, 10, 11, 12, 13, 1, 0] rfl)
              · skip
                refine lv_aload_n hx hb dL_isSo_72 rfl (lv_at hl 1 rfl) ?_
                refine lv_aload_n hx hb dL_isSo_73 rfl (lv_at hl 2 rfl) ?_
                refine lv_iload hx hb dL_isSo_74 (lv_at hl 9 rfl) ?_
                refine wv_lald hx hb hK hP 9 0 rfl rfl (k := i) (by omega) (by decide) dL_isSo_76 ?_
                refine lv_aload_n hx hb dL_isSo_77 rfl (lv_at hl 2 rfl) ?_
                refine lv_iload hx hb dL_isSo_78 (lv_at hl 13 rfl) ?_
                refine wv_lald hx hb hK hP 9 0 rfl rfl (k := j) (by omega) (by decide) dL_isSo_80 ?_
                refine wv_callSi (As := [.ref g, .long (v i), .long (v j)]) (rest := [.int (nI (cnt (ivp fl v i) j))]) ⟨hx, hb, hml, hown, hts⟩ (kL_ahead l D g cI n b fl me st lk cm (v i) (v j)) (va_cwS 3 hts gL_isSo_L_ahead rfl rfl rfl (by decide +kernel) ⟨Nat.le_of_ble_eq_true rfl, Nat.le_of_ble_eq_true rfl⟩) hK hN hP hS hA [8] [1] rfl rfl rfl hl.1 rfl (Nat.le_of_ble_eq_true rfl) dL_isSo_81 ⟨Nat.zero_le _, Nat.zero_le _⟩ (fun H locs hz9 hP hS => ?_)
                refine wv_ifneB (tgt := 109) hx hb dL_isSo_84 (by decide) (fun c84 => ?_) (fun c84 => ?_)
                · skip
                  refine lv_iconst (v := nI 1) hx hb dL_isSo_109 (by decide) ?_
                  refine lv_goto (tgt := 114) hx hb dL_isSo_110 (by decide) ?_
                  refine lv_iadd hx hb dL_isSo_114 ?_
                  refine wv_ti (nI_add _ _) ?_
                  refine lv_istore (lv' := [(13, .int (nI ((cnt (ivp fl v i) j) + 1))), (0, .ref x9), (1, .ref g), (2, .ref vv), (3, .ref nn), (4, .int (nI (mx (far fl v n) i))), (5, .int (nI (cnt (fal fl v n) i))), (6, .int (nI (sm (ivo fl v n) i))), (7, .long (bst fl v n b i)), (9, .int (nI 1)), (10, .int (nI i)), (11, .int (dst fl v n i)), (12, .int (nI (far fl v n i))), (14, .int (nI j))]) hx hb dL_isSo_115 hl (by decide) rfl (fun ls hl => ?_)
                  refine lv_iinc (v := nI (j + 1)) (lv' := [(14, .int (nI (j + 1))), (13, .int (nI ((cnt (ivp fl v i) j) + 1))), (0, .ref x9), (1, .ref g), (2, .ref vv), (3, .ref nn), (4, .int (nI (mx (far fl v n) i))), (5, .int (nI (cnt (fal fl v n) i))), (6, .int (nI (sm (ivo fl v n) i))), (7, .long (bst fl v n b i)), (9, .int (nI 1)), (10, .int (nI i)), (11, .int (dst fl v n i)), (12, .int (nI (far fl v n i)))]) hx hb dL_isSo_117 hl (k := 13) rfl (nI_1 _) (by decide) rfl (fun ls hl => ?_)
                  refine lv_goto (tgt := 55) hx hb dL_isSo_120 (by decide) ?_
                  have el_l13 : cnt (ivp fl v i) (j + 1) = (cnt (ivp fl v i) j) + 1 := by first | exact cnt_t (by rw [ivp_lt c69]; exact c84) | exact cnt_f (by rw [ivp_lt c69]; exact c84) | exact cnt_t (by rw [ivp_gt c91]; exact c106) | exact cnt_f (by rw [ivp_gt c91]; exact c106) | (rw [show j = i by omega]; exact cnt_f ivp_eq)
                  exact ih55 (j + 1) (by omega) (by first | assumption | omega) _ _ (by first | (rw [el_l13]; exact hP) | (simp only [el_l13]; exact hP) | exact hP) (by first | (rw [el_l13]; exact hD) | (simp only [el_l13]; exact hD) | exact hD) hS ls (by first | (rw [el_l13]; exact lv_sub hl [2, 3, 4, 5, 6, 7, 8, 9, 10, 11, 12, 13, 1, 0] rfl) | (simp only [el_l13]; exact lv_sub hl [2, 3, 4, 5, 6, 7, 8, 9, 10, 11, 12, 13, 1, 0] rfl) | exact lv_sub hl [2, 3, 4, 5, 6, 7, 8, 9, 10, 11, 12, 13, 1, 0] rfl)
                · skip
                  refine lv_iload hx hb dL_isSo_87 (lv_at hl 13 rfl) ?_
                  refine lv_iload hx hb dL_isSo_89 (lv_at hl 9 rfl) ?_
                  refine wv_icmp_le (tgt := 113) hx hb (by omega) (by omega) dL_isSo_91 (by decide) (fun c91 => ?_) (fun c91 => by exfalso; omega)
                  refine lv_iconst (v := nI 0) hx hb dL_isSo_113 (by decide) ?_
                  refine lv_iadd hx hb dL_isSo_114 ?_
                  refine wv_ti (nI_add _ _) ?_
                  refine lv_istore (lv' := [(13, .int (nI ((cnt (ivp fl v i) j) + 0))), (0, .ref x9), (1, .ref g), (2, .ref vv), (3, .ref nn), (4, .int (nI (mx (far fl v n) i))), (5, .int (nI (cnt (fal fl v n) i))), (6, .int (nI (sm (ivo fl v n) i))), (7, .long (bst fl v n b i)), (9, .int (nI 1)), (10, .int (nI i)), (11, .int (dst fl v n i)), (12, .int (nI (far fl v n i))), (14, .int (nI j))]) hx hb dL_isSo_115 hl (by decide) rfl (fun ls hl => ?_)
                  refine lv_iinc (v := nI (j + 1)) (lv' := [(14, .int (nI (j + 1))), (13, .int (nI ((cnt (ivp fl v i) j) + 0))), (0, .ref x9), (1, .ref g), (2, .ref vv), (3, .ref nn), (4, .int (nI (mx (far fl v n) i))), (5, .int (nI (cnt (fal fl v n) i))), (6, .int (nI (sm (ivo fl v n) i))), (7, .long (bst fl v n b i)), (9, .int (nI 1)), (10, .int (nI i)), (11, .int (dst fl v n i)), (12, .int (nI (far fl v n i)))]) hx hb dL_isSo_117 hl (k := 13) rfl (nI_1 _) (by decide) rfl (fun ls hl => ?_)
                  refine lv_goto (tgt := 55) hx hb dL_isSo_120 (by decide) ?_
                  have el_l13 : cnt (ivp fl v i) (j + 1) = (cnt (ivp fl v i) j) + 0 := by first | exact cnt_t (by rw [ivp_lt c69]; exact c84) | exact cnt_f (by rw [ivp_lt c69]; exact c84) | exact cnt_t (by rw [ivp_gt c91]; exact c106) | exact cnt_f (by rw [ivp_gt c91]; exact c106) | (rw [show j = i by omega]; exact cnt_f ivp_eq)
                  exact ih55 (j + 1) (by omega) (by first | assumption | omega) _ _ (by first | (rw [el_l13]; exact hP) | (simp only [el_l13]; exact hP) | exact hP) (by first | (rw [el_l13]; exact hD) | (simp only [el_l13]; exact hD) | exact hD) hS ls (by first | (rw [el_l13]; exact lv_sub hl [2, 3, 4, 5, 6, 7, 8, 9, 10, 11, 12, 13, 1, 0] rfl) | (simp only [el_l13]; exact lv_sub hl [2, 3, 4, 5, 6, 7, 8, 9, 10, 11, 12, 13, 1, 0] rfl) | exact lv_sub hl [2, 3, 4, 5, 6, 7, 8, 9, 10, 11, 12, 13, 1, 0] rfl)
        exact loop55 (n - 0 + 1) 0 (by omega) (by first | assumption | omega) _ _ (by first | (rw [el_l13]; exact hP) | (simp only [el_l13]; exact hP) | exact hP) (by first | (rw [el_l13]; exact hD) | (simp only [el_l13]; exact hD) | exact hD) hS ls (by first | (rw [el_l13]; exact lv_sub hl [4, 5, 6, 7, 8, 9, 10, 11, 12, 13, 3, 2, 1, 0] rfl) | (simp only [el_l13]; exact lv_sub hl [4, 5, 6, 7, 8, 9, 10, 11, 12, 13, 3, 2, 1, 0] rfl) | exact lv_sub hl [4, 5, 6, 7, 8, 9, 10, 11, 12, 13, 3, 2, 1, 0] rfl)
  exact loop18 (n - 0 + 1) 0 (by omega) (by first | assumption | omega) _ _ (by first | (rw [el_l5, el_l4, el_l6, el_l7]; exact hP) | (simp only [el_l5, el_l4, el_l6, el_l7]; exact hP) | exact hP) (by first | (rw [el_l5, el_l4, el_l6, el_l7]; exact hD) | (simp only [el_l5, el_l4, el_l6, el_l7]; exact hD) | exact hD) hS ls (by first | (rw [el_l5, el_l4, el_l6, el_l7]; exact lv_sub hl [6, 7, 8, 9, 5, 4, 3, 2, 1, 0] rfl) | (simp only [el_l5, el_l4, el_l6, el_l7]; exact lv_sub hl [6, 7, 8, 9, 5, 4, 3, 2, 1, 0] rfl) | exact lv_sub hl [6, 7, 8, 9, 5, 4, 3, 2, 1, 0] rfl)
