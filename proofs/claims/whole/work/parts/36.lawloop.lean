/-! The claim out of one walk of the law's body: its words (the skeleton's). -/
def R_law : String := "NearRanksLaw"
def lw_P (b : Addr) (xs : List Int32) (args : Array Value) (s : State) : Prop := args = #[.ref b] ∧ s.IntsAt b xs ∧ xs.length ≤ 2048 ∧ (Jvm.Cond.and given_1 narrow_1).before args s = true
def lw_Q (_ : Array Value) (s : State) (o : Outcome) (t : State) : Prop := o = .returned (some (.int 1)) ∧ Framed s o t [] 601024 7293034
def lw_Z (below : List Frame) (a : Array Value) (s : State) : State → Prop := fun t => ∃ o, t.status = .running ∧ Ended t below o ∧ lw_Q a s o t
/-- the law's own end, with 1 on the stack, nothing written that was there before, its room as the claim has it -/
theorem lw_ret {p : Program} {l : Launch} {e : Env} {s : State} {m : MethodId} {below : List Frame} {meth : Method} {c : Code} {b : Nat} (hx : p.tables.exec = Jvm.exec) (hb : c.code = code) (hr : meth.sig.returnType = ret) (hlocks : meth.locks = false) {pc : Nat} {H : Heap} {ls : Array Slot} (hdg : decode code pc = .ok (.ireturn, 1)) : W p l e room_1 s m #[Value.ref b] below meth c H [] 601024 7293034 (lw_Z below #[Value.ref b] s) (F0 m pc ls [.int 1]) := by
  intro T hT X
  obtain ⟨fs, hret, hrun, hended, hW, hframe⟩ := X.leave (v := some (.int 1)) (hlocks := hlocks) (fun h => by rw [hr] at h; cases h)
  have hmeth' : T.vm.method? m = some meth := X.method'
  refine ⟨T.setFrames fs, ?_, .returned (some (.int 1)), hrun, hended, rfl, ⟨_, rfl⟩, hW, hframe⟩
  jvm_step X.here [X.here.top, hx, hb, hdg, hmeth', hr, ret, narrow_b1]
  (try refine ⟨rfl, ?_⟩); (try refine ⟨rfl, ?_⟩)
  first | (intro acts; rw [hret _ acts rfl rfl rfl]) | rw [hret _ _ rfl rfl rfl]
  exact Steps.refl _
/-- what holds at the law's entry: the machine, the code, the tables' words (any of lw_tbl by 'hts w (by decide +kernel)'), the script of L ints xs at the cell b, what the Statement gives of the start (any of its parts by flat_of_before) -/
def lw_At (p : Program) (s : State) (m : MethodId) (meth : Method) (c : Code) (b L : Nat) (xs : Nat → Int32) : Prop :=
  p.tables.exec = Jvm.exec ∧ c.code = code ∧ meth.sig.returnType = ret ∧ c.maxLocals = 8 ∧ s.vm.findClass R_law = some m.cls ∧ (∀ w ∈ lw_tbl, w.before #[Value.ref b] s = true) ∧ va_X b L xs s s.heap ∧ b < s.heap.size ∧ meth.locks = false ∧ (Jvm.Cond.and given_1 narrow_1).before #[Value.ref b] s = true
/-! The law: its loop. -/
theorem gt_sub {L i : Nat} (hL : L ≤ 2048) (hi : i ≤ 2048) : nI L - nI 4 < nI i ↔ L < i + 4 := by
  rw [Int32.lt_iff_toInt_lt, pk_sub_toInt (by omega) (by omega), nI_toInt (n := i) (by omega)]
  omega
set_option maxHeartbeats 4000000 in
set_option maxRecDepth 100000 in
theorem law_loop {p : Program} {l : Launch} {e : Env} {s : State} {m : MethodId} {below : List Frame} {meth : Method} {c : Code} {bb L : Nat} {xs : Nat → Int32} {D : va_G} {ea : EA} {x9 : Nat} {r : Nat} {r2 : Nat} {q : Nat} {co : Nat} {h : Nat} {va : Nat} {na : Nat} {ra : Nat} {va2 : Nat} {na2 : Nat} {ra2 : Nat} {cJ : ClassId} {cI : ClassId} {cR : ClassId} {cB : ClassId} {sta : Nat} {a0 : RA} {a1 : RA} {a2 : RA} {a3 : RA} {ba : Nat} {mo : Nat} {sa : Nat} {pa : Nat} {ha : Nat} {ta : Nat} {o : Nat} (C : LC p l s m c bb L xs (fun q : Nat => s.heap.size ≤ q) D ea cJ cI cR cB) (hr : meth.sig.returnType = ret) (hlocks : meth.locks = false) :
    ∀ (K i it : Nat), i = 4 * it → i ≤ L → L < i + K → ∀ (H : Heap) (locs : List Loc) (ls : Array Slot), LI (fun q : Nat => s.heap.size ≤ q) D ea x9 r r2 q co h va na ra va2 na2 ra2 cJ cI cR cB sta a0 a1 a2 a3 ba mo sa pa ha ta o H → va_S (fun q : Nat => s.heap.size ≤ q) s.heap H locs → lv_has ls 8 [(0, .ref bb), (1, .ref x9), (2, .ref mo), (3, .ref o), (4, .int (nI i))] → W p l e room_1 s m #[Value.ref bb] below meth c H locs (100 + it) (5000 + 6 * it) (lw_Z below #[Value.ref bb] s) (F0 m 23 ls []) := by
  obtain ⟨hlst, hx, hb, hml, hown, hts, hX9, hbl, hbA, hK, hN, hE, hX, hA, hL⟩ := id C
  intro K
  induction K with
  | zero => intro i it _ h1 h2; exact absurd h2 (by omega)
  | succ K ih =>
    intro i it hit hiL hK9 H locs ls hI hS hl
    refine lv_iload hx hb dL_law_23 (lv_at hl 4 rfl) ?_
    refine lv_aload_n hx hb dL_law_25 rfl (lv_at hl 0 rfl) ?_
    refine va_slen hx hb hX9 hbl hbA hS dL_law_26 ?_
    refine lv_iconst (v := nI 4) hx hb dL_law_27 (by decide) ?_
    refine lv_isub hx hb dL_law_28 ?_
    refine lv_icmp_gt (tgt := 1470) hx hb dL_law_29 (by decide) (fun c29 => ?_) (fun c29 => ?_)
    · refine lv_iconst (v := 1) hx hb dL_law_1470 (by decide) ?_
      refine va_forget (fun q hq => hS.2.2 q hq) ?_
      refine W.widen (k := 601024) (n := 7293034) (by omega) (by omega) ?_
      exact lw_ret hx hb hr hlocks dL_law_1471
    · have hi4 : i + 4 ≤ L := by
        have g : ¬ (nI L - nI 4 < nI i) := c29
        rw [gt_sub hL (by omega)] at g
        omega
      have kk : ∀ (H1 : Heap) (locs1 : List Loc) (ls1 : Array Slot), LI (fun q : Nat => s.heap.size ≤ q) D ea x9 r r2 q co h va na ra va2 na2 ra2 cJ cI cR cB sta a0 a1 a2 a3 ba mo sa pa ha ta o H1 → va_S (fun q : Nat => s.heap.size ≤ q) s.heap H1 locs1 → lv_has ls1 8 [(0, .ref bb), (1, .ref x9), (2, .ref mo), (3, .ref o), (4, .int (nI i))] → W p l e room_1 s m #[Value.ref bb] below meth c H1 locs1 (100 + it + 1) (5000 + 6 * it + 6) (lw_Z below #[Value.ref bb] s) (F0 m 1464 ls1 []) := by
        intro H1 locs1 ls1 hI1 hS1 hl1
        refine lv_iinc (v := nI (i + 4)) (lv' := [(4, .int (nI (i + 4))), (0, .ref bb), (1, .ref x9), (2, .ref mo), (3, .ref o)]) hx hb dL_law_1464 hl1 (k := 4) rfl (nI_add _ 4) (by decide) rfl (fun ls2 hl2 => ?_)
        refine lv_goto (tgt := 23) hx hb dL_law_1467 (by decide) ?_
        exact ih (i + 4) (it + 1) (by omega) hi4 (by omega) H1 locs1 ls2 hI1 hS1 (lv_sub hl2 [1, 2, 3, 4, 0] rfl)
      have hcs : 100 + it + 1 ≤ 601024 ∧ 5000 + 6 * it + 6 ≤ 7293034 := by omega
      obtain ⟨v, nu, rk, n, b, fl, me, st, lk, cm, v2, nu2, rk2, n2, b2, fl2, me2, st2, lk2, cm2, s0, s1, s2, s3, ol, ct, pc1, lk1, lw, hg, ln, nx, am, nb, vl, pt, hd, rf, lks, lo1, hi1, sp, cd, pl, gv, ov, tx, wo, hP, hD, hRZ, hHH, hol, hct, htx, hln⟩ := LI_J hI
      refine lv_aload_n hx hb dL_law_32 rfl (lv_at hl 0 rfl) ?_
      refine lv_iload hx hb dL_law_33 (lv_at hl 4 rfl) ?_
      refine wv_sld hx hb hX9 hbl hbA hS (j := i) (by omega) hL dL_law_35 ?_
      refine lv_bipush (v := nI 31) hx hb dL_law_36 (by decide) ?_
      refine lv_iand hx hb dL_law_38 ?_
      obtain ⟨j, hj, ej⟩ := and31 (xs i)
      refine wv_ti ej ?_
      rcases (show j = 0 ∨ j = 1 ∨ j = 2 ∨ j = 3 ∨ j = 4 ∨ j = 5 ∨ j = 6 ∨ j = 7 ∨ j = 8 ∨ j = 9 ∨ j = 10 ∨ j = 11 ∨ j = 12 ∨ j = 13 ∨ j = 14 ∨ j = 15 ∨ j = 16 ∨ j = 17 ∨ j = 18 ∨ j = 19 ∨ j = 20 ∨ j = 21 ∨ j = 22 ∨ j = 23 ∨ j = 24 ∨ j = 25 ∨ j = 26 ∨ 27 ≤ j by omega) with rfl | rfl | rfl | rfl | rfl | rfl | rfl | rfl | rfl | rfl | rfl | rfl | rfl | rfl | rfl | rfl | rfl | rfl | rfl | rfl | rfl | rfl | rfl | rfl | rfl | rfl | rfl | h27
      · refine lv_tableIn (tgt := 160) hx hb dL_law_39 (by decide) (by decide) rfl (by decide) ?_
        exact lc_append C hi4 hcs hP hD hRZ hHH hol hct htx hln hS hl kk
      · refine lv_tableIn (tgt := 248) hx hb dL_law_39 (by decide) (by decide) rfl (by decide) ?_
        exact lc_insert C hi4 hcs hP hD hRZ hHH hol hct htx hln hS hl kk
      · refine lv_tableIn (tgt := 348) hx hb dL_law_39 (by decide) (by decide) rfl (by decide) ?_
        exact lc_removeAt C hi4 hcs hP hD hRZ hHH hol hct htx hln hS hl kk
      · refine lv_tableIn (tgt := 404) hx hb dL_law_39 (by decide) (by decide) rfl (by decide) ?_
        exact lc_setValue C hi4 hcs hP hD hRZ hHH hol hct htx hln hS hl kk
      · refine lv_tableIn (tgt := 503) hx hb dL_law_39 (by decide) (by decide) rfl (by decide) ?_
        exact lc_swap C hi4 hcs hP hD hRZ hHH hol hct htx hln hS hl kk
      · refine lv_tableIn (tgt := 559) hx hb dL_law_39 (by decide) (by decide) rfl (by decide) ?_
        exact lc_setBound C hi4 hcs hP hD hRZ hHH hol hct htx hln hS hl kk
      · refine lv_tableIn (tgt := 615) hx hb dL_law_39 (by decide) (by decide) rfl (by decide) ?_
        exact lc_setOrder C hi4 hcs hP hD hRZ hHH hol hct htx hln hS hl kk
      · refine lv_tableIn (tgt := 656) hx hb dL_law_39 (by decide) (by decide) rfl (by decide) ?_
        exact lc_setSelf C hi4 hcs hP hD hRZ hHH hol hct htx hln hS hl kk
      · refine lv_tableIn (tgt := 697) hx hb dL_law_39 (by decide) (by decide) rfl (by decide) ?_
        exact lc_step C hi4 hcs hP hD hRZ hHH hol hct htx hln hS hl kk
      · refine lv_tableIn (tgt := 710) hx hb dL_law_39 (by decide) (by decide) rfl (by decide) ?_
        exact lc_mend C hi4 hcs hP hD hRZ hHH hol hct htx hln hS hl kk
      · refine lv_tableIn (tgt := 723) hx hb dL_law_39 (by decide) (by decide) rfl (by decide) ?_
        exact lc_search C hi4 hcs hP hD hRZ hHH hol hct htx hln hS hl kk
      · refine lv_tableIn (tgt := 780) hx hb dL_law_39 (by decide) (by decide) rfl (by decide) ?_
        exact lc_at C hi4 hcs hP hD hRZ hHH hol hct htx hln hS hl kk
      · refine lv_tableIn (tgt := 835) hx hb dL_law_39 (by decide) (by decide) rfl (by decide) ?_
        exact lc_element C hi4 hcs hP hD hRZ hHH hol hct htx hln hS hl kk
      · refine lv_tableIn (tgt := 903) hx hb dL_law_39 (by decide) (by decide) rfl (by decide) ?_
        exact lc_ranked C hi4 hcs hP hD hRZ hHH hol hct htx hln hS hl kk
      · refine lv_tableIn (tgt := 958) hx hb dL_law_39 (by decide) (by decide) rfl (by decide) ?_
        exact lc_broken C hi4 hcs hP hD hRZ hHH hol hct htx hln hS hl kk
      · refine lv_tableIn (tgt := 972) hx hb dL_law_39 (by decide) (by decide) rfl (by decide) ?_
        exact lc_whole C hi4 hcs hP hD hRZ hHH hol hct htx hln hS hl kk
      · refine lv_tableIn (tgt := 1028) hx hb dL_law_39 (by decide) (by decide) rfl (by decide) ?_
        exact lc_found C hi4 hcs hP hD hRZ hHH hol hct htx hln hS hl kk
      · refine lv_tableIn (tgt := 1128) hx hb dL_law_39 (by decide) (by decide) rfl (by decide) ?_
        exact lc_worstSearch C hi4 hcs hP hD hRZ hHH hol hct htx hln hS hl kk
      · refine lv_tableIn (tgt := 1141) hx hb dL_law_39 (by decide) (by decide) rfl (by decide) ?_
        exact lc_stepsFor C hi4 hcs hP hD hRZ hHH hol hct htx hln hS hl kk
      · refine lv_tableIn (tgt := 1197) hx hb dL_law_39 (by decide) (by decide) rfl (by decide) ?_
        exact lc_bestPlace C hi4 hcs hP hD hRZ hHH hol hct htx hln hS hl kk
      · refine lv_tableIn (tgt := 1254) hx hb dL_law_39 (by decide) (by decide) rfl (by decide) ?_
        exact lc_rankOf C hi4 hcs hP hD hRZ hHH hol hct htx hln hS hl kk
      · refine lv_tableIn (tgt := 1311) hx hb dL_law_39 (by decide) (by decide) rfl (by decide) ?_
        exact lc_lostValues C hi4 hcs hP hD hRZ hHH hol hct htx hln hS hl kk
      · refine lv_tableIn (tgt := 1324) hx hb dL_law_39 (by decide) (by decide) rfl (by decide) ?_
        exact lc_type C hi4 hcs hP hD hRZ hHH hol hct htx hln hS hl kk
      · refine lv_tableIn (tgt := 1380) hx hb dL_law_39 (by decide) (by decide) rfl (by decide) ?_
        exact lc_clearCommands C hi4 hcs hP hD hRZ hHH hol hct htx hln hS hl kk
      · refine lv_tableIn (tgt := 1393) hx hb dL_law_39 (by decide) (by decide) rfl (by decide) ?_
        exact lc_runCommands C hi4 hcs hP hD hRZ hHH hol hct htx hln hS hl kk
      · refine lv_tableIn (tgt := 1406) hx hb dL_law_39 (by decide) (by decide) rfl (by decide) ?_
        exact lc_undo C hi4 hcs hP hD hRZ hHH hol hct htx hln hS hl kk
      · refine lv_tableIn (tgt := 1450) hx hb dL_law_39 (by decide) (by decide) rfl (by decide) ?_
        exact lc_digest C hi4 hcs hP hD hRZ hHH hol hct htx hln hS hl kk
      · refine lv_tableOut (tgt := 1464) hx hb dL_law_39 (Or.inr (by rw [nI_toInt (by omega)]; omega)) (by decide) ?_
        refine W.widen (k := 100 + it + 1) (n := 5000 + 6 * it + 6) (by omega) (by omega) ?_
        exact kk _ _ _ hI hS hl
