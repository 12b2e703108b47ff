/-! The law's start: what the Statement gives of the classes, the words, the throws. -/
theorem st_mem {args : Array Value} {s : State} {T : Cond} (h : T.before args s = true) (w : Cond) (hw : w ∈ flatC T) : w.before args s = true := flat_of_before _ h w hw
theorem st_cls {s : State} {args : Array Value} (htt : ∀ w ∈ lw_tbl, w.before args s = true) : ∃ D : va_G, va_K D vwCl [] s := by
  obtain ⟨c0, i0, h0⟩ := u_known (C := RX1) (T := TX1) (N := 7) (n := 7) htt inX1 (htt (.instantiable RX1 7) (by decide +kernel))
  obtain ⟨c1, i1, h1⟩ := u_known (C := RX2) (T := TX2) (N := 3) (n := 3) htt inX2 (htt (.instantiable RX2 3) (by decide +kernel))
  obtain ⟨c2, i2, h2⟩ := u_known (C := RX3) (T := TX3) (N := 10) (n := 10) htt inX3 (htt (.instantiable RX3 10) (by decide +kernel))
  obtain ⟨c3, i3, h3⟩ := u_known (C := RX4) (T := TX4) (N := 4) (n := 4) htt inX4 (htt (.instantiable RX4 4) (by decide +kernel))
  obtain ⟨c4, i4, h4⟩ := u_known (C := RX6) (T := TX6) (N := 5) (n := 5) htt inX6 (htt (.instantiable RX6 5) (by decide +kernel))
  refine ⟨(fun k => if k = 0 then c0 else if k = 1 then c1 else if k = 2 then c2 else if k = 3 then c3 else c4, fun k => if k = 0 then i0 else if k = 1 then i1 else if k = 2 then i2 else if k = 3 then i3 else i4), ?_, fun k q h => by simp at h⟩
  intro k q hq
  match k, hq with
  | 0, hq => cases hq; exact h0
  | 1, hq => cases hq; exact h1
  | 2, hq => cases hq; exact h2
  | 3, hq => cases hq; exact h3
  | 4, hq => cases hq; exact h4
  | k + 5, hq => simp [vwCl] at hq
theorem st_tabs {s : State} {args : Array Value} (W : List Cond) (hW : W.all Cond.onTables = true) (hin : ∀ w ∈ W, w ∈ lw_tbl) (htt : ∀ w ∈ lw_tbl, w.before args s = true) : ∀ w ∈ W, va_Nw w s :=
  fun w hw => va_Nw.of (List.all_eq_true.mp hW w hw) (htt w (hin w hw))
theorem st_nws {s : State} {args : Array Value} (htt : ∀ w ∈ lw_tbl, w.before args s = true) : NWs s := st_tabs NW (by decide +kernel) (by decide +kernel) htt
theorem st_str {s : State} {args : Array Value} {own : String} {k : Nat} (h : (Cond.exactly (.string own k) "java/lang/String").before args s = true) : ∃ a, (Term.string own k).eval args s none [] s = some (.ref a) := by
  obtain ⟨a, c, cell, k9, q1, q2, q3, q4, q5, q6, -⟩ := Cond.exactly_spec h
  exact ⟨a, q1⟩
abbrev GN : Cond := Jvm.Cond.and given_1 narrow_1
theorem st_xen {s : State} {args : Array Value} {A : Nat → Prop} (htt : ∀ w ∈ lw_tbl, w.before args s = true) (hg : GN.before args s = true) (hA : ∀ a : Nat, a < s.heap.size → ¬ A a) : XEN A s s.heap := by
  refine ⟨vx_Zqof (htt _ (by decide +kernel)) (htt _ (by decide +kernel)) (st_mem hg _ (by decide +kernel)) hA, vx_Zqof (htt _ (by decide +kernel)) (htt _ (by decide +kernel)) (st_mem hg _ (by decide +kernel)) hA, st_tabs XW (by decide +kernel) (by decide +kernel) htt, ?_, va_Nc.of (st_mem hg _ (by decide +kernel)), va_Nc.of (st_mem hg _ (by decide +kernel))⟩
  intro q hq
  simp only [XS, List.mem_cons, List.not_mem_nil, or_false] at hq
  rcases hq with rfl | rfl | rfl | rfl | rfl | rfl | rfl | rfl
  · obtain ⟨a, ha⟩ := st_str (own := RX6) (k := 69) (st_mem hg _ (by decide +kernel))
    exact ⟨a, vk_R.of (htt (.stringRef RX6 69 "no place to insert at") (by decide +kernel)) ha⟩
  · obtain ⟨a, ha⟩ := st_str (own := RX6) (k := 100) (st_mem hg _ (by decide +kernel))
    exact ⟨a, vk_R.of (htt (.stringRef RX6 100 "no such place, or no next one") (by decide +kernel)) ha⟩
  · obtain ⟨a, ha⟩ := st_str (own := RX6) (k := 146) (st_mem hg _ (by decide +kernel))
    exact ⟨a, vk_R.of (htt (.stringRef RX6 146 "no such value of an element") (by decide +kernel)) ha⟩
  · obtain ⟨a, ha⟩ := st_str (own := RX6) (k := 158) (st_mem hg _ (by decide +kernel))
    exact ⟨a, vk_R.of (htt (.stringRef RX6 158 "no element with this rank") (by decide +kernel)) ha⟩
  · obtain ⟨a, ha⟩ := st_str (own := RX6) (k := 164) (st_mem hg _ (by decide +kernel))
    exact ⟨a, vk_R.of (htt (.stringRef RX6 164 "no such value of the whole") (by decide +kernel)) ha⟩
  · obtain ⟨a, ha⟩ := st_str (own := RX6) (k := 242) (st_mem hg _ (by decide +kernel))
    exact ⟨a, vk_R.of (htt (.stringRef RX6 242 "the row is full") (by decide +kernel)) ha⟩
  · obtain ⟨a, ha⟩ := st_str (own := RX6) (k := 244) (st_mem hg _ (by decide +kernel))
    exact ⟨a, vk_R.of (htt (.stringRef RX6 244 "no such place") (by decide +kernel)) ha⟩
  · obtain ⟨a, ha⟩ := st_str (own := RX6) (k := 249) (st_mem hg _ (by decide +kernel))
    exact ⟨a, vk_R.of (htt (.stringRef RX6 249 "no such bound") (by decide +kernel)) ha⟩
set_option maxHeartbeats 4000000 in
set_option maxRecDepth 100000 in
/-- THE LAW, from its entry -/
theorem whole_start {p : Program} {e : Env} {s : State} {m : MethodId} {below : List Frame} {meth : Method} {c : Code} (l : Launch) (hflags : l.flags = flags0) {b L : Nat} {xs : Nat → Int32} (hL : L ≤ 260) (C0 : lw_At p s m meth c b L xs) : W p l e room_1 s m #[Value.ref b] below meth c s.heap [] 0 0 (lw_Z below #[Value.ref b] s) (entryFrame m ([Value.ref b] : List Value).toArray 8) := by
  obtain ⟨hx, hb, hr, hml, hown, htt, hX9, hbl, hlocks, hgv⟩ := C0
  have hb : c.code = cL_law := hb
  have hown : s.vm.findClass RL = some m.cls := hown
  have hts : ∀ w ∈ wsL_law, w.before #[Value.ref b] s = true := fun w hw => htt w (wsL_law_in w hw)
  have hA : ∀ q : Nat, s.heap.size ≤ q → (fun q : Nat => s.heap.size ≤ q) q := fun _ h => h
  have hA0 : ∀ a : Nat, a < s.heap.size → ¬ (fun q : Nat => s.heap.size ≤ q) a := fun a h => Nat.not_le.mpr h
  have hbA : ¬ (fun q : Nat => s.heap.size ≤ q) b := Nat.not_le.mpr hbl
  have hlst : l.stackTraces = false := by
    unfold Launch.stackTraces
    rw [hflags]
    decide +kernel
  have hX := st_xen htt hgv hA0
  have hN := st_nws htt
  have hAO : va_AO RX3 s := va_AO.of (htt (.arrayOver (.object "NearRanks$Row")) (by decide +kernel))
  obtain ⟨D, hK⟩ := st_cls htt
  have hS : va_S (fun q : Nat => s.heap.size ≤ q) s.heap s.heap [] := va_S.rf
  have hP : va_P D vwCl [] s.heap := fun k q h => by simp at h
  have hD : va_D (fun q : Nat => s.heap.size ≤ q) [] := ⟨fun i j p q h => by simp at h, fun k q h => by simp at h⟩
  have hl := lv_entry ([.ref b]) (n := 8) (Nat.le_of_ble_eq_true rfl)
  rw [lg_entry_eq]
  generalize (lg_sl ([.ref b]) ++ List.replicate (8 - (lg_sl ([.ref b])).length) Slot.unset).toArray = ls at hl ⊢
  have hl : lv_has ls 8 [(0, .ref b)] := hl
  refine va_new (ci := 4) (fs := [.null, .null, .null, .null, .null]) (C := RX6) (T := TX6) (N := 5) hx hb htt inX6 tyX6 tyX6_ok hown (hts (.classLink RL 10 RX6) (by decide +kernel)) (hts (.instantiable RX6 5) (by decide +kernel)) (hts (.initialized RX6) (by decide +kernel)) hK hP hD hS hA rfl (fun j hj => by rcases (show j = 0 ∨ j = 1 ∨ j = 2 ∨ j = 3 ∨ j = 4 by omega) with rfl | rfl | rfl | rfl | rfl <;> rfl) (Nat.le_of_ble_eq_true rfl) (Nat.le_of_ble_eq_true rfl) dL_law_0 (fun q9 H hP hD hS => ?_)
  have hP : va_P D vwCl ([(q9, .inr (4, [.null, .null, .null, .null, .null]))]) H := hP
  have hD : va_D _ ([(q9, .inr (4, [.null, .null, .null, .null, .null]))]) := hD
  refine lv_dup hx hb dL_law_3 rfl ?_
  refine wv_callIv (rest := [.ref q9]) (wr := []) ⟨hx, hb, hml, hown, hts⟩ (kX6_init l D q9) (cwI 0 hts gL_law_X6_init rfl rfl rfl (hts (.initialized RX6) (by decide +kernel)) (hts (.methodLink RL 169 yX6_init) (by decide +kernel)) (hts (.instanceMethod yX6_init) (by decide +kernel)) rfl (by decide +kernel) ⟨Nat.le_of_ble_eq_true rfl, Nat.le_of_ble_eq_true rfl⟩) hK hN hAO hP hD hS hA 0 [] rfl rfl (by decide) (by decide) hl.1 rfl (Nat.le_of_ble_eq_true rfl) dL_law_4 ⟨Nat.le_of_ble_eq_true rfl, Nat.le_of_ble_eq_true rfl⟩ (fun u H locs hK hP hD hS => ?_)
  obtain ⟨⟨r, va, na, ra⟩, ⟨r2, va2, na2, ra2⟩, q, ⟨co, ba⟩, ⟨h, sta⟩, a0, a1, a2, a3, cJ, cI, cB, cR⟩ := u
  have hK : va_K D vwCl [(cJ, .long), (cI, .int), (cB, .byte), (cR, .object "NearRanks$Row")] s := hK
  have hP : va_P D vwCl ((ObjC q9 r r2 q co h) ++ (RowC r va na ra cJ cI (fun _ => 0) (fun _ => 0) (fun _ => 0) 0 2 false false 0 0 0) ++ (RowC r2 va2 na2 ra2 cJ cI (fun _ => 0) (fun _ => 0) (fun _ => 0) 0 2 false false 0 0 0) ++ (SrcC q 0 0 0 0) ++ (CmdC co ba cB (fun _ => 0) 0 0 0 .null 0 0) ++ (HstC h sta cR a0.1 a1.1 a2.1 a3.1 0 0) ++ (RowC a0.1 a0.2.1 a0.2.2.1 a0.2.2.2 cJ cI (fun _ => 0) (fun _ => 0) (fun _ => 0) 0 2 false false 0 0 0) ++ (RowC a1.1 a1.2.1 a1.2.2.1 a1.2.2.2 cJ cI (fun _ => 0) (fun _ => 0) (fun _ => 0) 0 2 false false 0 0 0) ++ (RowC a2.1 a2.2.1 a2.2.2.1 a2.2.2.2 cJ cI (fun _ => 0) (fun _ => 0) (fun _ => 0) 0 2 false false 0 0 0) ++ (RowC a3.1 a3.2.1 a3.2.2.1 a3.2.2.2 cJ cI (fun _ => 0) (fun _ => 0) (fun _ => 0) 0 2 false false 0 0 0)) H := hP
  have hD : va_D _ ((ObjC q9 r r2 q co h) ++ (RowC r va na ra cJ cI (fun _ => 0) (fun _ => 0) (fun _ => 0) 0 2 false false 0 0 0) ++ (RowC r2 va2 na2 ra2 cJ cI (fun _ => 0) (fun _ => 0) (fun _ => 0) 0 2 false false 0 0 0) ++ (SrcC q 0 0 0 0) ++ (CmdC co ba cB (fun _ => 0) 0 0 0 .null 0 0) ++ (HstC h sta cR a0.1 a1.1 a2.1 a3.1 0 0) ++ (RowC a0.1 a0.2.1 a0.2.2.1 a0.2.2.2 cJ cI (fun _ => 0) (fun _ => 0) (fun _ => 0) 0 2 false false 0 0 0) ++ (RowC a1.1 a1.2.1 a1.2.2.1 a1.2.2.2 cJ cI (fun _ => 0) (fun _ => 0) (fun _ => 0) 0 2 false false 0 0 0) ++ (RowC a2.1 a2.2.1 a2.2.2.1 a2.2.2.2 cJ cI (fun _ => 0) (fun _ => 0) (fun _ => 0) 0 2 false false 0 0 0) ++ (RowC a3.1 a3.2.1 a3.2.2.1 a3.2.2.2 cJ cI (fun _ => 0) (fun _ => 0) (fun _ => 0) 0 2 false false 0 0 0)) := hD
  refine lv_astore_n (lv' := [(1, .ref q9), (0, .ref b)]) hx hb dL_law_7 rfl hl (by decide) rfl (fun ls hl => ?_)
  refine lv_bipush (v := nI 7) hx hb dL_law_8 (by decide) ?_
  refine va_newa (atype := .int) (N' := 7) hx hb (hts (.arrayClass .int) (by decide +kernel)) rfl hK hP hD hS hA (a0 := (7, .inl (gM 0 0 false false 0 0 0))) (fun _ => by rw [gM_new]; rfl) (by decide) (by decide) (by decide) (Nat.le_of_ble_eq_true rfl) (Nat.le_of_ble_eq_true rfl) dL_law_10 (fun g c1 H hK1 hP hD hS => ?_)
  have hK1 : va_K D vwCl [(cJ, .long), (cI, .int), (cB, .byte), (cR, .object "NearRanks$Row"), (c1, .int)] s := hK1
  have e1 : c1 = cI := ty_eqI hK1 1 rfl hK1 4 rfl
  rw [e1] at hP hD
  have hP : va_P D vwCl ((ObjC q9 r r2 q co h) ++ (RowC r va na ra cJ cI (fun _ => 0) (fun _ => 0) (fun _ => 0) 0 2 false false 0 0 0) ++ (RowC r2 va2 na2 ra2 cJ cI (fun _ => 0) (fun _ => 0) (fun _ => 0) 0 2 false false 0 0 0) ++ (SrcC q 0 0 0 0) ++ (CmdC co ba cB (fun _ => 0) 0 0 0 .null 0 0) ++ (HstC h sta cR a0.1 a1.1 a2.1 a3.1 0 0) ++ (RowC a0.1 a0.2.1 a0.2.2.1 a0.2.2.2 cJ cI (fun _ => 0) (fun _ => 0) (fun _ => 0) 0 2 false false 0 0 0) ++ (RowC a1.1 a1.2.1 a1.2.2.1 a1.2.2.2 cJ cI (fun _ => 0) (fun _ => 0) (fun _ => 0) 0 2 false false 0 0 0) ++ (RowC a2.1 a2.2.1 a2.2.2.1 a2.2.2.2 cJ cI (fun _ => 0) (fun _ => 0) (fun _ => 0) 0 2 false false 0 0 0) ++ (RowC a3.1 a3.2.1 a3.2.2.1 a3.2.2.2 cJ cI (fun _ => 0) (fun _ => 0) (fun _ => 0) 0 2 false false 0 0 0) ++ (GvC g cI 0 0 false false 0 0 0)) H := hP
  have hD : va_D _ ((ObjC q9 r r2 q co h) ++ (RowC r va na ra cJ cI (fun _ => 0) (fun _ => 0) (fun _ => 0) 0 2 false false 0 0 0) ++ (RowC r2 va2 na2 ra2 cJ cI (fun _ => 0) (fun _ => 0) (fun _ => 0) 0 2 false false 0 0 0) ++ (SrcC q 0 0 0 0) ++ (CmdC co ba cB (fun _ => 0) 0 0 0 .null 0 0) ++ (HstC h sta cR a0.1 a1.1 a2.1 a3.1 0 0) ++ (RowC a0.1 a0.2.1 a0.2.2.1 a0.2.2.2 cJ cI (fun _ => 0) (fun _ => 0) (fun _ => 0) 0 2 false false 0 0 0) ++ (RowC a1.1 a1.2.1 a1.2.2.1 a1.2.2.2 cJ cI (fun _ => 0) (fun _ => 0) (fun _ => 0) 0 2 false false 0 0 0) ++ (RowC a2.1 a2.2.1 a2.2.2.1 a2.2.2.2 cJ cI (fun _ => 0) (fun _ => 0) (fun _ => 0) 0 2 false false 0 0 0) ++ (RowC a3.1 a3.2.1 a3.2.2.1 a3.2.2.2 cJ cI (fun _ => 0) (fun _ => 0) (fun _ => 0) 0 2 false false 0 0 0) ++ (GvC g cI 0 0 false false 0 0 0)) := hD
  refine lv_astore_n (lv' := [(2, .ref g), (1, .ref q9), (0, .ref b)]) hx hb dL_law_12 rfl hl (by decide) rfl (fun ls hl => ?_)
  refine lv_bipush (v := nI 32) hx hb dL_law_13 (by decide) ?_
  refine va_newa (atype := .long) (N' := 32) hx hb (hts (.arrayClass .long) (by decide +kernel)) rfl hK hP hD hS hA (a0 := (32, .inr (.inl (fun _ => 0)))) (fun _ => rfl) (by decide) (by decide) (by decide) (Nat.le_of_ble_eq_true rfl) (Nat.le_of_ble_eq_true rfl) dL_law_15 (fun vv c2 H hK2 hP hD hS => ?_)
  have hK2 : va_K D vwCl [(cJ, .long), (cI, .int), (cB, .byte), (cR, .object "NearRanks$Row"), (c2, .long)] s := hK2
  have e2 : c2 = cJ := ty_eqJ hK2 0 rfl hK2 4 rfl
  rw [e2] at hP hD
  have hP : va_P D vwCl ((ObjC q9 r r2 q co h) ++ (RowC r va na ra cJ cI (fun _ => 0) (fun _ => 0) (fun _ => 0) 0 2 false false 0 0 0) ++ (RowC r2 va2 na2 ra2 cJ cI (fun _ => 0) (fun _ => 0) (fun _ => 0) 0 2 false false 0 0 0) ++ (SrcC q 0 0 0 0) ++ (CmdC co ba cB (fun _ => 0) 0 0 0 .null 0 0) ++ (HstC h sta cR a0.1 a1.1 a2.1 a3.1 0 0) ++ (RowC a0.1 a0.2.1 a0.2.2.1 a0.2.2.2 cJ cI (fun _ => 0) (fun _ => 0) (fun _ => 0) 0 2 false false 0 0 0) ++ (RowC a1.1 a1.2.1 a1.2.2.1 a1.2.2.2 cJ cI (fun _ => 0) (fun _ => 0) (fun _ => 0) 0 2 false false 0 0 0) ++ (RowC a2.1 a2.2.1 a2.2.2.1 a2.2.2.2 cJ cI (fun _ => 0) (fun _ => 0) (fun _ => 0) 0 2 false false 0 0 0) ++ (RowC a3.1 a3.2.1 a3.2.2.1 a3.2.2.2 cJ cI (fun _ => 0) (fun _ => 0) (fun _ => 0) 0 2 false false 0 0 0) ++ (GvC g cI 0 0 false false 0 0 0) ++ (VvC vv cJ (fun _ => 0))) H := hP
  have hD : va_D _ ((ObjC q9 r r2 q co h) ++ (RowC r va na ra cJ cI (fun _ => 0) (fun _ => 0) (fun _ => 0) 0 2 false false 0 0 0) ++ (RowC r2 va2 na2 ra2 cJ cI (fun _ => 0) (fun _ => 0) (fun _ => 0) 0 2 false false 0 0 0) ++ (SrcC q 0 0 0 0) ++ (CmdC co ba cB (fun _ => 0) 0 0 0 .null 0 0) ++ (HstC h sta cR a0.1 a1.1 a2.1 a3.1 0 0) ++ (RowC a0.1 a0.2.1 a0.2.2.1 a0.2.2.2 cJ cI (fun _ => 0) (fun _ => 0) (fun _ => 0) 0 2 false false 0 0 0) ++ (RowC a1.1 a1.2.1 a1.2.2.1 a1.2.2.2 cJ cI (fun _ => 0) (fun _ => 0) (fun _ => 0) 0 2 false false 0 0 0) ++ (RowC a2.1 a2.2.1 a2.2.2.1 a2.2.2.2 cJ cI (fun _ => 0) (fun _ => 0) (fun _ => 0) 0 2 false false 0 0 0) ++ (RowC a3.1 a3.2.1 a3.2.2.1 a3.2.2.2 cJ cI (fun _ => 0) (fun _ => 0) (fun _ => 0) 0 2 false false 0 0 0) ++ (GvC g cI 0 0 false false 0 0 0) ++ (VvC vv cJ (fun _ => 0))) := hD
  refine lv_astore_n (lv' := [(3, .ref vv), (2, .ref g), (1, .ref q9), (0, .ref b)]) hx hb dL_law_17 rfl hl (by decide) rfl (fun ls hl => ?_)
  refine lv_bipush (v := nI 32) hx hb dL_law_18 (by decide) ?_
  refine va_newa (atype := .int) (N' := 32) hx hb (hts (.arrayClass .int) (by decide +kernel)) rfl hK hP hD hS hA (a0 := (32, .inl (fun _ => 0))) (fun _ => rfl) (by decide) (by decide) (by decide) (Nat.le_of_ble_eq_true rfl) (Nat.le_of_ble_eq_true rfl) dL_law_20 (fun nn c3 H hK3 hP hD hS => ?_)
  have hK3 : va_K D vwCl [(cJ, .long), (cI, .int), (cB, .byte), (cR, .object "NearRanks$Row"), (c3, .int)] s := hK3
  have e3 : c3 = cI := ty_eqI hK3 1 rfl hK3 4 rfl
  rw [e3] at hP hD
  have hP : va_P D vwCl ((ObjC q9 r r2 q co h) ++ (RowC r va na ra cJ cI (fun _ => 0) (fun _ => 0) (fun _ => 0) 0 2 false false 0 0 0) ++ (RowC r2 va2 na2 ra2 cJ cI (fun _ => 0) (fun _ => 0) (fun _ => 0) 0 2 false false 0 0 0) ++ (SrcC q 0 0 0 0) ++ (CmdC co ba cB (fun _ => 0) 0 0 0 .null 0 0) ++ (HstC h sta cR a0.1 a1.1 a2.1 a3.1 0 0) ++ (RowC a0.1 a0.2.1 a0.2.2.1 a0.2.2.2 cJ cI (fun _ => 0) (fun _ => 0) (fun _ => 0) 0 2 false false 0 0 0) ++ (RowC a1.1 a1.2.1 a1.2.2.1 a1.2.2.2 cJ cI (fun _ => 0) (fun _ => 0) (fun _ => 0) 0 2 false false 0 0 0) ++ (RowC a2.1 a2.2.1 a2.2.2.1 a2.2.2.2 cJ cI (fun _ => 0) (fun _ => 0) (fun _ => 0) 0 2 false false 0 0 0) ++ (RowC a3.1 a3.2.1 a3.2.2.1 a3.2.2.2 cJ cI (fun _ => 0) (fun _ => 0) (fun _ => 0) 0 2 false false 0 0 0) ++ (GvC g cI 0 0 false false 0 0 0) ++ (VvC vv cJ (fun _ => 0)) ++ (NnC nn cI (fun _ => 0))) H := hP
  have hD : va_D _ ((ObjC q9 r r2 q co h) ++ (RowC r va na ra cJ cI (fun _ => 0) (fun _ => 0) (fun _ => 0) 0 2 false false 0 0 0) ++ (RowC r2 va2 na2 ra2 cJ cI (fun _ => 0) (fun _ => 0) (fun _ => 0) 0 2 false false 0 0 0) ++ (SrcC q 0 0 0 0) ++ (CmdC co ba cB (fun _ => 0) 0 0 0 .null 0 0) ++ (HstC h sta cR a0.1 a1.1 a2.1 a3.1 0 0) ++ (RowC a0.1 a0.2.1 a0.2.2.1 a0.2.2.2 cJ cI (fun _ => 0) (fun _ => 0) (fun _ => 0) 0 2 false false 0 0 0) ++ (RowC a1.1 a1.2.1 a1.2.2.1 a1.2.2.2 cJ cI (fun _ => 0) (fun _ => 0) (fun _ => 0) 0 2 false false 0 0 0) ++ (RowC a2.1 a2.2.1 a2.2.2.1 a2.2.2.2 cJ cI (fun _ => 0) (fun _ => 0) (fun _ => 0) 0 2 false false 0 0 0) ++ (RowC a3.1 a3.2.1 a3.2.2.1 a3.2.2.2 cJ cI (fun _ => 0) (fun _ => 0) (fun _ => 0) 0 2 false false 0 0 0) ++ (GvC g cI 0 0 false false 0 0 0) ++ (VvC vv cJ (fun _ => 0)) ++ (NnC nn cI (fun _ => 0))) := hD
  refine lv_astore (lv' := [(4, .ref nn), (3, .ref vv), (2, .ref g), (1, .ref q9), (0, .ref b)]) hx hb dL_law_22 hl (by decide) rfl (fun ls hl => ?_)
  refine lv_aload_n hx hb dL_law_24 rfl (lv_at hl 2 rfl) ?_
  refine lv_iconst (v := nI 1) hx hb dL_law_25 (by decide) ?_
  refine lv_iconst (v := nI 2) hx hb dL_law_26 (by decide) ?_
  refine wv_iast hx hb hK hP hD hS 30 1 rfl rfl (k := 1) (by omega) (by decide) dL_law_27 (fun H locs hP hD hS => ?_)
  rw [show upd (gM 0 0 false false 0 0 0) 1 (nI 2) = gM 0 2 false false 0 0 0 from gM_u1 _] at hP hD
  have hP : va_P D vwCl ((ObjC q9 r r2 q co h) ++ (RowC r va na ra cJ cI (fun _ => 0) (fun _ => 0) (fun _ => 0) 0 2 false false 0 0 0) ++ (RowC r2 va2 na2 ra2 cJ cI (fun _ => 0) (fun _ => 0) (fun _ => 0) 0 2 false false 0 0 0) ++ (SrcC q 0 0 0 0) ++ (CmdC co ba cB (fun _ => 0) 0 0 0 .null 0 0) ++ (HstC h sta cR a0.1 a1.1 a2.1 a3.1 0 0) ++ (RowC a0.1 a0.2.1 a0.2.2.1 a0.2.2.2 cJ cI (fun _ => 0) (fun _ => 0) (fun _ => 0) 0 2 false false 0 0 0) ++ (RowC a1.1 a1.2.1 a1.2.2.1 a1.2.2.2 cJ cI (fun _ => 0) (fun _ => 0) (fun _ => 0) 0 2 false false 0 0 0) ++ (RowC a2.1 a2.2.1 a2.2.2.1 a2.2.2.2 cJ cI (fun _ => 0) (fun _ => 0) (fun _ => 0) 0 2 false false 0 0 0) ++ (RowC a3.1 a3.2.1 a3.2.2.1 a3.2.2.2 cJ cI (fun _ => 0) (fun _ => 0) (fun _ => 0) 0 2 false false 0 0 0) ++ (GvC g cI 0 2 false false 0 0 0) ++ (VvC vv cJ (fun _ => 0)) ++ (NnC nn cI (fun _ => 0))) H := hP
  have hD : va_D _ ((ObjC q9 r r2 q co h) ++ (RowC r va na ra cJ cI (fun _ => 0) (fun _ => 0) (fun _ => 0) 0 2 false false 0 0 0) ++ (RowC r2 va2 na2 ra2 cJ cI (fun _ => 0) (fun _ => 0) (fun _ => 0) 0 2 false false 0 0 0) ++ (SrcC q 0 0 0 0) ++ (CmdC co ba cB (fun _ => 0) 0 0 0 .null 0 0) ++ (HstC h sta cR a0.1 a1.1 a2.1 a3.1 0 0) ++ (RowC a0.1 a0.2.1 a0.2.2.1 a0.2.2.2 cJ cI (fun _ => 0) (fun _ => 0) (fun _ => 0) 0 2 false false 0 0 0) ++ (RowC a1.1 a1.2.1 a1.2.2.1 a1.2.2.2 cJ cI (fun _ => 0) (fun _ => 0) (fun _ => 0) 0 2 false false 0 0 0) ++ (RowC a2.1 a2.2.1 a2.2.2.1 a2.2.2.2 cJ cI (fun _ => 0) (fun _ => 0) (fun _ => 0) 0 2 false false 0 0 0) ++ (RowC a3.1 a3.2.1 a3.2.2.1 a3.2.2.2 cJ cI (fun _ => 0) (fun _ => 0) (fun _ => 0) 0 2 false false 0 0 0) ++ (GvC g cI 0 2 false false 0 0 0) ++ (VvC vv cJ (fun _ => 0)) ++ (NnC nn cI (fun _ => 0))) := hD
  have hP : va_P D vwCl (cW co ba cB ++ aW q9 r r2 q co h va na ra cJ cI sta cR a0 a1 a2 a3 g vv nn (((fun _ => 0, fun _ => 0, fun _ => 0, 0, 2, false, false, 0, 0, 0) : RT), ((fun _ => 0, fun _ => 0, fun _ => 0, 0, 2, false, false, 0, 0, 0) : RT), ((fun _ => 0, fun _ => 0, fun _ => 0, 0, 2, false, false, 0, 0, 0) : RT), ((fun _ => 0, fun _ => 0, fun _ => 0, 0, 2, false, false, 0, 0, 0) : RT), ((fun _ => 0, fun _ => 0, fun _ => 0, 0, 2, false, false, 0, 0, 0) : RT), 0, 0, 0, 0, 0, 0)) H := hP.sub [10, 11, 0, 1, 2, 3, 4, 12, 13, 14, 15, 16, 17, 18, 19, 20, 21, 22, 23, 24, 25, 26, 27, 28, 29, 9, 30, 31, 32] rfl
  have hD : va_D _ (cW co ba cB ++ aW q9 r r2 q co h va na ra cJ cI sta cR a0 a1 a2 a3 g vv nn (((fun _ => 0, fun _ => 0, fun _ => 0, 0, 2, false, false, 0, 0, 0) : RT), ((fun _ => 0, fun _ => 0, fun _ => 0, 0, 2, false, false, 0, 0, 0) : RT), ((fun _ => 0, fun _ => 0, fun _ => 0, 0, 2, false, false, 0, 0, 0) : RT), ((fun _ => 0, fun _ => 0, fun _ => 0, 0, 2, false, false, 0, 0, 0) : RT), ((fun _ => 0, fun _ => 0, fun _ => 0, 0, 2, false, false, 0, 0, 0) : RT), 0, 0, 0, 0, 0, 0)) := hD.sub [10, 11, 0, 1, 2, 3, 4, 12, 13, 14, 15, 16, 17, 18, 19, 20, 21, 22, 23, 24, 25, 26, 27, 28, 29, 9, 30, 31, 32] (by decide) rfl
  have C : LC p l s m c b L xs (fun q : Nat => s.heap.size ≤ q) D cJ cI cR cB := ⟨hlst, hx, hb, hml, hown, hts, hX9, hbl, hbA, hK, hN, hX, hA, hL⟩
  have hI : LI (fun q : Nat => s.heap.size ≤ q) D q9 r r2 q co h va na ra cJ cI sta cR a0 a1 a2 a3 g vv nn ba cB H := ⟨(((fun _ => 0, fun _ => 0, fun _ => 0, 0, 2, false, false, 0, 0, 0) : RT), ((fun _ => 0, fun _ => 0, fun _ => 0, 0, 2, false, false, 0, 0, 0) : RT), ((fun _ => 0, fun _ => 0, fun _ => 0, 0, 2, false, false, 0, 0, 0) : RT), ((fun _ => 0, fun _ => 0, fun _ => 0, 0, 2, false, false, 0, 0, 0) : RT), ((fun _ => 0, fun _ => 0, fun _ => 0, 0, 2, false, false, 0, 0, 0) : RT), 0, 0, 0, 0, 0, 0), hP, hD, by decide, by decide, fun i hi => absurd hi (Nat.not_lt_zero i), by decide, by decide⟩
  refine lv_aload_n hx hb dL_law_28 rfl (lv_at hl 3 rfl) ?_
  refine lv_aload_n hx hb dL_law_29 rfl (lv_at hl 2 rfl) ?_
  refine lv_aload_n hx hb dL_law_30 rfl (lv_at hl 1 rfl) ?_
  refine lv_aload hx hb dL_law_31 (lv_at hl 0 rfl) ?_
  refine law_so C (rest := []) dL_law_33 ⟨Nat.le_of_ble_eq_true rfl, Nat.le_of_ble_eq_true rfl⟩ hI hS hl.1 (Nat.le_of_ble_eq_true rfl) (fun H2 locs2 hI2 hS2 => ?_)
  refine lv_istore (lv' := [(5, .int (bI true)), (4, .ref nn), (3, .ref vv), (2, .ref g), (1, .ref q9), (0, .ref b)]) hx hb dL_law_36 hl (by decide) rfl (fun ls hl => ?_)
  refine lv_iconst (v := nI 0) hx hb dL_law_38 (by decide) ?_
  refine lv_istore (lv' := [(6, .int (nI 0)), (5, .int (bI true)), (4, .ref nn), (3, .ref vv), (2, .ref g), (1, .ref q9), (0, .ref b)]) hx hb dL_law_39 hl (by decide) rfl (fun ls hl => ?_)
  refine W.widen (k := 100 + 4 * 0) (n := 1000 + 24 * 0) (Nat.le_of_ble_eq_true rfl) (Nat.le_of_ble_eq_true rfl) ?_
  exact law_loop1 C hr hlocks 13 0 (by omega) (Nat.zero_le _) _ _ _ hI2 hS2 (lv_sub hl [6, 5, 4, 3, 2, 1, 0] rfl)
