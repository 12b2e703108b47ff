/-! The law's start: what the Statement gives of the classes, the words, the throws. -/
theorem st_mem {args : Array Value} {s : State} {T : Cond} (h : T.before args s = true) (w : Cond) (hw : w ∈ flatC T) : w.before args s = true := flat_of_before _ h w hw
theorem st_cls {s : State} {args : Array Value} (htt : ∀ w ∈ lw_tbl, w.before args s = true) : ∃ D : va_G, va_K D vwCl [] s := by
  obtain ⟨c0, i0, h0⟩ := u_known (C := RX1) (T := TX1) (N := 7) (n := 7) htt inX1 (htt (.instantiable RX1 7) (by decide +kernel))
  obtain ⟨c1, i1, h1⟩ := u_known (C := RX2) (T := TX2) (N := 3) (n := 3) htt inX2 (htt (.instantiable RX2 3) (by decide +kernel))
  obtain ⟨c2, i2, h2⟩ := u_known (C := RX3) (T := TX3) (N := 10) (n := 10) htt inX3 (htt (.instantiable RX3 10) (by decide +kernel))
  obtain ⟨c3, i3, h3⟩ := u_known (C := RX4) (T := TX4) (N := 4) (n := 4) htt inX4 (htt (.instantiable RX4 4) (by decide +kernel))
  obtain ⟨c4, i4, h4⟩ := u_known (C := RX6) (T := TX6) (N := 5) (n := 5) htt inX6 (htt (.instantiable RX6 5) (by decide +kernel))
  obtain ⟨c5, i5, h5⟩ := u_known (C := RX7) (T := TX7) (N := 15) (n := 15) htt inX7 (htt (.instantiable RX7 15) (by decide +kernel))
  refine ⟨(fun k => if k = 0 then c0 else if k = 1 then c1 else if k = 2 then c2 else if k = 3 then c3 else if k = 4 then c4 else c5, fun k => if k = 0 then i0 else if k = 1 then i1 else if k = 2 then i2 else if k = 3 then i3 else if k = 4 then i4 else i5), ?_, fun k q h => by simp at h⟩
  intro k q hq
  match k, hq with
  | 0, hq => cases hq; exact h0
  | 1, hq => cases hq; exact h1
  | 2, hq => cases hq; exact h2
  | 3, hq => cases hq; exact h3
  | 4, hq => cases hq; exact h4
  | 5, hq => cases hq; exact h5
  | k + 6, hq => simp [vwCl] at hq
theorem st_tabs {s : State} {args : Array Value} (W : List Cond) (hW : W.all Cond.onTables = true) (hin : ∀ w ∈ W, w ∈ lw_tbl) (htt : ∀ w ∈ lw_tbl, w.before args s = true) : ∀ w ∈ W, va_Nw w s :=
  fun w hw => va_Nw.of (List.all_eq_true.mp hW w hw) (htt w (hin w hw))
theorem st_nws {s : State} {args : Array Value} (htt : ∀ w ∈ lw_tbl, w.before args s = true) : NWs s := st_tabs NW (by decide +kernel) (by decide +kernel) htt
theorem st_str {s : State} {args : Array Value} {own : String} {k : Nat} (h : (Cond.exactly (.string own k) "java/lang/String").before args s = true) : ∃ a, (Term.string own k).eval args s none [] s = some (.ref a) := by
  obtain ⟨a, c, cell, k9, q1, q2, q3, q4, q5, q6, -⟩ := Cond.exactly_spec h
  exact ⟨a, q1⟩
abbrev GN : Cond := Jvm.Cond.and given_1 narrow_1
theorem st_xen {s : State} {args : Array Value} {A : Nat → Prop} (htt : ∀ w ∈ lw_tbl, w.before args s = true) (hg : GN.before args s = true) (hA : ∀ a : Nat, a < s.heap.size → ¬ A a) : XEN A s s.heap := by
  refine ⟨vx_Zqof (htt _ (by decide +kernel)) (htt _ (by decide +kernel)) (st_mem hg _ (by decide +kernel)) hA, vx_Zqof (htt _ (by decide +kernel)) (htt _ (by decide +kernel)) (st_mem hg _ (by decide +kernel)) hA, st_tabs XW (by decide +kernel) (by decide +kernel) htt, ?_, va_Nc.of (st_mem hg _ (by decide +kernel)), va_Nc.of (st_mem hg _ (by decide +kernel))⟩
  intro q hq
  simp only [XS, List.mem_cons, List.not_mem_nil, or_false] at hq
  rcases hq with rfl | rfl | rfl | rfl | rfl | rfl | rfl | rfl | rfl | rfl | rfl | rfl
  · obtain ⟨a, ha⟩ := st_str (own := RX6) (k := 69) (st_mem hg _ (by decide +kernel))
    exact ⟨a, vk_R.of (htt (.stringRef RX6 69 "no place to insert at") (by decide +kernel)) ha⟩
  · obtain ⟨a, ha⟩ := st_str (own := RX6) (k := 100) (st_mem hg _ (by decide +kernel))
    exact ⟨a, vk_R.of (htt (.stringRef RX6 100 "no such place, or no next one") (by decide +kernel)) ha⟩
  · obtain ⟨a, ha⟩ := st_str (own := RX6) (k := 146) (st_mem hg _ (by decide +kernel))
    exact ⟨a, vk_R.of (htt (.stringRef RX6 146 "no such value of an element") (by decide +kernel)) ha⟩
  · obtain ⟨a, ha⟩ := st_str (own := RX6) (k := 158) (st_mem hg _ (by decide +kernel))
    exact ⟨a, vk_R.of (htt (.stringRef RX6 158 "no element with this rank") (by decide +kernel)) ha⟩
  · obtain ⟨a, ha⟩ := st_str (own := RX6) (k := 164) (st_mem hg _ (by decide +kernel))
    exact ⟨a, vk_R.of (htt (.stringRef RX6 164 "no such value of the whole") (by decide +kernel)) ha⟩
  · obtain ⟨a, ha⟩ := st_str (own := RX6) (k := 169) (st_mem hg _ (by decide +kernel))
    exact ⟨a, vk_R.of (htt (.stringRef RX6 169 "no such value of a search") (by decide +kernel)) ha⟩
  · obtain ⟨a, ha⟩ := st_str (own := RX6) (k := 193) (st_mem hg _ (by decide +kernel))
    exact ⟨a, vk_R.of (htt (.stringRef RX6 193 "no such byte") (by decide +kernel)) ha⟩
  · obtain ⟨a, ha⟩ := st_str (own := RX6) (k := 200) (st_mem hg _ (by decide +kernel))
    exact ⟨a, vk_R.of (htt (.stringRef RX6 200 "the command text is full") (by decide +kernel)) ha⟩
  · obtain ⟨a, ha⟩ := st_str (own := RX6) (k := 227) (st_mem hg _ (by decide +kernel))
    exact ⟨a, vk_R.of (htt (.stringRef RX6 227 "no state is saved") (by decide +kernel)) ha⟩
  · obtain ⟨a, ha⟩ := st_str (own := RX6) (k := 242) (st_mem hg _ (by decide +kernel))
    exact ⟨a, vk_R.of (htt (.stringRef RX6 242 "the row is full") (by decide +kernel)) ha⟩
  · obtain ⟨a, ha⟩ := st_str (own := RX6) (k := 244) (st_mem hg _ (by decide +kernel))
    exact ⟨a, vk_R.of (htt (.stringRef RX6 244 "no such place") (by decide +kernel)) ha⟩
  · obtain ⟨a, ha⟩ := st_str (own := RX6) (k := 249) (st_mem hg _ (by decide +kernel))
    exact ⟨a, vk_R.of (htt (.stringRef RX6 249 "no such bound") (by decide +kernel)) ha⟩
/-- the enum's words: names, their strings' places -/
def wnm : List String := ["ADD", "PUT", "DEL", "SET", "SWAP", "BOUND", "MEND"]
def wsn : List Nat := [56, 62, 65, 68, 71, 74, 77]
abbrev tmW (i : Nat) : Term := .static "NearRanks$Word" (wnm.getD i "") "LNearRanks$Word;"
abbrev tmS (i : Nat) : Term := .string "NearRanks$Word" (wsn.getD i 0)
theorem lt7 {i : Nat} (h : i < 7) : i = 0 ∨ i = 1 ∨ i = 2 ∨ i = 3 ∨ i = 4 ∨ i = 5 ∨ i = 6 := by omega
set_option maxRecDepth 20000 in
set_option maxHeartbeats 4000000 in
theorem st_env {s : State} {args : Array Value} {A : Nat → Prop} (htt : ∀ w ∈ lw_tbl, w.before args s = true) (hg : GN.before args s = true) (hA : ∀ a : Nat, a < s.heap.size → ¬ A a) : ∃ ea : EA, ENV ea A s s.heap := by
  have h0 : ∀ i : Nat, ∃ t : Nat, i < 7 → (tmW i).eval args s none [] s = some (.ref t) ∧ va_O "NearRanks$Word" t A s s.heap := by
    intro i
    by_cases hi : i < 7
    · have hex : (Cond.exactly (tmW i) "NearRanks$Word").before args s = true := by rcases lt7 hi with rfl | rfl | rfl | rfl | rfl | rfl | rfl <;> exact st_mem hg _ (by decide +kernel)
      obtain ⟨a, c, cell, k, q1, q2, q3, q4, q5, q6, -⟩ := Cond.exactly_spec hex
      exact ⟨a, fun _ => ⟨q1, va_Oof hex q1 hA⟩⟩
    · exact ⟨0, fun h => absurd h hi⟩
  obtain ⟨ad, had⟩ := Classical.axiomOfChoice h0
  obtain ⟨adK, adV, hS, hK⟩ := vk_Sof (args := args) (s := s) (N := 7) (tm := tmS) (len := wlen) (byt := wbyt) (A := A) (fun i hi => by rcases lt7 hi with rfl | rfl | rfl | rfl | rfl | rfl | rfl <;> decide)
    (fun i hi => by rcases lt7 hi with rfl | rfl | rfl | rfl | rfl | rfl | rfl <;> exact st_mem hg _ (by decide +kernel))
    (fun i hi => by rcases lt7 hi with rfl | rfl | rfl | rfl | rfl | rfl | rfl <;> exact st_mem hg _ (by decide +kernel))
    (fun i hi => by rcases lt7 hi with rfl | rfl | rfl | rfl | rfl | rfl | rfl <;> exact st_mem hg _ (by decide +kernel))
    (fun i hi => by rcases lt7 hi with rfl | rfl | rfl | rfl | rfl | rfl | rfl <;> exact st_mem hg _ (by decide +kernel))
    (fun i hi j hj => by
      rcases lt7 hi with rfl | rfl | rfl | rfl | rfl | rfl | rfl
      · have hj : j < 3 := hj
        rcases (show j = 0 ∨ j = 1 ∨ j = 2 by omega) with rfl | rfl | rfl <;> exact st_mem hg _ (by decide +kernel)
      · have hj : j < 3 := hj
        rcases (show j = 0 ∨ j = 1 ∨ j = 2 by omega) with rfl | rfl | rfl <;> exact st_mem hg _ (by decide +kernel)
      · have hj : j < 3 := hj
        rcases (show j = 0 ∨ j = 1 ∨ j = 2 by omega) with rfl | rfl | rfl <;> exact st_mem hg _ (by decide +kernel)
      · have hj : j < 3 := hj
        rcases (show j = 0 ∨ j = 1 ∨ j = 2 by omega) with rfl | rfl | rfl <;> exact st_mem hg _ (by decide +kernel)
      · have hj : j < 4 := hj
        rcases (show j = 0 ∨ j = 1 ∨ j = 2 ∨ j = 3 by omega) with rfl | rfl | rfl | rfl <;> exact st_mem hg _ (by decide +kernel)
      · have hj : j < 5 := hj
        rcases (show j = 0 ∨ j = 1 ∨ j = 2 ∨ j = 3 ∨ j = 4 by omega) with rfl | rfl | rfl | rfl | rfl <;> exact st_mem hg _ (by decide +kernel)
      · have hj : j < 4 := hj
        rcases (show j = 0 ∨ j = 1 ∨ j = 2 ∨ j = 3 by omega) with rfl | rfl | rfl | rfl <;> exact st_mem hg _ (by decide +kernel))
    (fun i j hi hj hij => by
      rcases lt7 hi with rfl | rfl | rfl | rfl | rfl | rfl | rfl <;> rcases lt7 hj with rfl | rfl | rfl | rfl | rfl | rfl | rfl <;> first
        | exact absurd rfl hij
        | exact Or.inl (st_mem hg _ (by decide +kernel))
        | exact Or.inr (st_mem hg _ (by decide +kernel))) hA
  obtain ⟨tA, hTA, hT1⟩ := va_Tof (args := args) (s := s) (tm := .static "NearRanks$Word" "ALL" "[LNearRanks$Word;") (ty := .object "NearRanks$Word") (N := 7) (f := fun j => .ref (ad j)) (A := A) (by decide) (st_mem hg _ (by decide +kernel)) (va_eqt (st_mem hg (.eq (.length (.static "NearRanks$Word" "ALL" "[LNearRanks$Word;")) (.int 7)) (by decide +kernel)))
    (fun j hi => va_eqv (t := .elem (.static "NearRanks$Word" "ALL" "[LNearRanks$Word;") (.int (Int32.ofNat j))) (u := tmW j) (by
      rcases lt7 hi with rfl | rfl | rfl | rfl | rfl | rfl | rfl <;> exact st_mem hg _ (by decide +kernel)) (had j hi).1) hA
  obtain ⟨tS, hTS, hT2⟩ := va_Tof (args := args) (s := s) (tm := .static "NearRanks$1" "$SwitchMap$NearRanks$Word" "[I") (ty := .int) (N := 7) (f := fun j => .int (nI (swm j))) (A := A) (by decide) (st_mem hg _ (by decide +kernel)) (va_eqt (st_mem hg (.eq (.length (.static "NearRanks$1" "$SwitchMap$NearRanks$Word" "[I")) (.int 7)) (by decide +kernel)))
    (fun j hi => va_eqt (by
      rcases lt7 hi with rfl | rfl | rfl | rfl | rfl | rfl | rfl <;> exact st_mem hg _ (by decide +kernel))) hA
  refine ⟨(ad, adK, adV, tA, tS), ⟨?_, hT1⟩, ⟨?_, hT2⟩, ⟨fun i hi => (had i hi).2, ?_, ?_, ?_, ?_⟩, ⟨hS, ?_, ?_⟩⟩
  · exact va_Zof (htt _ (by decide +kernel)) (htt _ (by decide +kernel)) hTA hA
  · exact va_Zof (htt _ (by decide +kernel)) (htt _ (by decide +kernel)) hTS hA
  · exact va_Efof (E := "NearRanks$Word") (nm := wnm) (d0 := "LNearRanks$Word;") (tm := fun i => .int (nI i)) (fun i hi => (had i hi).1) (fun i hi => by rcases lt7 hi with rfl | rfl | rfl | rfl | rfl | rfl | rfl <;> exact st_mem hg _ (by decide +kernel)) (fun i hi => rfl) hA
  · exact va_Efof (E := "NearRanks$Word") (nm := wnm) (d0 := "LNearRanks$Word;") (tm := tmS) (fun i hi => (had i hi).1) (fun i hi => by rcases lt7 hi with rfl | rfl | rfl | rfl | rfl | rfl | rfl <;> exact st_mem hg _ (by decide +kernel)) (fun i hi => hK i hi) hA
  · exact va_Efof (E := "NearRanks$Word") (nm := wnm) (d0 := "LNearRanks$Word;") (tm := fun i => .int (bI (wnu i))) (fun i hi => (had i hi).1) (fun i hi => by rcases lt7 hi with rfl | rfl | rfl | rfl | rfl | rfl | rfl <;> exact st_mem hg _ (by decide +kernel)) (fun i hi => rfl) hA
  · exact va_Efof (E := "NearRanks$Word") (nm := wnm) (d0 := "LNearRanks$Word;") (tm := fun i => .int (bI (wva i))) (fun i hi => (had i hi).1) (fun i hi => by rcases lt7 hi with rfl | rfl | rfl | rfl | rfl | rfl | rfl <;> exact st_mem hg _ (by decide +kernel)) (fun i hi => rfl) hA
  · exact va_Zof (htt _ (by decide +kernel)) (htt _ (by decide +kernel)) (va_eqt (st_mem hg (.eq (.static "java/lang/String" "COMPACT_STRINGS" "Z") (.int 1)) (by decide +kernel))) hA
  · exact va_Zqof (htt _ (by decide +kernel)) (htt _ (by decide +kernel)) (st_mem hg _ (by decide +kernel)) hA
set_option maxHeartbeats 4000000 in
set_option maxRecDepth 100000 in
/-- THE LAW, from its entry -/
theorem whole_start {p : Program} {e : Env} {s : State} {m : MethodId} {below : List Frame} {meth : Method} {c : Code} (l : Launch) (hflags : l.flags = flags0) {b L : Nat} {xs : Nat → Int32} (hL : L ≤ 2048) (C0 : lw_At p s m meth c b L xs) : W p l e room_1 s m #[Value.ref b] below meth c s.heap [] 0 0 (lw_Z below #[Value.ref b] s) (entryFrame m ([Value.ref b] : List Value).toArray 8) := by
  obtain ⟨hx, hb, hr, hml, hown, htt, hX9, hbl, hlocks, hgv⟩ := C0
  have hb : c.code = cL_law := hb
  have hown : s.vm.findClass RL = some m.cls := hown
  have hts : ∀ w ∈ wsL_law, w.before #[Value.ref b] s = true := fun w hw => htt w (wsL_law_in w hw)
  have hA : ∀ q : Nat, s.heap.size ≤ q → (fun q : Nat => s.heap.size ≤ q) q := fun _ h => h
  have hA0 : ∀ a : Nat, a < s.heap.size → ¬ (fun q : Nat => s.heap.size ≤ q) a := fun a h => Nat.not_le.mpr h
  have hbA : ¬ (fun q : Nat => s.heap.size ≤ q) b := Nat.not_le.mpr hbl
  have hlst : l.stackTraces = false := by
    unfold Launch.stackTraces
    rw [hflags]
    decide +kernel
  obtain ⟨ea, hE⟩ := st_env htt hgv hA0
  have hX := st_xen htt hgv hA0
  have hN := st_nws htt
  have hAO : va_AO RX3 s := va_AO.of (htt (.arrayOver (.object "NearRanks$Row")) (by decide +kernel))
  obtain ⟨D, hK⟩ := st_cls htt
  have hS : va_S (fun q : Nat => s.heap.size ≤ q) s.heap s.heap [] := va_S.rf
  have hP : va_P D vwCl [] s.heap := fun k q h => by simp at h
  have hD : va_D (fun q : Nat => s.heap.size ≤ q) [] := ⟨fun i j p q h => by simp at h, fun k q h => by simp at h⟩
  have hl := lv_entry ([.ref b]) (n := 8) (Nat.le_of_ble_eq_true rfl)
  rw [lg_entry_eq]
  generalize (lg_sl ([.ref b]) ++ List.replicate (8 - (lg_sl ([.ref b])).length) Slot.unset).toArray = ls at hl ⊢
  have hl : lv_has ls 8 [(0, .ref b)] := hl
  refine va_new (ci := 4) (fs := [.null, .null, .null, .null, .null]) (C := RX6) (T := TX6) (N := 5) hx hb htt inX6 tyX6 tyX6_ok hown (hts (.classLink RL 8 RX6) (by decide +kernel)) (hts (.instantiable RX6 5) (by decide +kernel)) (hts (.initialized RX6) (by decide +kernel)) hK hP hD hS hA rfl (fun j hj => by rcases (show j = 0 ∨ j = 1 ∨ j = 2 ∨ j = 3 ∨ j = 4 by omega) with rfl | rfl | rfl | rfl | rfl <;> rfl) (Nat.le_of_ble_eq_true rfl) (Nat.le_of_ble_eq_true rfl) dL_law_0 (fun q9 H hP hD hS => ?_)
  have hP : va_P D vwCl ([(q9, .inr (4, [.null, .null, .null, .null, .null]))]) H := hP
  have hD : va_D _ ([(q9, .inr (4, [.null, .null, .null, .null, .null]))]) := hD
  refine lv_dup hx hb dL_law_3 rfl ?_
  refine wv_callIv (rest := [.ref q9]) (wr := []) ⟨hx, hb, hml, hown, hts⟩ (kX6_init l D q9) (cwI 0 hts gL_law_X6_init rfl rfl rfl (hts (.initialized RX6) (by decide +kernel)) (hts (.methodLink RL 65 yX6_init) (by decide +kernel)) (hts (.instanceMethod yX6_init) (by decide +kernel)) rfl (by decide +kernel) ⟨Nat.le_of_ble_eq_true rfl, Nat.le_of_ble_eq_true rfl⟩) hK hN hAO hP hD hS hA 0 [] rfl rfl (by decide) (by decide) hl.1 rfl (Nat.le_of_ble_eq_true rfl) dL_law_4 ⟨Nat.le_of_ble_eq_true rfl, Nat.le_of_ble_eq_true rfl⟩ (fun u H locs hK hP hD hS => ?_)
  obtain ⟨⟨r, va, na, ra⟩, ⟨r2, va2, na2, ra2⟩, q, ⟨co, ba⟩, ⟨h, sta⟩, a0, a1, a2, a3, cJ, cI, cB, cR⟩ := u
  have hK : va_K D vwCl [(cJ, .long), (cI, .int), (cB, .byte), (cR, .object "NearRanks$Row")] s := hK
  have hP : va_P D vwCl ((ObjC q9 r r2 q co h) ++ (RowC r va na ra cJ cI (fun _ => 0) (fun _ => 0) (fun _ => 0) 0 2 false false 0 0 0) ++ (RowC r2 va2 na2 ra2 cJ cI (fun _ => 0) (fun _ => 0) (fun _ => 0) 0 2 false false 0 0 0) ++ (SrcC q 0 0 0 0) ++ (CmdC co ba cB (fun _ => 0) 0 0 0 .null 0 0) ++ (HstC h sta cR a0.1 a1.1 a2.1 a3.1 0 0) ++ (RowC a0.1 a0.2.1 a0.2.2.1 a0.2.2.2 cJ cI (fun _ => 0) (fun _ => 0) (fun _ => 0) 0 2 false false 0 0 0) ++ (RowC a1.1 a1.2.1 a1.2.2.1 a1.2.2.2 cJ cI (fun _ => 0) (fun _ => 0) (fun _ => 0) 0 2 false false 0 0 0) ++ (RowC a2.1 a2.2.1 a2.2.2.1 a2.2.2.2 cJ cI (fun _ => 0) (fun _ => 0) (fun _ => 0) 0 2 false false 0 0 0) ++ (RowC a3.1 a3.2.1 a3.2.2.1 a3.2.2.2 cJ cI (fun _ => 0) (fun _ => 0) (fun _ => 0) 0 2 false false 0 0 0)) H := hP
  have hD : va_D _ ((ObjC q9 r r2 q co h) ++ (RowC r va na ra cJ cI (fun _ => 0) (fun _ => 0) (fun _ => 0) 0 2 false false 0 0 0) ++ (RowC r2 va2 na2 ra2 cJ cI (fun _ => 0) (fun _ => 0) (fun _ => 0) 0 2 false false 0 0 0) ++ (SrcC q 0 0 0 0) ++ (CmdC co ba cB (fun _ => 0) 0 0 0 .null 0 0) ++ (HstC h sta cR a0.1 a1.1 a2.1 a3.1 0 0) ++ (RowC a0.1 a0.2.1 a0.2.2.1 a0.2.2.2 cJ cI (fun _ => 0) (fun _ => 0) (fun _ => 0) 0 2 false false 0 0 0) ++ (RowC a1.1 a1.2.1 a1.2.2.1 a1.2.2.2 cJ cI (fun _ => 0) (fun _ => 0) (fun _ => 0) 0 2 false false 0 0 0) ++ (RowC a2.1 a2.2.1 a2.2.2.1 a2.2.2.2 cJ cI (fun _ => 0) (fun _ => 0) (fun _ => 0) 0 2 false false 0 0 0) ++ (RowC a3.1 a3.2.1 a3.2.2.1 a3.2.2.2 cJ cI (fun _ => 0) (fun _ => 0) (fun _ => 0) 0 2 false false 0 0 0)) := hD
  refine lv_astore_n (lv' := [(1, .ref q9), (0, .ref b)]) hx hb dL_law_7 rfl hl (by decide) rfl (fun ls hl => ?_)
  refine va_new (ci := 5) (fs := [.null, .null, .null, .int 0, .int 0, .null, .int 0, .int 0, .int 0, .int 0, .int 0, .int 0, .int 0, .int 0, .long 0]) (C := RX7) (T := TX7) (N := 15) hx hb htt inX7 tyX7 tyX7_ok hown (hts (.classLink RL 66 RX7) (by decide +kernel)) (hts (.instantiable RX7 15) (by decide +kernel)) (hts (.initialized RX7) (by decide +kernel)) hK hP hD hS hA rfl (fun j hj => by rcases (show j = 0 ∨ j = 1 ∨ j = 2 ∨ j = 3 ∨ j = 4 ∨ j = 5 ∨ j = 6 ∨ j = 7 ∨ j = 8 ∨ j = 9 ∨ j = 10 ∨ j = 11 ∨ j = 12 ∨ j = 13 ∨ j = 14 by omega) with rfl | rfl | rfl | rfl | rfl | rfl | rfl | rfl | rfl | rfl | rfl | rfl | rfl | rfl | rfl <;> rfl) (Nat.le_of_ble_eq_true rfl) (Nat.le_of_ble_eq_true rfl) dL_law_8 (fun m9 H hP hD hS => ?_)
  have hP : va_P D vwCl ((ObjC q9 r r2 q co h) ++ (RowC r va na ra cJ cI (fun _ => 0) (fun _ => 0) (fun _ => 0) 0 2 false false 0 0 0) ++ (RowC r2 va2 na2 ra2 cJ cI (fun _ => 0) (fun _ => 0) (fun _ => 0) 0 2 false false 0 0 0) ++ (SrcC q 0 0 0 0) ++ (CmdC co ba cB (fun _ => 0) 0 0 0 .null 0 0) ++ (HstC h sta cR a0.1 a1.1 a2.1 a3.1 0 0) ++ (RowC a0.1 a0.2.1 a0.2.2.1 a0.2.2.2 cJ cI (fun _ => 0) (fun _ => 0) (fun _ => 0) 0 2 false false 0 0 0) ++ (RowC a1.1 a1.2.1 a1.2.2.1 a1.2.2.2 cJ cI (fun _ => 0) (fun _ => 0) (fun _ => 0) 0 2 false false 0 0 0) ++ (RowC a2.1 a2.2.1 a2.2.2.1 a2.2.2.2 cJ cI (fun _ => 0) (fun _ => 0) (fun _ => 0) 0 2 false false 0 0 0) ++ (RowC a3.1 a3.2.1 a3.2.2.1 a3.2.2.2 cJ cI (fun _ => 0) (fun _ => 0) (fun _ => 0) 0 2 false false 0 0 0) ++ [(m9, .inr (5, [.null, .null, .null, .int 0, .int 0, .null, .int 0, .int 0, .int 0, .int 0, .int 0, .int 0, .int 0, .int 0, .long 0]))]) H := hP
  have hD : va_D _ ((ObjC q9 r r2 q co h) ++ (RowC r va na ra cJ cI (fun _ => 0) (fun _ => 0) (fun _ => 0) 0 2 false false 0 0 0) ++ (RowC r2 va2 na2 ra2 cJ cI (fun _ => 0) (fun _ => 0) (fun _ => 0) 0 2 false false 0 0 0) ++ (SrcC q 0 0 0 0) ++ (CmdC co ba cB (fun _ => 0) 0 0 0 .null 0 0) ++ (HstC h sta cR a0.1 a1.1 a2.1 a3.1 0 0) ++ (RowC a0.1 a0.2.1 a0.2.2.1 a0.2.2.2 cJ cI (fun _ => 0) (fun _ => 0) (fun _ => 0) 0 2 false false 0 0 0) ++ (RowC a1.1 a1.2.1 a1.2.2.1 a1.2.2.2 cJ cI (fun _ => 0) (fun _ => 0) (fun _ => 0) 0 2 false false 0 0 0) ++ (RowC a2.1 a2.2.1 a2.2.2.1 a2.2.2.2 cJ cI (fun _ => 0) (fun _ => 0) (fun _ => 0) 0 2 false false 0 0 0) ++ (RowC a3.1 a3.2.1 a3.2.2.1 a3.2.2.2 cJ cI (fun _ => 0) (fun _ => 0) (fun _ => 0) 0 2 false false 0 0 0) ++ [(m9, .inr (5, [.null, .null, .null, .int 0, .int 0, .null, .int 0, .int 0, .int 0, .int 0, .int 0, .int 0, .int 0, .int 0, .long 0]))]) := hD
  refine lv_dup hx hb dL_law_11 rfl ?_
  refine wv_callIv (rest := [.ref m9]) (wr := (ObjC q9 r r2 q co h) ++ (RowC r va na ra cJ cI (fun _ => 0) (fun _ => 0) (fun _ => 0) 0 2 false false 0 0 0) ++ (RowC r2 va2 na2 ra2 cJ cI (fun _ => 0) (fun _ => 0) (fun _ => 0) 0 2 false false 0 0 0) ++ (SrcC q 0 0 0 0) ++ (CmdC co ba cB (fun _ => 0) 0 0 0 .null 0 0) ++ (HstC h sta cR a0.1 a1.1 a2.1 a3.1 0 0) ++ (RowC a0.1 a0.2.1 a0.2.2.1 a0.2.2.2 cJ cI (fun _ => 0) (fun _ => 0) (fun _ => 0) 0 2 false false 0 0 0) ++ (RowC a1.1 a1.2.1 a1.2.2.1 a1.2.2.2 cJ cI (fun _ => 0) (fun _ => 0) (fun _ => 0) 0 2 false false 0 0 0) ++ (RowC a2.1 a2.2.1 a2.2.2.1 a2.2.2.2 cJ cI (fun _ => 0) (fun _ => 0) (fun _ => 0) 0 2 false false 0 0 0) ++ (RowC a3.1 a3.2.1 a3.2.2.1 a3.2.2.2 cJ cI (fun _ => 0) (fun _ => 0) (fun _ => 0) 0 2 false false 0 0 0)) ⟨hx, hb, hml, hown, hts⟩ (kX7_init l D m9) (cwI 0 hts gL_law_X7_init rfl rfl rfl (hts (.initialized RX7) (by decide +kernel)) (hts (.methodLink RL 68 yX7_init) (by decide +kernel)) (hts (.instanceMethod yX7_init) (by decide +kernel)) rfl (by decide +kernel) ⟨Nat.le_of_ble_eq_true rfl, Nat.le_of_ble_eq_true rfl⟩) hK hN hAO hP hD hS hA 30 [0, 1, 2, 3, 4, 5, 6, 7, 8, 9, 10, 11, 12, 13, 14, 15, 16, 17, 18, 19, 20, 21, 22, 23, 24, 25, 26, 27, 28, 29] rfl rfl (by decide) (by decide) hl.1 rfl (Nat.le_of_ble_eq_true rfl) dL_law_12 ⟨Nat.le_of_ble_eq_true rfl, Nat.le_of_ble_eq_true rfl⟩ (fun u H locs hK9 hP hD hS => ?_)
  obtain ⟨sa, pa, ha, ta, cJ2, cI2⟩ := u
  have hK9 : va_K D vwCl [(cJ2, .long), (cI2, .int)] s := hK9
  have hP : va_P D vwCl ((ObjC q9 r r2 q co h) ++ (RowC r va na ra cJ cI (fun _ => 0) (fun _ => 0) (fun _ => 0) 0 2 false false 0 0 0) ++ (RowC r2 va2 na2 ra2 cJ cI (fun _ => 0) (fun _ => 0) (fun _ => 0) 0 2 false false 0 0 0) ++ (SrcC q 0 0 0 0) ++ (CmdC co ba cB (fun _ => 0) 0 0 0 .null 0 0) ++ (HstC h sta cR a0.1 a1.1 a2.1 a3.1 0 0) ++ (RowC a0.1 a0.2.1 a0.2.2.1 a0.2.2.2 cJ cI (fun _ => 0) (fun _ => 0) (fun _ => 0) 0 2 false false 0 0 0) ++ (RowC a1.1 a1.2.1 a1.2.2.1 a1.2.2.2 cJ cI (fun _ => 0) (fun _ => 0) (fun _ => 0) 0 2 false false 0 0 0) ++ (RowC a2.1 a2.2.1 a2.2.2.1 a2.2.2.2 cJ cI (fun _ => 0) (fun _ => 0) (fun _ => 0) 0 2 false false 0 0 0) ++ (RowC a3.1 a3.2.1 a3.2.2.1 a3.2.2.2 cJ cI (fun _ => 0) (fun _ => 0) (fun _ => 0) 0 2 false false 0 0 0) ++ (ModC m9 sa pa ha ta cJ2 cI2 (sM 0 2 false false 0 0 0 (fun _ => 0) (fun _ => 0)) (fun _ => 0) (fun _ => 0) (fun _ => 0) 0 false 0 0 0 0 0 0 0 0 0)) H := hP
  have hD : va_D _ ((ObjC q9 r r2 q co h) ++ (RowC r va na ra cJ cI (fun _ => 0) (fun _ => 0) (fun _ => 0) 0 2 false false 0 0 0) ++ (RowC r2 va2 na2 ra2 cJ cI (fun _ => 0) (fun _ => 0) (fun _ => 0) 0 2 false false 0 0 0) ++ (SrcC q 0 0 0 0) ++ (CmdC co ba cB (fun _ => 0) 0 0 0 .null 0 0) ++ (HstC h sta cR a0.1 a1.1 a2.1 a3.1 0 0) ++ (RowC a0.1 a0.2.1 a0.2.2.1 a0.2.2.2 cJ cI (fun _ => 0) (fun _ => 0) (fun _ => 0) 0 2 false false 0 0 0) ++ (RowC a1.1 a1.2.1 a1.2.2.1 a1.2.2.2 cJ cI (fun _ => 0) (fun _ => 0) (fun _ => 0) 0 2 false false 0 0 0) ++ (RowC a2.1 a2.2.1 a2.2.2.1 a2.2.2.2 cJ cI (fun _ => 0) (fun _ => 0) (fun _ => 0) 0 2 false false 0 0 0) ++ (RowC a3.1 a3.2.1 a3.2.2.1 a3.2.2.2 cJ cI (fun _ => 0) (fun _ => 0) (fun _ => 0) 0 2 false false 0 0 0) ++ (ModC m9 sa pa ha ta cJ2 cI2 (sM 0 2 false false 0 0 0 (fun _ => 0) (fun _ => 0)) (fun _ => 0) (fun _ => 0) (fun _ => 0) 0 false 0 0 0 0 0 0 0 0 0)) := hD
  have eJ : cJ2 = cJ := ty_eqJ hK 0 rfl hK9 0 rfl
  have eI : cI2 = cI := ty_eqI hK 1 rfl hK9 1 rfl
  rw [eJ, eI] at hP hD
  refine lv_astore_n (lv' := [(2, .ref m9), (1, .ref q9), (0, .ref b)]) hx hb dL_law_15 rfl hl (by decide) rfl (fun ls hl => ?_)
  refine lv_iconst (v := nI 1) hx hb dL_law_16 (by decide) ?_
  refine va_newa (atype := .long) hx hb (hts (.arrayClass .long) (by decide +kernel)) rfl hK hP hD hS hA (a0 := (1, .inr (.inl (fun _ => 0)))) (fun _ => rfl) (by decide) (by decide) (by decide) (Nat.le_of_ble_eq_true rfl) (Nat.le_of_ble_eq_true rfl) dL_law_17 (fun o9 cJ3 H hK3 hP hD hS => ?_)
  have hK3 : va_K D vwCl [(cJ, .long), (cI, .int), (cB, .byte), (cR, .object "NearRanks$Row"), (cJ3, .long)] s := hK3
  have eJ3 : cJ3 = cJ := ty_eqJ hK3 0 rfl hK3 4 rfl
  rw [eJ3] at hP hD
  have hP : va_P D vwCl ((ObjC q9 r r2 q co h) ++ (RowC r va na ra cJ cI (fun _ => 0) (fun _ => 0) (fun _ => 0) 0 2 false false 0 0 0) ++ (RowC r2 va2 na2 ra2 cJ cI (fun _ => 0) (fun _ => 0) (fun _ => 0) 0 2 false false 0 0 0) ++ (SrcC q 0 0 0 0) ++ (CmdC co ba cB (fun _ => 0) 0 0 0 .null 0 0) ++ (HstC h sta cR a0.1 a1.1 a2.1 a3.1 0 0) ++ (RowC a0.1 a0.2.1 a0.2.2.1 a0.2.2.2 cJ cI (fun _ => 0) (fun _ => 0) (fun _ => 0) 0 2 false false 0 0 0) ++ (RowC a1.1 a1.2.1 a1.2.2.1 a1.2.2.2 cJ cI (fun _ => 0) (fun _ => 0) (fun _ => 0) 0 2 false false 0 0 0) ++ (RowC a2.1 a2.2.1 a2.2.2.1 a2.2.2.2 cJ cI (fun _ => 0) (fun _ => 0) (fun _ => 0) 0 2 false false 0 0 0) ++ (RowC a3.1 a3.2.1 a3.2.2.1 a3.2.2.2 cJ cI (fun _ => 0) (fun _ => 0) (fun _ => 0) 0 2 false false 0 0 0) ++ (ModC m9 sa pa ha ta cJ cI (sM 0 2 false false 0 0 0 (fun _ => 0) (fun _ => 0)) (fun _ => 0) (fun _ => 0) (fun _ => 0) 0 false 0 0 0 0 0 0 0 0 0) ++ (OutC o9 cJ (fun _ => 0))) H := hP
  have hD : va_D _ ((ObjC q9 r r2 q co h) ++ (RowC r va na ra cJ cI (fun _ => 0) (fun _ => 0) (fun _ => 0) 0 2 false false 0 0 0) ++ (RowC r2 va2 na2 ra2 cJ cI (fun _ => 0) (fun _ => 0) (fun _ => 0) 0 2 false false 0 0 0) ++ (SrcC q 0 0 0 0) ++ (CmdC co ba cB (fun _ => 0) 0 0 0 .null 0 0) ++ (HstC h sta cR a0.1 a1.1 a2.1 a3.1 0 0) ++ (RowC a0.1 a0.2.1 a0.2.2.1 a0.2.2.2 cJ cI (fun _ => 0) (fun _ => 0) (fun _ => 0) 0 2 false false 0 0 0) ++ (RowC a1.1 a1.2.1 a1.2.2.1 a1.2.2.2 cJ cI (fun _ => 0) (fun _ => 0) (fun _ => 0) 0 2 false false 0 0 0) ++ (RowC a2.1 a2.2.1 a2.2.2.1 a2.2.2.2 cJ cI (fun _ => 0) (fun _ => 0) (fun _ => 0) 0 2 false false 0 0 0) ++ (RowC a3.1 a3.2.1 a3.2.2.1 a3.2.2.2 cJ cI (fun _ => 0) (fun _ => 0) (fun _ => 0) 0 2 false false 0 0 0) ++ (ModC m9 sa pa ha ta cJ cI (sM 0 2 false false 0 0 0 (fun _ => 0) (fun _ => 0)) (fun _ => 0) (fun _ => 0) (fun _ => 0) 0 false 0 0 0 0 0 0 0 0 0) ++ (OutC o9 cJ (fun _ => 0))) := hD
  refine lv_astore_n (lv' := [(3, .ref o9), (2, .ref m9), (1, .ref q9), (0, .ref b)]) hx hb dL_law_19 rfl hl (by decide) rfl (fun ls hl => ?_)
  refine lv_iconst (v := nI 0) hx hb dL_law_20 (by decide) ?_
  refine lv_istore (lv' := [(4, .int (nI 0)), (3, .ref o9), (2, .ref m9), (1, .ref q9), (0, .ref b)]) hx hb dL_law_21 hl (by decide) rfl (fun ls hl => ?_)
  have hP : va_P D vwCl ((ObjC q9 r r2 q co h) ++ (RowC r va na ra cJ cI (fun _ => 0) (fun _ => 0) (fun _ => 0) 0 2 false false 0 0 0) ++ (HstC h sta cR a0.1 a1.1 a2.1 a3.1 0 0) ++ (RowC a0.1 a0.2.1 a0.2.2.1 a0.2.2.2 cJ cI (fun _ => 0) (fun _ => 0) (fun _ => 0) 0 2 false false 0 0 0) ++ (RowC a1.1 a1.2.1 a1.2.2.1 a1.2.2.2 cJ cI (fun _ => 0) (fun _ => 0) (fun _ => 0) 0 2 false false 0 0 0) ++ (RowC a2.1 a2.2.1 a2.2.2.1 a2.2.2.2 cJ cI (fun _ => 0) (fun _ => 0) (fun _ => 0) 0 2 false false 0 0 0) ++ (RowC a3.1 a3.2.1 a3.2.2.1 a3.2.2.2 cJ cI (fun _ => 0) (fun _ => 0) (fun _ => 0) 0 2 false false 0 0 0) ++ (RowC r2 va2 na2 ra2 cJ cI (fun _ => 0) (fun _ => 0) (fun _ => 0) 0 2 false false 0 0 0) ++ (SrcC q 0 0 0 0) ++ (CmdC co ba cB (fun _ => 0) 0 0 0 .null 0 0) ++ (ModC m9 sa pa ha ta cJ cI (sM 0 2 false false 0 0 0 (fun _ => 0) (fun _ => 0)) (fun _ => 0) (fun _ => 0) (fun _ => 0) 0 false 0 0 0 0 0 0 0 0 0) ++ (OutC o9 cJ (fun _ => 0))) H := hP.sub [0, 1, 2, 3, 4, 12, 13, 14, 15, 16, 17, 18, 19, 20, 21, 22, 23, 24, 25, 26, 27, 28, 29, 5, 6, 7, 8, 9, 10, 11, 30, 31, 32, 33, 34, 35] rfl
  have hD : va_D _ ((ObjC q9 r r2 q co h) ++ (RowC r va na ra cJ cI (fun _ => 0) (fun _ => 0) (fun _ => 0) 0 2 false false 0 0 0) ++ (HstC h sta cR a0.1 a1.1 a2.1 a3.1 0 0) ++ (RowC a0.1 a0.2.1 a0.2.2.1 a0.2.2.2 cJ cI (fun _ => 0) (fun _ => 0) (fun _ => 0) 0 2 false false 0 0 0) ++ (RowC a1.1 a1.2.1 a1.2.2.1 a1.2.2.2 cJ cI (fun _ => 0) (fun _ => 0) (fun _ => 0) 0 2 false false 0 0 0) ++ (RowC a2.1 a2.2.1 a2.2.2.1 a2.2.2.2 cJ cI (fun _ => 0) (fun _ => 0) (fun _ => 0) 0 2 false false 0 0 0) ++ (RowC a3.1 a3.2.1 a3.2.2.1 a3.2.2.2 cJ cI (fun _ => 0) (fun _ => 0) (fun _ => 0) 0 2 false false 0 0 0) ++ (RowC r2 va2 na2 ra2 cJ cI (fun _ => 0) (fun _ => 0) (fun _ => 0) 0 2 false false 0 0 0) ++ (SrcC q 0 0 0 0) ++ (CmdC co ba cB (fun _ => 0) 0 0 0 .null 0 0) ++ (ModC m9 sa pa ha ta cJ cI (sM 0 2 false false 0 0 0 (fun _ => 0) (fun _ => 0)) (fun _ => 0) (fun _ => 0) (fun _ => 0) 0 false 0 0 0 0 0 0 0 0 0) ++ (OutC o9 cJ (fun _ => 0))) := hD.sub [0, 1, 2, 3, 4, 12, 13, 14, 15, 16, 17, 18, 19, 20, 21, 22, 23, 24, 25, 26, 27, 28, 29, 5, 6, 7, 8, 9, 10, 11, 30, 31, 32, 33, 34, 35] (by decide) rfl
  have C : LC p l s m c b L xs (fun q : Nat => s.heap.size ≤ q) D ea cJ cI cR cB := ⟨hlst, hx, hb, hml, hown, hts, hX9, hbl, hbA, hK.sub [0, 1, 3, 2] rfl, hN, hE, hX, hA, hL⟩
  have hRZ : RZ (fun _ => 0, n32 (fun _ => 0), fun _ => 0, 0, 2, false, false, (0 : Int64).toInt32, (0 : Int64).toInt32, (0 : Int64).toInt32) (0, 2, false, false, 0, 0, 0, fun _ => 0, fun _ => 0) := ⟨⟨by decide, by decide, fun i hi => absurd hi (Nat.not_lt_zero i)⟩, fun _ => 0, rfl⟩
  have hRR : RR (fun _ => 0, fun _ => 0, fun _ => 0, 0, 2, false, false, 0, 0, 0) (sM 0 2 false false 0 0 0 (fun _ => 0) (fun _ => 0)) := RR_sM hRZ
  have hI : LI (fun q : Nat => s.heap.size ≤ q) D ea q9 r r2 q co h va na ra va2 na2 ra2 cJ cI cR cB sta a0 a1 a2 a3 ba m9 sa pa ha ta o9 H :=
    LI_mk (s0 := ((fun _ => 0, fun _ => 0, fun _ => 0, 0, 2, false, false, 0, 0, 0) : RT)) (s1 := ((fun _ => 0, fun _ => 0, fun _ => 0, 0, 2, false, false, 0, 0, 0) : RT)) (s2 := ((fun _ => 0, fun _ => 0, fun _ => 0, 0, 2, false, false, 0, 0, 0) : RT)) (s3 := ((fun _ => 0, fun _ => 0, fun _ => 0, 0, 2, false, false, 0, 0, 0) : RT)) (tx := fun _ => 0) (wo := none) hP hD hRR (fun j hj => absurd hj (Nat.not_lt_zero j)) (Nat.zero_le _) (Nat.zero_le _) (fun _ => by decide) (Nat.zero_le _) rfl rfl rfl rfl rfl
  refine W.widen (k := 100 + 0) (n := 5000 + 6 * 0) (Nat.le_of_ble_eq_true rfl) (Nat.le_of_ble_eq_true rfl) ?_
  exact law_loop C hr hlocks (L + 1) 0 0 rfl (Nat.zero_le _) (by omega) _ _ _ hI hS (lv_sub hl [4, 3, 2, 1, 0] rfl)
