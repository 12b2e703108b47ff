/-! The model: commands read, done, and the whole text run. -/
/-- the model: a command done, on its row. A row's parts: n, b, falling, self, steps, looks, came, values, numbers. -/
abbrev MT : Type := Nat × Nat × Bool × Bool × Int64 × Int64 × Int64 × (Nat → Int64) × (Nat → Int64)
def enM (z : MT) : MT := match z with
  | (n, b, fl, me, st, lk, cm, v, nu) => (n, b, fl, me, st + (lN (eL me fl n b v).length), lk, cm, sws v (eL me fl n b v), sws nu (eL me fl n b v))
def dmS (k : Nat) (pl : Int32) (gv : Int64) (z : MT) : Nat × MT :=
  match k, z with
  | 0, (n, b, fl, me, st, lk, cm, v, nu) => if n < 32 then (0, enM (n + 1, b, fl, me, st, lk, cm + (lN 1), insA v n n gv, insA nu n n cm)) else (1, z)
  | 1, (n, b, fl, me, st, lk, cm, v, nu) => if opn pl n = true then (if n < 32 then (0, enM (n + 1, b, fl, me, st, lk, cm + (lN 1), insA v n pl.toNatClampNeg gv, insA nu n pl.toNatClampNeg cm)) else (2, z)) else (1, z)
  | 2, (n, b, fl, me, st, lk, cm, v, nu) => if inR pl n = true then (0, enM (n - 1, b, fl, me, st, lk, cm, cla v pl.toNatClampNeg (n - 1), cla nu pl.toNatClampNeg (n - 1))) else (1, z)
  | 3, (n, b, fl, me, st, lk, cm, v, nu) => if inR pl n = true then (0, enM (n, b, fl, me, st, lk, cm, vp_updL v pl.toNatClampNeg gv, nu)) else (1, z)
  | 4, (n, b, fl, me, st, lk, cm, v, nu) => if hnx pl n = true then (0, enM (n, b, fl, me, st, lk, cm, swa v pl.toNatClampNeg, swa nu pl.toNatClampNeg)) else (1, z)
  | 5, (n, b, fl, me, st, lk, cm, v, nu) => if inB pl = true then (0, enM (n, pl.toNatClampNeg, fl, me, st, lk, cm, v, nu)) else (1, z)
  | _, (n, b, fl, me, st, lk, cm, v, nu) => (0, (n, b, fl, me, st + (lN (mL fl n b 1000 v).length), lk, cm, sws v (mL fl n b 1000 v), sws nu (mL fl n b 1000 v)))
def okM (z : MT) : Prop := z.1 ≤ 32 ∧ z.2.1 ≤ 31
theorem okM_en {z : MT} (h : okM z) : okM (enM z) := by
  obtain ⟨n, b, fl, me, st, lk, cm, v, nu⟩ := z
  exact h
theorem dmS_ok {k : Nat} {pl : Int32} {gv : Int64} {z : MT} (h : okM z) : okM (dmS k pl gv z).2 ∧ (dmS k pl gv z).1 ≤ 2 := by
  obtain ⟨n, b, fl, me, st, lk, cm, v, nu⟩ := z
  have h1 : n ≤ 32 := h.1
  have h2 : b ≤ 31 := h.2
  match k with
  | 0 =>
    simp only [dmS]
    split
    · exact ⟨⟨by show n + 1 ≤ 32; omega, h2⟩, by show 0 ≤ 2; omega⟩
    · exact ⟨h, by show 1 ≤ 2; omega⟩
  | 1 =>
    simp only [dmS]
    split
    · split
      · exact ⟨⟨by show n + 1 ≤ 32; omega, h2⟩, by show 0 ≤ 2; omega⟩
      · exact ⟨h, by show 2 ≤ 2; omega⟩
    · exact ⟨h, by show 1 ≤ 2; omega⟩
  | 2 =>
    simp only [dmS]
    split
    · exact ⟨⟨by show n - 1 ≤ 32; omega, h2⟩, by show 0 ≤ 2; omega⟩
    · exact ⟨h, by show 1 ≤ 2; omega⟩
  | 3 =>
    simp only [dmS]
    split
    · exact ⟨h, by show 0 ≤ 2; omega⟩
    · exact ⟨h, by show 1 ≤ 2; omega⟩
  | 4 =>
    simp only [dmS]
    split
    · exact ⟨h, by show 0 ≤ 2; omega⟩
    · exact ⟨h, by show 1 ≤ 2; omega⟩
  | 5 =>
    simp only [dmS]
    split
    · rename_i hv
      obtain ⟨j, hj, ej⟩ := inB_k hv
      have etn : pl.toNatClampNeg = j := by rw [ej]; exact nI_clamp (by omega)
      rw [etn]
      exact ⟨⟨h1, hj⟩, by show 0 ≤ 2; omega⟩
    · exact ⟨h, by show 1 ≤ 2; omega⟩
  | _ + 6 => exact ⟨h, by show 0 ≤ 2; omega⟩
theorem sw_3 (x : Int32) {n : Nat} (hn : n ≤ 32) : (∃ j, j + 1 < n ∧ x = nI j ∧ hnx x n = true) ∨ (inR x n = false ∧ hnx x n = false) ∨ (∃ j, j + 1 = n ∧ x = nI j ∧ hnx x n = false) := by
  rcases Bool.eq_false_or_eq_true (hnx x n) with h | h
  · obtain ⟨j, h1, h2⟩ := hnx_k h hn
    exact Or.inl ⟨j, h1, h2, h⟩
  · rcases Bool.eq_false_or_eq_true (inR x n) with h3 | h3
    · obtain ⟨j, h4, h5⟩ := inR_k h3 (by omega)
      refine Or.inr (Or.inr ⟨j, ?_, h5, h⟩)
      rw [h5, hnx_nI h4 (by omega)] at h
      have := of_decide_eq_false h
      omega
    · exact Or.inr (Or.inl ⟨h3, h⟩)
def kOf (c : Nat → Nat) (n : Nat) (s : MS) : Nat := (cmdO (wrd c s.1 (skL c n s.1))).getD 0
theorem mdE_cd {c : Nat → Nat} {n k q : Nat} {pl : Int32} {gv : Int64} : (mdE c n k q pl gv).2.2.1 = nI k := by
  unfold mdE; split <;> rfl
theorem mdV_cd {c : Nat → Nat} {n k q : Nat} {pl : Int32} {gv : Int64} : (mdV c n k q pl gv).2.2.1 = nI k := by
  unfold mdV
  split
  · split
    · exact mdE_cd
    · rfl
  · exact mdE_cd
theorem mdS_cd {c : Nat → Nat} {n : Nat} {s : MS} (h : (mdS c n s).1 = true) : kOf c n s < 7 ∧ (mdS c n s).2.2.1 = nI (kOf c n s) ∧ cmdO (wrd c s.1 (skL c n s.1)) = some (kOf c n s) := by
  cases hw : cmdO (wrd c s.1 (skL c n s.1)) with
  | none => simp [mdS, hw] at h
  | some k =>
    have e : kOf c n s = k := by unfold kOf; rw [hw]; rfl
    rw [e]
    refine ⟨cmdO_lt hw, ?_, rfl⟩
    simp only [mdS, hw]
    split
    · split
      · exact mdV_cd
      · rfl
    · exact mdV_cd
/-- the model: all commands run -/
def rmS (c : Nat → Nat) (n : Nat) : Nat → MS → MT → Nat × MS × MT
  | 0, s, z => (0, s, z)
  | f + 1, s, z => if s.1 < n then (if (dmS (kOf c n s) (mdS c n s).2.2.2.1 (mdS c n s).2.2.2.2 z).1 = 0 then ((rmS c n f (mdS c n s).2 (dmS (kOf c n s) (mdS c n s).2.2.2.1 (mdS c n s).2.2.2.2 z).2).1 + 1, (rmS c n f (mdS c n s).2 (dmS (kOf c n s) (mdS c n s).2.2.2.1 (mdS c n s).2.2.2.2 z).2).2) else (0, (mdS c n s).2, (dmS (kOf c n s) (mdS c n s).2.2.2.1 (mdS c n s).2.2.2.2 z).2)) else (0, s, z)
section RMS
variable {c : Nat → Nat} {n f : Nat} {s : MS} {z : MT}
theorem rmS_e (h : ¬ s.1 < n) : rmS c n (f + 1) s z = (0, s, z) := by rw [rmS, if_neg h]
theorem rmS_c (h : s.1 < n) (h2 : ¬ (dmS (kOf c n s) (mdS c n s).2.2.2.1 (mdS c n s).2.2.2.2 z).1 = 0) : rmS c n (f + 1) s z = (0, (mdS c n s).2, (dmS (kOf c n s) (mdS c n s).2.2.2.1 (mdS c n s).2.2.2.2 z).2) := by rw [rmS, if_pos h, if_neg h2]
theorem rmS_t (h : s.1 < n) (h2 : (dmS (kOf c n s) (mdS c n s).2.2.2.1 (mdS c n s).2.2.2.2 z).1 = 0) : rmS c n (f + 1) s z = ((rmS c n f (mdS c n s).2 (dmS (kOf c n s) (mdS c n s).2.2.2.1 (mdS c n s).2.2.2.2 z).2).1 + 1, (rmS c n f (mdS c n s).2 (dmS (kOf c n s) (mdS c n s).2.2.2.1 (mdS c n s).2.2.2.2 z).2).2) := by rw [rmS, if_pos h, if_pos h2]
end RMS
theorem svN_le {ru : Bool} {ps : Nat} (h : ps ≤ 4) : svN ru ps ≤ 4 := by
  unfold svN svn
  split
  · exact h
  · split <;> omega
theorem mdE_ind {c : Nat → Nat} {n k q : Nat} {pl pl' : Int32} {gv gv' : Int64} : (mdE c n k q pl gv).1 = (mdE c n k q pl' gv').1 ∧ (mdE c n k q pl gv).2.1 = (mdE c n k q pl' gv').2.1 := by
  unfold mdE; split <;> exact ⟨rfl, rfl⟩
theorem mdV_ind {c : Nat → Nat} {n k q : Nat} {pl pl' : Int32} {gv gv' : Int64} : (mdV c n k q pl gv).1 = (mdV c n k q pl' gv').1 ∧ (mdV c n k q pl gv).2.1 = (mdV c n k q pl' gv').2.1 := by
  unfold mdV
  split
  · split
    · exact mdE_ind
    · exact ⟨rfl, rfl⟩
  · exact mdE_ind
theorem mdS_ind {c : Nat → Nat} {n : Nat} {s s' : MS} (h : s.1 = s'.1) : (mdS c n s).1 = (mdS c n s').1 ∧ (mdS c n s).2.1 = (mdS c n s').2.1 := by
  unfold mdS
  rw [h]
  split
  · exact ⟨rfl, rfl⟩
  · split
    · split
      · exact mdV_ind
      · exact ⟨rfl, rfl⟩
    · exact mdV_ind
theorem ffM_ind {c : Nat → Nat} {n : Nat} : ∀ {f : Nat} {s s' : MS}, s.1 = s'.1 → (ffM c n f s).1 = (ffM c n f s').1
  | 0, _, _, _ => rfl
  | f + 1, s, s', h => by
    have h2 := mdS_ind (c := c) (n := n) h
    rw [ffM, ffM, h, h2.1]
    split
    · split
      · exact ffM_ind h2.2
      · exact congrArg some h2.2
    · rfl
set_option maxHeartbeats 4000000 in
set_option maxRecDepth 100000 in
theorem kX7_reads (l : Launch) (D : va_G) (mo : Nat) (sa : Nat) (pa : Nat) (ha : Nat) (ta : Nat) (cJ : ClassId) (cI : ClassId) (n : Nat) (b : Nat) (fl : Bool) (me : Bool) (st : Int64) (lk : Int64) (cm : Int64) (v : Nat → Int64) (nu : Nat → Int64) (pt : Nat → Int64) (hd : Nat → Int64) (t9 : Nat → Nat) (ps : Nat) (ru : Bool) (ty : Nat) (rf : Nat) (lks : Nat) (lo1 : Int32) (hi1 : Int32) (sp : Nat) (cd : Int32) (pl : Int32) (gv : Int64) (hty : ty ≤ 150) (hsp : sp ≤ ty) (htx : ∀ k, t9 k < 128) : MMi l yX7_reads wsX7_reads ({ frames := 4, cells := 0, slots := 0, locals := 92 } : Room) [.ref mo] D (ModC mo sa pa ha ta cJ cI (sM n b fl me st lk cm v nu) pt hd (tN t9) ps ru ty rf lks lo1 hi1 sp cd pl gv) [(cJ, .long), (cI, .int)] (bI ((mdS t9 ty (sp, cd, pl, gv)).1)) (ModC mo sa pa ha ta cJ cI (sM n b fl me st lk cm v nu) pt hd (tN t9) ps ru ty rf lks lo1 hi1 ((mdS t9 ty (sp, cd, pl, gv)).2.1) ((mdS t9 ty (sp, cd, pl, gv)).2.2.1) ((mdS t9 ty (sp, cd, pl, gv)).2.2.2.1) ((mdS t9 ty (sp, cd, pl, gv)).2.2.2.2)) := by
  refine MMi_of (cc := cX7_reads) (maxL := 4) (ret := some .boolean) (by decide +kernel) rfl (Nat.le_of_ble_eq_true rfl) ?_
  intro p e s m args below meth c hx hb hr hts hown hlocks hml hP hK hN hD ls hl
  have hown : s.vm.findClass RX7 = some m.cls := hown
  have hl : lv_has ls 4 [(0, .ref mo)] := hl
  have hS : va_S (va_A (ModC mo sa pa ha ta cJ cI (sM n b fl me st lk cm v nu) pt hd (tN t9) ps ru ty rf lks lo1 hi1 sp cd pl gv) s.heap.size) s.heap s.heap [] := va_S.rf
  have hA := wk_hA (ModC mo sa pa ha ta cJ cI (sM n b fl me st lk cm v nu) pt hd (tN t9) ps ru ty rf lks lo1 hi1 sp cd pl gv) s.heap.size
  have hD9 : True := trivial
  have hinX7 : ∀ w ∈ wsX70, w ∈ wsX7_reads := by decide +kernel
  refine lv_aload_n hx hb dX7_reads_0 rfl (lv_at hl 0 rfl) ?_
  refine va_get (D := D) (ci := 5) (C := RX7) (T := TX7) (N := 15) hx hb hts hinX7 hown hK hP 0 rfl rfl 11 (by decide) (hts (.fieldLink RX7 160 "NearRanksModel" "spot" "I") (by decide +kernel)) (fun _ h9 => h9) rfl dX7_reads_1 ?_
  refine lv_istore_n (lv' := [(1, .int (nI sp)), (0, .ref mo)]) hx hb dX7_reads_4 rfl hl (by decide) rfl (fun ls hl => ?_)
  have loop5 : ∀ (K : Nat) (p1 : Nat), ty - p1 < K → sp ≤ p1 → p1 ≤ ty → skL t9 ty sp = skL t9 ty p1 → (∀ k, sp ≤ k → k < p1 → 97 ≤ t9 k ∧ t9 k ≤ 122) → ∀ (H : Heap) (locs : List Loc), va_P D vwCl (ModC mo sa pa ha ta cJ cI (sM n b fl me st lk cm v nu) pt hd (tN t9) ps ru ty rf lks lo1 hi1 p1 cd pl gv) H → va_D (va_A (ModC mo sa pa ha ta cJ cI (sM n b fl me st lk cm v nu) pt hd (tN t9) ps ru ty rf lks lo1 hi1 sp cd pl gv) s.heap.size) (ModC mo sa pa ha ta cJ cI (sM n b fl me st lk cm v nu) pt hd (tN t9) ps ru ty rf lks lo1 hi1 p1 cd pl gv) → va_S (va_A (ModC mo sa pa ha ta cJ cI (sM n b fl me st lk cm v nu) pt hd (tN t9) ps ru ty rf lks lo1 hi1 sp cd pl gv) s.heap.size) s.heap H locs → ∀ ls : Array Slot, lv_has ls 4 [(0, .ref mo), (1, .int (nI sp))] → W p l e ({ frames := 4, cells := 0, slots := 0, locals := 92 } : Room) s m args below meth c H locs 0 0 (ZMi below args s D (ModC mo sa pa ha ta cJ cI (sM n b fl me st lk cm v nu) pt hd (tN t9) ps ru ty rf lks lo1 hi1 sp cd pl gv) (bI ((mdS t9 ty (sp, cd, pl, gv)).1)) (ModC mo sa pa ha ta cJ cI (sM n b fl me st lk cm v nu) pt hd (tN t9) ps ru ty rf lks lo1 hi1 ((mdS t9 ty (sp, cd, pl, gv)).2.1) ((mdS t9 ty (sp, cd, pl, gv)).2.2.1) ((mdS t9 ty (sp, cd, pl, gv)).2.2.2.1) ((mdS t9 ty (sp, cd, pl, gv)).2.2.2.2))) (F0 m 5 ls []) := by
    intro K
    induction K with
    | zero => intro p1 hK0; exact absurd hK0 (Nat.not_lt_zero _)
    | succ K ih5 =>
      intro p1 hKm hp0 hp1 hsk hlt H locs hP hD hS ls hl
      refine lv_aload_n hx hb dX7_reads_5 rfl (lv_at hl 0 rfl) ?_
      refine lv_bipush (v := nI 97) hx hb dX7_reads_6 (by decide) ?_
      refine lv_bipush (v := nI 122) hx hb dX7_reads_8 (by decide) ?_
      refine wv_callPi (As := [.int (nI 97), .int (nI 122)]) (rest := []) ⟨hx, hb, hml, hown, hts⟩ (kX7_isAt l D mo sa pa ha ta cJ cI n b fl me st lk cm v nu pt hd t9 ps ru ty rf lks lo1 hi1 p1 cd pl gv 97 122 (by first | assumption | omega) (by first | assumption | omega) (by first | assumption | omega) (by first | assumption | omega) (by first | assumption | omega)) (cwV 2 hts gX7_reads_X7_isAt rfl rfl rfl (by decide +kernel) ⟨Nat.le_of_ble_eq_true rfl, Nat.le_of_ble_eq_true rfl⟩) hK hN hP hS hA [0, 1, 2, 3, 4] [0, 1] rfl rfl 0 5 rfl rfl rfl rfl hl.1 rfl (Nat.le_of_ble_eq_true rfl) dX7_reads_10 ⟨Nat.zero_le _, Nat.zero_le _⟩ (fun H locs hz9 hP hS => ?_)
      refine wv_ifeqB (tgt := 29) hx hb dX7_reads_13 (by decide) (fun c13 => ?_) (fun c13 => ?_)
      · skip
        have hpe : skL t9 ty sp = p1 := by rw [hsk, skL_f c13]
        subst hpe
        clear hsk
        have hw8 := wrd_lt (f := sp) (t := skL t9 ty sp) htx
        have hna := ncP_le (c := t9) false hp1
        have hnb := ncP_le (c := t9) true hp1
        have hnc := ncP_le (c := t9) true hna
        have hsa := skS_le (c := t9) hp1
        have hsb := skS_le (c := t9) hna
        have hsc := skS_le (c := t9) hnb
        have hsd := skS_le (c := t9) hnc
        have hP : va_P D vwCl (ModC mo sa pa ha ta cJ cI (sM n b fl me st lk cm v nu) pt hd (tN t9) ps ru ty rf lks lo1 hi1 (skL t9 ty sp) cd pl gv) _ := hP
        have hD : va_D _ (ModC mo sa pa ha ta cJ cI (sM n b fl me st lk cm v nu) pt hd (tN t9) ps ru ty rf lks lo1 hi1 (skL t9 ty sp) cd pl gv) := hD
        refine lv_aload_n hx hb dX7_reads_29 rfl (lv_at hl 0 rfl) ?_
        refine lv_aload_n hx hb dX7_reads_30 rfl (lv_at hl 0 rfl) ?_
        refine lv_iload_n hx hb dX7_reads_31 rfl (lv_at hl 1 rfl) ?_
        refine lv_aload_n hx hb dX7_reads_32 rfl (lv_at hl 0 rfl) ?_
        refine va_get (D := D) (ci := 5) (C := RX7) (T := TX7) (N := 15) hx hb hts hinX7 hown hK hP 0 rfl rfl 11 (by decide) (hts (.fieldLink RX7 160 "NearRanksModel" "spot" "I") (by decide +kernel)) (fun _ h9 => h9) rfl dX7_reads_33 ?_
        refine wv_callPl (As := [.int (nI sp), .int (nI (skL t9 ty sp))]) (rest := [.ref mo]) ⟨hx, hb, hml, hown, hts⟩ (kX7_wordOf l D mo sa pa ha ta cJ cI n b fl me st lk cm v nu pt hd t9 ps ru ty rf lks lo1 hi1 (skL t9 ty sp) cd pl gv sp (skL t9 ty sp) (by first | assumption | omega) (by first | assumption | omega) (by first | assumption | omega) (by first | assumption | omega) (by first | assumption | omega)) (cwV 2 hts gX7_reads_X7_wordOf rfl rfl rfl (by decide +kernel) ⟨Nat.le_of_ble_eq_true rfl, Nat.le_of_ble_eq_true rfl⟩) hK hN hP hS hA [0, 1, 2, 3, 4] [0, 1] rfl rfl 0 5 rfl rfl rfl rfl hl.1 rfl (Nat.le_of_ble_eq_true rfl) dX7_reads_36 ⟨Nat.zero_le _, Nat.zero_le _⟩ (fun H locs hz9 hP hS => ?_)
        rcases hw : cmdO (wrd t9 sp (skL t9 ty sp)) with _ | k
        · skip
          refine wv_callSi (As := [.long (lN (wrd t9 sp (skL t9 ty sp)))]) (rest := [.ref mo]) ⟨hx, hb, hml, hown, hts⟩ (kX7_commandOf l D (wrd t9 sp (skL t9 ty sp)) (by first | assumption | omega)) (va_cwS 1 hts gX7_reads_X7_commandOf rfl rfl rfl (by decide +kernel) ⟨Nat.le_of_ble_eq_true rfl, Nat.le_of_ble_eq_true rfl⟩) hK hN hP hS hA [] [] rfl rfl rfl hl.1 rfl (Nat.le_of_ble_eq_true rfl) dX7_reads_39 ⟨Nat.zero_le _, Nat.zero_le _⟩ (fun H locs hz9 hP hS => ?_)
          refine wv_ti (y := (-1000)) (by rw [hw]; rfl) ?_
          refine va_put (D := D) (ci := 5) (v := .int (-1000)) (ty := .int) (C := RX7) (T := TX7) (N := 15) hx hb hts hinX7 tyX7 tyX7_ok nmX7 hown hK hP hD hS 0 rfl rfl 12 (by decide) (hts (.fieldLink RX7 196 "NearRanksModel" "command" "I") (by decide +kernel)) (fun _ h9 => h9) rfl (by decide +kernel) rfl rfl (Nat.le_of_ble_eq_true rfl) dX7_reads_42 (fun H locs hP hD hS => ?_)
          have hP : va_P D vwCl (ModC mo sa pa ha ta cJ cI (sM n b fl me st lk cm v nu) pt hd (tN t9) ps ru ty rf lks lo1 hi1 (skL t9 ty sp) (-1000) pl gv) H := hP
          have hD : va_D _ (ModC mo sa pa ha ta cJ cI (sM n b fl me st lk cm v nu) pt hd (tN t9) ps ru ty rf lks lo1 hi1 (skL t9 ty sp) (-1000) pl gv) := hD
          refine lv_aload_n hx hb dX7_reads_45 rfl (lv_at hl 0 rfl) ?_
          refine va_get (D := D) (ci := 5) (C := RX7) (T := TX7) (N := 15) hx hb hts hinX7 hown hK hP 0 rfl rfl 12 (by decide) (hts (.fieldLink RX7 196 "NearRanksModel" "command" "I") (by decide +kernel)) (fun _ h9 => h9) rfl dX7_reads_46 ?_
          refine lv_sipush (v := (-1000)) hx hb dX7_reads_49 (by decide) ?_
          refine lv_icmp_ne (tgt := 62) hx hb dX7_reads_52 (by decide) (fun c52 => by exfalso; exact c52 rfl) (fun c52 => ?_)
          refine lv_aload_n hx hb dX7_reads_55 rfl (lv_at hl 0 rfl) ?_
          refine lv_iload_n hx hb dX7_reads_56 rfl (lv_at hl 1 rfl) ?_
          refine va_put (D := D) (ci := 5) (v := .int (nI sp)) (ty := .int) (C := RX7) (T := TX7) (N := 15) hx hb hts hinX7 tyX7 tyX7_ok nmX7 hown hK hP hD hS 0 rfl rfl 11 (by decide) (hts (.fieldLink RX7 160 "NearRanksModel" "spot" "I") (by decide +kernel)) (fun _ h9 => h9) rfl (by decide +kernel) rfl rfl (Nat.le_of_ble_eq_true rfl) dX7_reads_57 (fun H locs hP hD hS => ?_)
          have hP : va_P D vwCl (ModC mo sa pa ha ta cJ cI (sM n b fl me st lk cm v nu) pt hd (tN t9) ps ru ty rf lks lo1 hi1 sp (-1000) pl gv) H := hP
          have hD : va_D _ (ModC mo sa pa ha ta cJ cI (sM n b fl me st lk cm v nu) pt hd (tN t9) ps ru ty rf lks lo1 hi1 sp (-1000) pl gv) := hD
          refine lv_iconst (v := nI 0) hx hb dX7_reads_60 (by decide) ?_
          have ew0_sp : (mdS t9 ty (sp, cd, pl, gv)).2.1 = sp := by first | (exfalso; rw [c88] at c98; exact absurd c98 (by decide)) | (simp [mdS, mdV, mdE, hw, *]; done) | (simp [mdS, mdV, mdE, hw, *]; rfl)
          have ew0_cd : (mdS t9 ty (sp, cd, pl, gv)).2.2.1 = (-1000) := by first | (exfalso; rw [c88] at c98; exact absurd c98 (by decide)) | (simp [mdS, mdV, mdE, hw, *]; done) | (simp [mdS, mdV, mdE, hw, *]; rfl)
          have ew0_pl : (mdS t9 ty (sp, cd, pl, gv)).2.2.2.1 = pl := by first | (exfalso; rw [c88] at c98; exact absurd c98 (by decide)) | (simp [mdS, mdV, mdE, hw, *]; done) | (simp [mdS, mdV, mdE, hw, *]; rfl)
          have ew0_gv : (mdS t9 ty (sp, cd, pl, gv)).2.2.2.2 = gv := by first | (exfalso; rw [c88] at c98; exact absurd c98 (by decide)) | (simp [mdS, mdV, mdE, hw, *]; done) | (simp [mdS, mdV, mdE, hw, *]; rfl)
          exact wv_zretM (b := false) hx hb hr hlocks hP hD hS rfl (by first | (exfalso; rw [c88] at c98; exact absurd c98 (by decide)) | (simp [mdS, mdV, mdE, hw, *]; done) | (simp [mdS, mdV, mdE, hw, *]; rfl)) (by rw [ew0_gv, ew0_pl, ew0_cd, ew0_sp]) dX7_reads_61
        · skip
          have hk7 := cmdO_lt hw
          refine wv_callSi (As := [.long (lN (wrd t9 sp (skL t9 ty sp)))]) (rest := [.ref mo]) ⟨hx, hb, hml, hown, hts⟩ (kX7_commandOf l D (wrd t9 sp (skL t9 ty sp)) (by first | assumption | omega)) (va_cwS 1 hts gX7_reads_X7_commandOf rfl rfl rfl (by decide +kernel) ⟨Nat.le_of_ble_eq_true rfl, Nat.le_of_ble_eq_true rfl⟩) hK hN hP hS hA [] [] rfl rfl rfl hl.1 rfl (Nat.le_of_ble_eq_true rfl) dX7_reads_39 ⟨Nat.zero_le _, Nat.zero_le _⟩ (fun H locs hz9 hP hS => ?_)
          refine wv_ti (y := nI k) (by rw [hw]; rfl) ?_
          refine va_put (D := D) (ci := 5) (v := .int (nI k)) (ty := .int) (C := RX7) (T := TX7) (N := 15) hx hb hts hinX7 tyX7 tyX7_ok nmX7 hown hK hP hD hS 0 rfl rfl 12 (by decide) (hts (.fieldLink RX7 196 "NearRanksModel" "command" "I") (by decide +kernel)) (fun _ h9 => h9) rfl (by decide +kernel) rfl rfl (Nat.le_of_ble_eq_true rfl) dX7_reads_42 (fun H locs hP hD hS => ?_)
          have hP : va_P D vwCl (ModC mo sa pa ha ta cJ cI (sM n b fl me st lk cm v nu) pt hd (tN t9) ps ru ty rf lks lo1 hi1 (skL t9 ty sp) (nI k) pl gv) H := hP
          have hD : va_D _ (ModC mo sa pa ha ta cJ cI (sM n b fl me st lk cm v nu) pt hd (tN t9) ps ru ty rf lks lo1 hi1 (skL t9 ty sp) (nI k) pl gv) := hD
          refine lv_aload_n hx hb dX7_reads_45 rfl (lv_at hl 0 rfl) ?_
          refine va_get (D := D) (ci := 5) (C := RX7) (T := TX7) (N := 15) hx hb hts hinX7 hown hK hP 0 rfl rfl 12 (by decide) (hts (.fieldLink RX7 196 "NearRanksModel" "command" "I") (by decide +kernel)) (fun _ h9 => h9) rfl dX7_reads_46 ?_
          refine lv_sipush (v := (-1000)) hx hb dX7_reads_49 (by decide) ?_
          refine lv_icmp_ne (tgt := 62) hx hb dX7_reads_52 (by decide) (fun c52 => ?_) (fun c52 => by exfalso; first | exact nk_ne (by omega) c52 | exact c52 (nk_ne (by omega)))
          refine lv_aload_n hx hb dX7_reads_62 rfl (lv_at hl 0 rfl) ?_
          refine va_get (D := D) (ci := 5) (C := RX7) (T := TX7) (N := 15) hx hb hts hinX7 hown hK hP 0 rfl rfl 12 (by decide) (hts (.fieldLink RX7 196 "NearRanksModel" "command" "I") (by decide +kernel)) (fun _ h9 => h9) rfl dX7_reads_63 ?_
          refine lv_i2l (v := lN k) hx hb dX7_reads_66 (nI_l (by omega)) ?_
          refine lv_lconst (v := lN 1) hx hb dX7_reads_67 rfl ?_
          refine lv_ldc2 (v := lN 5) hx hb hown (hts (.constantLong RX7 120 (5)) (by decide +kernel)) dX7_reads_68 ?_
          refine wv_callSi (As := [.long (lN k), .long (lN 1), .long (lN 5)]) (rest := []) ⟨hx, hb, hml, hown, hts⟩ (kX7_in l D (lN k) (lN 1) (lN 5)) (va_cwS 3 hts gX7_reads_X7_in rfl rfl rfl (by decide +kernel) ⟨Nat.le_of_ble_eq_true rfl, Nat.le_of_ble_eq_true rfl⟩) hK hN hP hS hA [] [] rfl rfl rfl hl.1 rfl (Nat.le_of_ble_eq_true rfl) dX7_reads_71 ⟨Nat.zero_le _, Nat.zero_le _⟩ (fun H locs hz9 hP hS => ?_)
          refine wv_ti (y := bI (wnu k)) (by rw [wk_in_n (by omega) (by omega) (by omega)]; rfl) ?_
          refine lv_istore_n (lv' := [(2, .int (bI (wnu k))), (0, .ref mo), (1, .int (nI sp))]) hx hb dX7_reads_74 rfl hl (by decide) rfl (fun ls hl => ?_)
          refine lv_aload_n hx hb dX7_reads_75 rfl (lv_at hl 1 rfl) ?_
          refine va_get (D := D) (ci := 5) (C := RX7) (T := TX7) (N := 15) hx hb hts hinX7 hown hK hP 0 rfl rfl 12 (by decide) (hts (.fieldLink RX7 196 "NearRanksModel" "command" "I") (by decide +kernel)) (fun _ h9 => h9) rfl dX7_reads_76 ?_
          refine lv_iconst (v := nI 2) hx hb dX7_reads_79 (by decide) ?_
          refine wv_icmp_lt (tgt := 91) hx hb (by omega) (by omega) dX7_reads_80 (by decide) (fun c80 => ?_) (fun c80 => ?_)
          · skip
            have hwv : wva k = true := by unfold wva; rw [decide_eq_true (show k ≤ 1 by omega)]; rfl
            refine lv_iconst (v := nI 1) hx hb dX7_reads_91 (by decide) ?_
            refine lv_goto (tgt := 96) hx hb dX7_reads_92 (by decide) ?_
            refine lv_istore_n (lv' := [(3, .int (nI 1)), (2, .int (bI (wnu k))), (0, .ref mo), (1, .int (nI sp))]) hx hb dX7_reads_96 rfl hl (by decide) rfl (fun ls hl => ?_)
            refine lv_iload_n hx hb dX7_reads_97 rfl (lv_at hl 1 rfl) ?_
            refine wv_ifeqB (tgt := 109) hx hb dX7_reads_98 (by decide) (fun c98 => ?_) (fun c98 => ?_)
            · skip
              refine lv_iload_n hx hb dX7_reads_109 rfl (lv_at hl 0 rfl) ?_
              refine lv_if_eq (tgt := 123) hx hb dX7_reads_110 (by decide) (fun h => absurd h (by decide)) (fun _ => ?_)
              refine lv_aload_n hx hb dX7_reads_113 rfl (lv_at hl 2 rfl) ?_
              refine lv_iconst (v := nI 1) hx hb dX7_reads_114 (by decide) ?_
              refine wv_callMi (As := [.int (nI 1)]) (rest := []) (wr := []) (ws1 := ModC mo sa pa ha ta cJ cI (sM n b fl me st lk cm v nu) pt hd (tN t9) ps ru ty rf lks lo1 hi1 (ncP t9 ty (skL t9 ty sp) true) (nI k) (nmL t9 ty (skL t9 ty sp) true pl) (nmG t9 ty (skL t9 ty sp) true gv)) ⟨hx, hb, hml, hown, hts⟩ (kX7_number l D mo sa pa ha ta cJ cI n b fl me st lk cm v nu pt hd t9 ps ru ty rf lks lo1 hi1 (skL t9 ty sp) (nI k) pl gv true (by first | assumption | omega) (by first | assumption | omega) (by first | assumption | omega)) (cwV 1 hts gX7_reads_X7_number rfl rfl rfl (by decide +kernel) ⟨Nat.le_of_ble_eq_true rfl, Nat.le_of_ble_eq_true rfl⟩) hK hN hP hD hS hA [0, 1, 2, 3, 4] [] [0, 1] [0, 1, 2, 3, 4] rfl rfl (by decide) rfl (by decide) (by decide) rfl (by decide) rfl 0 5 rfl rfl rfl rfl hl.1 rfl (Nat.le_of_ble_eq_true rfl) dX7_reads_115 ⟨Nat.zero_le _, Nat.zero_le _⟩ (fun H locs hz9 hP hD hS => ?_)
              refine wv_ifneB (tgt := 123) hx hb dX7_reads_118 (by decide) (fun c118 => ?_) (fun c118 => ?_)
              · skip
                refine lv_aload_n hx hb dX7_reads_123 rfl (lv_at hl 2 rfl) ?_
                refine wv_callMv (As := []) (rest := []) (wr := []) (ws1 := ModC mo sa pa ha ta cJ cI (sM n b fl me st lk cm v nu) pt hd (tN t9) ps ru ty rf lks lo1 hi1 (skS t9 ty (ncP t9 ty (skL t9 ty sp) true)) (nI k) (nmL t9 ty (skL t9 ty sp) true pl) (nmG t9 ty (skL t9 ty sp) true gv)) ⟨hx, hb, hml, hown, hts⟩ (kX7_skips l D mo sa pa ha ta cJ cI n b fl me st lk cm v nu pt hd t9 ps ru ty rf lks lo1 hi1 (ncP t9 ty (skL t9 ty sp) true) (nI k) (nmL t9 ty (skL t9 ty sp) true pl) (nmG t9 ty (skL t9 ty sp) true gv) (by first | assumption | omega) (by first | assumption | omega) (by first | assumption | omega)) (cwV 0 hts gX7_reads_X7_skips rfl rfl rfl (by decide +kernel) ⟨Nat.le_of_ble_eq_true rfl, Nat.le_of_ble_eq_true rfl⟩) hK hN hP hD hS hA [0, 1, 2, 3, 4] [] [0, 1] [0, 1, 2, 3, 4] rfl rfl (by decide) rfl (by decide) (by decide) rfl (by decide) rfl 0 5 rfl rfl rfl rfl hl.1 rfl (Nat.le_of_ble_eq_true rfl) dX7_reads_124 ⟨Nat.zero_le _, Nat.zero_le _⟩ (fun H locs hz9 hP hD hS => ?_)
                refine lv_aload_n hx hb dX7_reads_127 rfl (lv_at hl 2 rfl) ?_
                refine lv_bipush (v := nI 59) hx hb dX7_reads_128 (by decide) ?_
                refine lv_bipush (v := nI 59) hx hb dX7_reads_130 (by decide) ?_
                refine wv_callPi (As := [.int (nI 59), .int (nI 59)]) (rest := []) ⟨hx, hb, hml, hown, hts⟩ (kX7_isAt l D mo sa pa ha ta cJ cI n b fl me st lk cm v nu pt hd t9 ps ru ty rf lks lo1 hi1 (skS t9 ty (ncP t9 ty (skL t9 ty sp) true)) (nI k) (nmL t9 ty (skL t9 ty sp) true pl) (nmG t9 ty (skL t9 ty sp) true gv) 59 59 (by first | assumption | omega) (by first | assumption | omega) (by first | assumption | omega) (by first | assumption | omega) (by first | assumption | omega)) (cwV 2 hts gX7_reads_X7_isAt rfl rfl rfl (by decide +kernel) ⟨Nat.le_of_ble_eq_true rfl, Nat.le_of_ble_eq_true rfl⟩) hK hN hP hS hA [0, 1, 2, 3, 4] [0, 1] rfl rfl 0 5 rfl rfl rfl rfl hl.1 rfl (Nat.le_of_ble_eq_true rfl) dX7_reads_132 ⟨Nat.zero_le _, Nat.zero_le _⟩ (fun H locs hz9 hP hS => ?_)
                refine wv_ifneB (tgt := 140) hx hb dX7_reads_135 (by decide) (fun c135 => ?_) (fun c135 => ?_)
                · skip
                  have hb8 := isA_i c135
                  refine lv_aload_n hx hb dX7_reads_140 rfl (lv_at hl 2 rfl) ?_
                  refine lv_dup hx hb dX7_reads_141 rfl ?_
                  refine va_get (D := D) (ci := 5) (C := RX7) (T := TX7) (N := 15) hx hb hts hinX7 hown hK hP 0 rfl rfl 11 (by decide) (hts (.fieldLink RX7 160 "NearRanksModel" "spot" "I") (by decide +kernel)) (fun _ h9 => h9) rfl dX7_reads_142 ?_
                  refine lv_iconst (v := nI 1) hx hb dX7_reads_145 (by decide) ?_
                  refine lv_iadd hx hb dX7_reads_146 ?_
                  refine wv_ti (nI_add _ _) ?_
                  refine va_put (D := D) (ci := 5) (v := .int (nI ((skS t9 ty (ncP t9 ty (skL t9 ty sp) true)) + 1))) (ty := .int) (C := RX7) (T := TX7) (N := 15) hx hb hts hinX7 tyX7 tyX7_ok nmX7 hown hK hP hD hS 0 rfl rfl 11 (by decide) (hts (.fieldLink RX7 160 "NearRanksModel" "spot" "I") (by decide +kernel)) (fun _ h9 => h9) rfl (by decide +kernel) rfl rfl (Nat.le_of_ble_eq_true rfl) dX7_reads_147 (fun H locs hP hD hS => ?_)
                  have hP : va_P D vwCl (ModC mo sa pa ha ta cJ cI (sM n b fl me st lk cm v nu) pt hd (tN t9) ps ru ty rf lks lo1 hi1 ((skS t9 ty (ncP t9 ty (skL t9 ty sp) true)) + 1) (nI k) (nmL t9 ty (skL t9 ty sp) true pl) (nmG t9 ty (skL t9 ty sp) true gv)) H := hP
                  have hD : va_D _ (ModC mo sa pa ha ta cJ cI (sM n b fl me st lk cm v nu) pt hd (tN t9) ps ru ty rf lks lo1 hi1 ((skS t9 ty (ncP t9 ty (skL t9 ty sp) true)) + 1) (nI k) (nmL t9 ty (skL t9 ty sp) true pl) (nmG t9 ty (skL t9 ty sp) true gv)) := hD
                  refine lv_aload_n hx hb dX7_reads_150 rfl (lv_at hl 2 rfl) ?_
                  refine wv_callMv (As := []) (rest := []) (wr := []) (ws1 := ModC mo sa pa ha ta cJ cI (sM n b fl me st lk cm v nu) pt hd (tN t9) ps ru ty rf lks lo1 hi1 (skS t9 ty ((skS t9 ty (ncP t9 ty (skL t9 ty sp) true)) + 1)) (nI k) (nmL t9 ty (skL t9 ty sp) true pl) (nmG t9 ty (skL t9 ty sp) true gv)) ⟨hx, hb, hml, hown, hts⟩ (kX7_skips l D mo sa pa ha ta cJ cI n b fl me st lk cm v nu pt hd t9 ps ru ty rf lks lo1 hi1 ((skS t9 ty (ncP t9 ty (skL t9 ty sp) true)) + 1) (nI k) (nmL t9 ty (skL t9 ty sp) true pl) (nmG t9 ty (skL t9 ty sp) true gv) (by first | assumption | omega) (by first | assumption | omega) (by first | assumption | omega)) (cwV 0 hts gX7_reads_X7_skips rfl rfl rfl (by decide +kernel) ⟨Nat.le_of_ble_eq_true rfl, Nat.le_of_ble_eq_true rfl⟩) hK hN hP hD hS hA [0, 1, 2, 3, 4] [] [0, 1] [0, 1, 2, 3, 4] rfl rfl (by decide) rfl (by decide) (by decide) rfl (by decide) rfl 0 5 rfl rfl rfl rfl hl.1 rfl (Nat.le_of_ble_eq_true rfl) dX7_reads_151 ⟨Nat.zero_le _, Nat.zero_le _⟩ (fun H locs hz9 hP hD hS => ?_)
                  refine lv_iconst (v := nI 1) hx hb dX7_reads_154 (by decide) ?_
                  have ew0_sp : (mdS t9 ty (sp, cd, pl, gv)).2.1 = skS t9 ty ((skS t9 ty (ncP t9 ty (skL t9 ty sp) true)) + 1) := by first | (exfalso; rw [c88] at c98; exact absurd c98 (by decide)) | (simp [mdS, mdV, mdE, hw, *]; done) | (simp [mdS, mdV, mdE, hw, *]; rfl)
                  have ew0_cd : (mdS t9 ty (sp, cd, pl, gv)).2.2.1 = nI k := by first | (exfalso; rw [c88] at c98; exact absurd c98 (by decide)) | (simp [mdS, mdV, mdE, hw, *]; done) | (simp [mdS, mdV, mdE, hw, *]; rfl)
                  have ew0_pl : (mdS t9 ty (sp, cd, pl, gv)).2.2.2.1 = nmL t9 ty (skL t9 ty sp) true pl := by first | (exfalso; rw [c88] at c98; exact absurd c98 (by decide)) | (simp [mdS, mdV, mdE, hw, *]; done) | (simp [mdS, mdV, mdE, hw, *]; rfl)
                  have ew0_gv : (mdS t9 ty (sp, cd, pl, gv)).2.2.2.2 = nmG t9 ty (skL t9 ty sp) true gv := by first | (exfalso; rw [c88] at c98; exact absurd c98 (by decide)) | (simp [mdS, mdV, mdE, hw, *]; done) | (simp [mdS, mdV, mdE, hw, *]; rfl)
                  exact wv_zretM (b := true) hx hb hr hlocks hP hD hS rfl (by first | (exfalso; rw [c88] at c98; exact absurd c98 (by decide)) | (simp [mdS, mdV, mdE, hw, *]; done) | (simp [mdS, mdV, mdE, hw, *]; rfl)) (by rw [ew0_gv, ew0_pl, ew0_cd, ew0_sp]) dX7_reads_155
                · skip
                  refine lv_iconst (v := nI 0) hx hb dX7_reads_138 (by decide) ?_
                  have ew0_sp : (mdS t9 ty (sp, cd, pl, gv)).2.1 = skS t9 ty (ncP t9 ty (skL t9 ty sp) true) := by first | (exfalso; rw [c88] at c98; exact absurd c98 (by decide)) | (simp [mdS, mdV, mdE, hw, *]; done) | (simp [mdS, mdV, mdE, hw, *]; rfl)
                  have ew0_cd : (mdS t9 ty (sp, cd, pl, gv)).2.2.1 = nI k := by first | (exfalso; rw [c88] at c98; exact absurd c98 (by decide)) | (simp [mdS, mdV, mdE, hw, *]; done) | (simp [mdS, mdV, mdE, hw, *]; rfl)
                  have ew0_pl : (mdS t9 ty (sp, cd, pl, gv)).2.2.2.1 = nmL t9 ty (skL t9 ty sp) true pl := by first | (exfalso; rw [c88] at c98; exact absurd c98 (by decide)) | (simp [mdS, mdV, mdE, hw, *]; done) | (simp [mdS, mdV, mdE, hw, *]; rfl)
                  have ew0_gv : (mdS t9 ty (sp, cd, pl, gv)).2.2.2.2 = nmG t9 ty (skL t9 ty sp) true gv := by first | (exfalso; rw [c88] at c98; exact absurd c98 (by decide)) | (simp [mdS, mdV, mdE, hw, *]; done) | (simp [mdS, mdV, mdE, hw, *]; rfl)
                  exact wv_zretM (b := false) hx hb hr hlocks hP hD hS rfl (by first | (exfalso; rw [c88] at c98; exact absurd c98 (by decide)) | (simp [mdS, mdV, mdE, hw, *]; done) | (simp [mdS, mdV, mdE, hw, *]; rfl)) (by rw [ew0_gv, ew0_pl, ew0_cd, ew0_sp]) dX7_reads_139
              · skip
                refine lv_iconst (v := nI 0) hx hb dX7_reads_121 (by decide) ?_
                have ew0_sp : (mdS t9 ty (sp, cd, pl, gv)).2.1 = ncP t9 ty (skL t9 ty sp) true := by first | (exfalso; rw [c88] at c98; exact absurd c98 (by decide)) | (simp [mdS, mdV, mdE, hw, *]; done) | (simp [mdS, mdV, mdE, hw, *]; rfl)
                have ew0_cd : (mdS t9 ty (sp, cd, pl, gv)).2.2.1 = nI k := by first | (exfalso; rw [c88] at c98; exact absurd c98 (by decide)) | (simp [mdS, mdV, mdE, hw, *]; done) | (simp [mdS, mdV, mdE, hw, *]; rfl)
                have ew0_pl : (mdS t9 ty (sp, cd, pl, gv)).2.2.2.1 = nmL t9 ty (skL t9 ty sp) true pl := by first | (exfalso; rw [c88] at c98; exact absurd c98 (by decide)) | (simp [mdS, mdV, mdE, hw, *]; done) | (simp [mdS, mdV, mdE, hw, *]; rfl)
                have ew0_gv : (mdS t9 ty (sp, cd, pl, gv)).2.2.2.2 = nmG t9 ty (skL t9 ty sp) true gv := by first | (exfalso; rw [c88] at c98; exact absurd c98 (by decide)) | (simp [mdS, mdV, mdE, hw, *]; done) | (simp [mdS, mdV, mdE, hw, *]; rfl)
                exact wv_zretM (b := false) hx hb hr hlocks hP hD hS rfl (by first | (exfalso; rw [c88] at c98; exact absurd c98 (by decide)) | (simp [mdS, mdV, mdE, hw, *]; done) | (simp [mdS, mdV, mdE, hw, *]; rfl)) (by rw [ew0_gv, ew0_pl, ew0_cd, ew0_sp]) dX7_reads_122
            · skip
              refine lv_aload_n hx hb dX7_reads_101 rfl (lv_at hl 2 rfl) ?_
              refine lv_iconst (v := nI 0) hx hb dX7_reads_102 (by decide) ?_
              refine wv_callMi (As := [.int (nI 0)]) (rest := []) (wr := []) (ws1 := ModC mo sa pa ha ta cJ cI (sM n b fl me st lk cm v nu) pt hd (tN t9) ps ru ty rf lks lo1 hi1 (ncP t9 ty (skL t9 ty sp) false) (nI k) (nmL t9 ty (skL t9 ty sp) false pl) (nmG t9 ty (skL t9 ty sp) false gv)) ⟨hx, hb, hml, hown, hts⟩ (kX7_number l D mo sa pa ha ta cJ cI n b fl me st lk cm v nu pt hd t9 ps ru ty rf lks lo1 hi1 (skL t9 ty sp) (nI k) pl gv false (by first | assumption | omega) (by first | assumption | omega) (by first | assumption | omega)) (cwV 1 hts gX7_reads_X7_number rfl rfl rfl (by decide +kernel) ⟨Nat.le_of_ble_eq_true rfl, Nat.le_of_ble_eq_true rfl⟩) hK hN hP hD hS hA [0, 1, 2, 3, 4] [] [0, 1] [0, 1, 2, 3, 4] rfl rfl (by decide) rfl (by decide) (by decide) rfl (by decide) rfl 0 5 rfl rfl rfl rfl hl.1 rfl (Nat.le_of_ble_eq_true rfl) dX7_reads_103 ⟨Nat.zero_le _, Nat.zero_le _⟩ (fun H locs hz9 hP hD hS => ?_)
              refine wv_ifeqB (tgt := 121) hx hb dX7_reads_106 (by decide) (fun c106 => ?_) (fun c106 => ?_)
              · skip
                refine lv_iconst (v := nI 0) hx hb dX7_reads_121 (by decide) ?_
                have ew0_sp : (mdS t9 ty (sp, cd, pl, gv)).2.1 = ncP t9 ty (skL t9 ty sp) false := by first | (exfalso; rw [c88] at c98; exact absurd c98 (by decide)) | (simp [mdS, mdV, mdE, hw, *]; done) | (simp [mdS, mdV, mdE, hw, *]; rfl)
                have ew0_cd : (mdS t9 ty (sp, cd, pl, gv)).2.2.1 = nI k := by first | (exfalso; rw [c88] at c98; exact absurd c98 (by decide)) | (simp [mdS, mdV, mdE, hw, *]; done) | (simp [mdS, mdV, mdE, hw, *]; rfl)
                have ew0_pl : (mdS t9 ty (sp, cd, pl, gv)).2.2.2.1 = nmL t9 ty (skL t9 ty sp) false pl := by first | (exfalso; rw [c88] at c98; exact absurd c98 (by decide)) | (simp [mdS, mdV, mdE, hw, *]; done) | (simp [mdS, mdV, mdE, hw, *]; rfl)
                have ew0_gv : (mdS t9 ty (sp, cd, pl, gv)).2.2.2.2 = nmG t9 ty (skL t9 ty sp) false gv := by first | (exfalso; rw [c88] at c98; exact absurd c98 (by decide)) | (simp [mdS, mdV, mdE, hw, *]; done) | (simp [mdS, mdV, mdE, hw, *]; rfl)
                exact wv_zretM (b := false) hx hb hr hlocks hP hD hS rfl (by first | (exfalso; rw [c88] at c98; exact absurd c98 (by decide)) | (simp [mdS, mdV, mdE, hw, *]; done) | (simp [mdS, mdV, mdE, hw, *]; rfl)) (by rw [ew0_gv, ew0_pl, ew0_cd, ew0_sp]) dX7_reads_122
              · skip
                refine lv_iload_n hx hb dX7_reads_109 rfl (lv_at hl 0 rfl) ?_
                refine lv_if_eq (tgt := 123) hx hb dX7_reads_110 (by decide) (fun h => absurd h (by decide)) (fun _ => ?_)
                refine lv_aload_n hx hb dX7_reads_113 rfl (lv_at hl 2 rfl) ?_
                refine lv_iconst (v := nI 1) hx hb dX7_reads_114 (by decide) ?_
                refine wv_callMi (As := [.int (nI 1)]) (rest := []) (wr := []) (ws1 := ModC mo sa pa ha ta cJ cI (sM n b fl me st lk cm v nu) pt hd (tN t9) ps ru ty rf lks lo1 hi1 (ncP t9 ty (ncP t9 ty (skL t9 ty sp) false) true) (nI k) (nmL t9 ty (ncP t9 ty (skL t9 ty sp) false) true (nmL t9 ty (skL t9 ty sp) false pl)) (nmG t9 ty (ncP t9 ty (skL t9 ty sp) false) true (nmG t9 ty (skL t9 ty sp) false gv))) ⟨hx, hb, hml, hown, hts⟩ (kX7_number l D mo sa pa ha ta cJ cI n b fl me st lk cm v nu pt hd t9 ps ru ty rf lks lo1 hi1 (ncP t9 ty (skL t9 ty sp) false) (nI k) (nmL t9 ty (skL t9 ty sp) false pl) (nmG t9 ty (skL t9 ty sp) false gv) true (by first | assumption | omega) (by first | assumption | omega) (by first | assumption | omega)) (cwV 1 hts gX7_reads_X7_number rfl rfl rfl (by decide +kernel) ⟨Nat.le_of_ble_eq_true rfl, Nat.le_of_ble_eq_true rfl⟩) hK hN hP hD hS hA [0, 1, 2, 3, 4] [] [0, 1] [0, 1, 2, 3, 4] rfl rfl (by decide) rfl (by decide) (by decide) rfl (by decide) rfl 0 5 rfl rfl rfl rfl hl.1 rfl (Nat.le_of_ble_eq_true rfl) dX7_reads_115 ⟨Nat.zero_le _, Nat.zero_le _⟩ (fun H locs hz9 hP hD hS => ?_)
                refine wv_ifneB (tgt := 123) hx hb dX7_reads_118 (by decide) (fun c118 => ?_) (fun c118 => ?_)
                · skip
                  refine lv_aload_n hx hb dX7_reads_123 rfl (lv_at hl 2 rfl) ?_
                  refine wv_callMv (As := []) (rest := []) (wr := []) (ws1 := ModC mo sa pa ha ta cJ cI (sM n b fl me st lk cm v nu) pt hd (tN t9) ps ru ty rf lks lo1 hi1 (skS t9 ty (ncP t9 ty (ncP t9 ty (skL t9 ty sp) false) true)) (nI k) (nmL t9 ty (ncP t9 ty (skL t9 ty sp) false) true (nmL t9 ty (skL t9 ty sp) false pl)) (nmG t9 ty (ncP t9 ty (skL t9 ty sp) false) true (nmG t9 ty (skL t9 ty sp) false gv))) ⟨hx, hb, hml, hown, hts⟩ (kX7_skips l D mo sa pa ha ta cJ cI n b fl me st lk cm v nu pt hd t9 ps ru ty rf lks lo1 hi1 (ncP t9 ty (ncP t9 ty (skL t9 ty sp) false) true) (nI k) (nmL t9 ty (ncP t9 ty (skL t9 ty sp) false) true (nmL t9 ty (skL t9 ty sp) false pl)) (nmG t9 ty (ncP t9 ty (skL t9 ty sp) false) true (nmG t9 ty (skL t9 ty sp) false gv)) (by first | assumption | omega) (by first | assumption | omega) (by first | assumption | omega)) (cwV 0 hts gX7_reads_X7_skips rfl rfl rfl (by decide +kernel) ⟨Nat.le_of_ble_eq_true rfl, Nat.le_of_ble_eq_true rfl⟩) hK hN hP hD hS hA [0, 1, 2, 3, 4] [] [0, 1] [0, 1, 2, 3, 4] rfl rfl (by decide) rfl (by decide) (by decide) rfl (by decide) rfl 0 5 rfl rfl rfl rfl hl.1 rfl (Nat.le_of_ble_eq_true rfl) dX7_reads_124 ⟨Nat.zero_le _, Nat.zero_le _⟩ (fun H locs hz9 hP hD hS => ?_)
                  refine lv_aload_n hx hb dX7_reads_127 rfl (lv_at hl 2 rfl) ?_
                  refine lv_bipush (v := nI 59) hx hb dX7_reads_128 (by decide) ?_
                  refine lv_bipush (v := nI 59) hx hb dX7_reads_130 (by decide) ?_
                  refine wv_callPi (As := [.int (nI 59), .int (nI 59)]) (rest := []) ⟨hx, hb, hml, hown, hts⟩ (kX7_isAt l D mo sa pa ha ta cJ cI n b fl me st lk cm v nu pt hd t9 ps ru ty rf lks lo1 hi1 (skS t9 ty (ncP t9 ty (ncP t9 ty (skL t9 ty sp) false) true)) (nI k) (nmL t9 ty (ncP t9 ty (skL t9 ty sp) false) true (nmL t9 ty (skL t9 ty sp) false pl)) (nmG t9 ty (ncP t9 ty (skL t9 ty sp) false) true (nmG t9 ty (skL t9 ty sp) false gv)) 59 59 (by first | assumption | omega) (by first | assumption | omega) (by first | assumption | omega) (by first | assumption | omega) (by first | assumption | omega)) (cwV 2 hts gX7_reads_X7_isAt rfl rfl rfl (by decide +kernel) ⟨Nat.le_of_ble_eq_true rfl, Nat.le_of_ble_eq_true rfl⟩) hK hN hP hS hA [0, 1, 2, 3, 4] [0, 1] rfl rfl 0 5 rfl rfl rfl rfl hl.1 rfl (Nat.le_of_ble_eq_true rfl) dX7_reads_132 ⟨Nat.zero_le _, Nat.zero_le _⟩ (fun H locs hz9 hP hS => ?_)
                  refine wv_ifneB (tgt := 140) hx hb dX7_reads_135 (by decide) (fun c135 => ?_) (fun c135 => ?_)
                  · skip
                    have hb8 := isA_i c135
                    refine lv_aload_n hx hb dX7_reads_140 rfl (lv_at hl 2 rfl) ?_
                    refine lv_dup hx hb dX7_reads_141 rfl ?_
                    refine va_get (D := D) (ci := 5) (C := RX7) (T := TX7) (N := 15) hx hb hts hinX7 hown hK hP 0 rfl rfl 11 (by decide) (hts (.fieldLink RX7 160 "NearRanksModel" "spot" "I") (by decide +kernel)) (fun _ h9 => h9) rfl dX7_reads_142 ?_
                    refine lv_iconst (v := nI 1) hx hb dX7_reads_145 (by decide) ?_
                    refine lv_iadd hx hb dX7_reads_146 ?_
                    refine wv_ti (nI_add _ _) ?_
                    refine va_put (D := D) (ci := 5) (v := .int (nI ((skS t9 ty (ncP t9 ty (ncP t9 ty (skL t9 ty sp) false) true)) + 1))) (ty := .int) (C := RX7) (T := TX7) (N := 15) hx hb hts hinX7 tyX7 tyX7_ok nmX7 hown hK hP hD hS 0 rfl rfl 11 (by decide) (hts (.fieldLink RX7 160 "NearRanksModel" "spot" "I") (by decide +kernel)) (fun _ h9 => h9) rfl (by decide +kernel) rfl rfl (Nat.le_of_ble_eq_true rfl) dX7_reads_147 (fun H locs hP hD hS => ?_)
                    have hP : va_P D vwCl (ModC mo sa pa ha ta cJ cI (sM n b fl me st lk cm v nu) pt hd (tN t9) ps ru ty rf lks lo1 hi1 ((skS t9 ty (ncP t9 ty (ncP t9 ty (skL t9 ty sp) false) true)) + 1) (nI k) (nmL t9 ty (ncP t9 ty (skL t9 ty sp) false) true (nmL t9 ty (skL t9 ty sp) false pl)) (nmG t9 ty (ncP t9 ty (skL t9 ty sp) false) true (nmG t9 ty (skL t9 ty sp) false gv))) H := hP
                    have hD : va_D _ (ModC mo sa pa ha ta cJ cI (sM n b fl me st lk cm v nu) pt hd (tN t9) ps ru ty rf lks lo1 hi1 ((skS t9 ty (ncP t9 ty (ncP t9 ty (skL t9 ty sp) false) true)) + 1) (nI k) (nmL t9 ty (ncP t9 ty (skL t9 ty sp) false) true (nmL t9 ty (skL t9 ty sp) false pl)) (nmG t9 ty (ncP t9 ty (skL t9 ty sp) false) true (nmG t9 ty (skL t9 ty sp) false gv))) := hD
                    refine lv_aload_n hx hb dX7_reads_150 rfl (lv_at hl 2 rfl) ?_
                    refine wv_callMv (As := []) (rest := []) (wr := []) (ws1 := ModC mo sa pa ha ta cJ cI (sM n b fl me st lk cm v nu) pt hd (tN t9) ps ru ty rf lks lo1 hi1 (skS t9 ty ((skS t9 ty (ncP t9 ty (ncP t9 ty (skL t9 ty sp) false) true)) + 1)) (nI k) (nmL t9 ty (ncP t9 ty (skL t9 ty sp) false) true (nmL t9 ty (skL t9 ty sp) false pl)) (nmG t9 ty (ncP t9 ty (skL t9 ty sp) false) true (nmG t9 ty (skL t9 ty sp) false gv))) ⟨hx, hb, hml, hown, hts⟩ (kX7_skips l D mo sa pa ha ta cJ cI n b fl me st lk cm v nu pt hd t9 ps ru ty rf lks lo1 hi1 ((skS t9 ty (ncP t9 ty (ncP t9 ty (skL t9 ty sp) false) true)) + 1) (nI k) (nmL t9 ty (ncP t9 ty (skL t9 ty sp) false) true (nmL t9 ty (skL t9 ty sp) false pl)) (nmG t9 ty (ncP t9 ty (skL t9 ty sp) false) true (nmG t9 ty (skL t9 ty sp) false gv)) (by first | assumption | omega) (by first | assumption | omega) (by first | assumption | omega)) (cwV 0 hts gX7_reads_X7_skips rfl rfl rfl (by decide +kernel) ⟨Nat.le_of_ble_eq_true rfl, Nat.le_of_ble_eq_true rfl⟩) hK hN hP hD hS hA [0, 1, 2, 3, 4] [] [0, 1] [0, 1, 2, 3, 4] rfl rfl (by decide) rfl (by decide) (by decide) rfl (by decide) rfl 0 5 rfl rfl rfl rfl hl.1 rfl (Nat.le_of_ble_eq_true rfl) dX7_reads_151 ⟨Nat.zero_le _, Nat.zero_le _⟩ (fun H locs hz9 hP hD hS => ?_)
                    refine lv_iconst (v := nI 1) hx hb dX7_reads_154 (by decide) ?_
                    have ew0_sp : (mdS t9 ty (sp, cd, pl, gv)).2.1 = skS t9 ty ((skS t9 ty (ncP t9 ty (ncP t9 ty (skL t9 ty sp) false) true)) + 1) := by first | (exfalso; rw [c88] at c98; exact absurd c98 (by decide)) | (simp [mdS, mdV, mdE, hw, *]; done) | (simp [mdS, mdV, mdE, hw, *]; rfl)
                    have ew0_cd : (mdS t9 ty (sp, cd, pl, gv)).2.2.1 = nI k := by first | (exfalso; rw [c88] at c98; exact absurd c98 (by decide)) | (simp [mdS, mdV, mdE, hw, *]; done) | (simp [mdS, mdV, mdE, hw, *]; rfl)
                    have ew0_pl : (mdS t9 ty (sp, cd, pl, gv)).2.2.2.1 = nmL t9 ty (ncP t9 ty (skL t9 ty sp) false) true (nmL t9 ty (skL t9 ty sp) false pl) := by first | (exfalso; rw [c88] at c98; exact absurd c98 (by decide)) | (simp [mdS, mdV, mdE, hw, *]; done) | (simp [mdS, mdV, mdE, hw, *]; rfl)
                    have ew0_gv : (mdS t9 ty (sp, cd, pl, gv)).2.2.2.2 = nmG t9 ty (ncP t9 ty (skL t9 ty sp) false) true (nmG t9 ty (skL t9 ty sp) false gv) := by first | (exfalso; rw [c88] at c98; exact absurd c98 (by decide)) | (simp [mdS, mdV, mdE, hw, *]; done) | (simp [mdS, mdV, mdE, hw, *]; rfl)
                    exact wv_zretM (b := true) hx hb hr hlocks hP hD hS rfl (by first | (exfalso; rw [c88] at c98; exact absurd c98 (by decide)) | (simp [mdS, mdV, mdE, hw, *]; done) | (simp [mdS, mdV, mdE, hw, *]; rfl)) (by rw [ew0_gv, ew0_pl, ew0_cd, ew0_sp]) dX7_reads_155
                  · skip
                    refine lv_iconst (v := nI 0) hx hb dX7_reads_138 (by decide) ?_
                    have ew0_sp : (mdS t9 ty (sp, cd, pl, gv)).2.1 = skS t9 ty (ncP t9 ty (ncP t9 ty (skL t9 ty sp) false) true) := by first | (exfalso; rw [c88] at c98; exact absurd c98 (by decide)) | (simp [mdS, mdV, mdE, hw, *]; done) | (simp [mdS, mdV, mdE, hw, *]; rfl)
                    have ew0_cd : (mdS t9 ty (sp, cd, pl, gv)).2.2.1 = nI k := by first | (exfalso; rw [c88] at c98; exact absurd c98 (by decide)) | (simp [mdS, mdV, mdE, hw, *]; done) | (simp [mdS, mdV, mdE, hw, *]; rfl)
                    have ew0_pl : (mdS t9 ty (sp, cd, pl, gv)).2.2.2.1 = nmL t9 ty (ncP t9 ty (skL t9 ty sp) false) true (nmL t9 ty (skL t9 ty sp) false pl) := by first | (exfalso; rw [c88] at c98; exact absurd c98 (by decide)) | (simp [mdS, mdV, mdE, hw, *]; done) | (simp [mdS, mdV, mdE, hw, *]; rfl)
                    have ew0_gv : (mdS t9 ty (sp, cd, pl, gv)).2.2.2.2 = nmG t9 ty (ncP t9 ty (skL t9 ty sp) false) true (nmG t9 ty (skL t9 ty sp) false gv) := by first | (exfalso; rw [c88] at c98; exact absurd c98 (by decide)) | (simp [mdS, mdV, mdE, hw, *]; done) | (simp [mdS, mdV, mdE, hw, *]; rfl)
                    exact wv_zretM (b := false) hx hb hr hlocks hP hD hS rfl (by first | (exfalso; rw [c88] at c98; exact absurd c98 (by decide)) | (simp [mdS, mdV, mdE, hw, *]; done) | (simp [mdS, mdV, mdE, hw, *]; rfl)) (by rw [ew0_gv, ew0_pl, ew0_cd, ew0_sp]) dX7_reads_139
                · skip
                  refine lv_iconst (v := nI 0) hx hb dX7_reads_121 (by decide) ?_
                  have ew0_sp : (mdS t9 ty (sp, cd, pl, gv)).2.1 = ncP t9 ty (ncP t9 ty (skL t9 ty sp) false) true := by first | (exfalso; rw [c88] at c98; exact absurd c98 (by decide)) | (simp [mdS, mdV, mdE, hw, *]; done) | (simp [mdS, mdV, mdE, hw, *]; rfl)
                  have ew0_cd : (mdS t9 ty (sp, cd, pl, gv)).2.2.1 = nI k := by first | (exfalso; rw [c88] at c98; exact absurd c98 (by decide)) | (simp [mdS, mdV, mdE, hw, *]; done) | (simp [mdS, mdV, mdE, hw, *]; rfl)
                  have ew0_pl : (mdS t9 ty (sp, cd, pl, gv)).2.2.2.1 = nmL t9 ty (ncP t9 ty (skL t9 ty sp) false) true (nmL t9 ty (skL t9 ty sp) false pl) := by first | (exfalso; rw [c88] at c98; exact absurd c98 (by decide)) | (simp [mdS, mdV, mdE, hw, *]; done) | (simp [mdS, mdV, mdE, hw, *]; rfl)
                  have ew0_gv : (mdS t9 ty (sp, cd, pl, gv)).2.2.2.2 = nmG t9 ty (ncP t9 ty (skL t9 ty sp) false) true (nmG t9 ty (skL t9 ty sp) false gv) := by first | (exfalso; rw [c88] at c98; exact absurd c98 (by decide)) | (simp [mdS, mdV, mdE, hw, *]; done) | (simp [mdS, mdV, mdE, hw, *]; rfl)
                  exact wv_zretM (b := false) hx hb hr hlocks hP hD hS rfl (by first | (exfalso; rw [c88] at c98; exact absurd c98 (by decide)) | (simp [mdS, mdV, mdE, hw, *]; done) | (simp [mdS, mdV, mdE, hw, *]; rfl)) (by rw [ew0_gv, ew0_pl, ew0_cd, ew0_sp]) dX7_reads_122
          · skip
            refine lv_aload_n hx hb dX7_reads_83 rfl (lv_at hl 1 rfl) ?_
            refine va_get (D := D) (ci := 5) (C := RX7) (T := TX7) (N := 15) hx hb hts hinX7 hown hK hP 0 rfl rfl 12 (by decide) (hts (.fieldLink RX7 196 "NearRanksModel" "command" "I") (by decide +kernel)) (fun _ h9 => h9) rfl dX7_reads_84 ?_
            refine lv_iconst (v := nI 3) hx hb dX7_reads_87 (by decide) ?_
            refine wv_icmp_ne (tgt := 95) hx hb (by omega) (by omega) dX7_reads_88 (by decide) (fun c88 => ?_) (fun c88 => ?_)
            · skip
              have hwv : wva k = false := by unfold wva; rw [decide_eq_false (show ¬ k ≤ 1 by omega), decide_eq_false (show ¬ k = 3 by omega)]; rfl
              refine lv_iconst (v := nI 0) hx hb dX7_reads_95 (by decide) ?_
              refine lv_istore_n (lv' := [(3, .int (nI 0)), (2, .int (bI (wnu k))), (0, .ref mo), (1, .int (nI sp))]) hx hb dX7_reads_96 rfl hl (by decide) rfl (fun ls hl => ?_)
              refine lv_iload_n hx hb dX7_reads_97 rfl (lv_at hl 1 rfl) ?_
              refine wv_ifeqB (tgt := 109) hx hb dX7_reads_98 (by decide) (fun c98 => ?_) (fun c98 => ?_)
              · skip
                refine lv_iload_n hx hb dX7_reads_109 rfl (lv_at hl 0 rfl) ?_
                refine lv_if_eq (tgt := 123) hx hb dX7_reads_110 (by decide) (fun _ => ?_) (fun h => absurd h (by decide))
                refine lv_aload_n hx hb dX7_reads_123 rfl (lv_at hl 2 rfl) ?_
                refine wv_callMv (As := []) (rest := []) (wr := []) (ws1 := ModC mo sa pa ha ta cJ cI (sM n b fl me st lk cm v nu) pt hd (tN t9) ps ru ty rf lks lo1 hi1 (skS t9 ty (skL t9 ty sp)) (nI k) pl gv) ⟨hx, hb, hml, hown, hts⟩ (kX7_skips l D mo sa pa ha ta cJ cI n b fl me st lk cm v nu pt hd t9 ps ru ty rf lks lo1 hi1 (skL t9 ty sp) (nI k) pl gv (by first | assumption | omega) (by first | assumption | omega) (by first | assumption | omega)) (cwV 0 hts gX7_reads_X7_skips rfl rfl rfl (by decide +kernel) ⟨Nat.le_of_ble_eq_true rfl, Nat.le_of_ble_eq_true rfl⟩) hK hN hP hD hS hA [0, 1, 2, 3, 4] [] [0, 1] [0, 1, 2, 3, 4] rfl rfl (by decide) rfl (by decide) (by decide) rfl (by decide) rfl 0 5 rfl rfl rfl rfl hl.1 rfl (Nat.le_of_ble_eq_true rfl) dX7_reads_124 ⟨Nat.zero_le _, Nat.zero_le _⟩ (fun H locs hz9 hP hD hS => ?_)
                refine lv_aload_n hx hb dX7_reads_127 rfl (lv_at hl 2 rfl) ?_
                refine lv_bipush (v := nI 59) hx hb dX7_reads_128 (by decide) ?_
                refine lv_bipush (v := nI 59) hx hb dX7_reads_130 (by decide) ?_
                refine wv_callPi (As := [.int (nI 59), .int (nI 59)]) (rest := []) ⟨hx, hb, hml, hown, hts⟩ (kX7_isAt l D mo sa pa ha ta cJ cI n b fl me st lk cm v nu pt hd t9 ps ru ty rf lks lo1 hi1 (skS t9 ty (skL t9 ty sp)) (nI k) pl gv 59 59 (by first | assumption | omega) (by first | assumption | omega) (by first | assumption | omega) (by first | assumption | omega) (by first | assumption | omega)) (cwV 2 hts gX7_reads_X7_isAt rfl rfl rfl (by decide +kernel) ⟨Nat.le_of_ble_eq_true rfl, Nat.le_of_ble_eq_true rfl⟩) hK hN hP hS hA [0, 1, 2, 3, 4] [0, 1] rfl rfl 0 5 rfl rfl rfl rfl hl.1 rfl (Nat.le_of_ble_eq_true rfl) dX7_reads_132 ⟨Nat.zero_le _, Nat.zero_le _⟩ (fun H locs hz9 hP hS => ?_)
                refine wv_ifneB (tgt := 140) hx hb dX7_reads_135 (by decide) (fun c135 => ?_) (fun c135 => ?_)
                · skip
                  have hb8 := isA_i c135
                  refine lv_aload_n hx hb dX7_reads_140 rfl (lv_at hl 2 rfl) ?_
                  refine lv_dup hx hb dX7_reads_141 rfl ?_
                  refine va_get (D := D) (ci := 5) (C := RX7) (T := TX7) (N := 15) hx hb hts hinX7 hown hK hP 0 rfl rfl 11 (by decide) (hts (.fieldLink RX7 160 "NearRanksModel" "spot" "I") (by decide +kernel)) (fun _ h9 => h9) rfl dX7_reads_142 ?_
                  refine lv_iconst (v := nI 1) hx hb dX7_reads_145 (by decide) ?_
                  refine lv_iadd hx hb dX7_reads_146 ?_
                  refine wv_ti (nI_add _ _) ?_
                  refine va_put (D := D) (ci := 5) (v := .int (nI ((skS t9 ty (skL t9 ty sp)) + 1))) (ty := .int) (C := RX7) (T := TX7) (N := 15) hx hb hts hinX7 tyX7 tyX7_ok nmX7 hown hK hP hD hS 0 rfl rfl 11 (by decide) (hts (.fieldLink RX7 160 "NearRanksModel" "spot" "I") (by decide +kernel)) (fun _ h9 => h9) rfl (by decide +kernel) rfl rfl (Nat.le_of_ble_eq_true rfl) dX7_reads_147 (fun H locs hP hD hS => ?_)
                  have hP : va_P D vwCl (ModC mo sa pa ha ta cJ cI (sM n b fl me st lk cm v nu) pt hd (tN t9) ps ru ty rf lks lo1 hi1 ((skS t9 ty (skL t9 ty sp)) + 1) (nI k) pl gv) H := hP
                  have hD : va_D _ (ModC mo sa pa ha ta cJ cI (sM n b fl me st lk cm v nu) pt hd (tN t9) ps ru ty rf lks lo1 hi1 ((skS t9 ty (skL t9 ty sp)) + 1) (nI k) pl gv) := hD
                  refine lv_aload_n hx hb dX7_reads_150 rfl (lv_at hl 2 rfl) ?_
                  refine wv_callMv (As := []) (rest := []) (wr := []) (ws1 := ModC mo sa pa ha ta cJ cI (sM n b fl me st lk cm v nu) pt hd (tN t9) ps ru ty rf lks lo1 hi1 (skS t9 ty ((skS t9 ty (skL t9 ty sp)) + 1)) (nI k) pl gv) ⟨hx, hb, hml, hown, hts⟩ (kX7_skips l D mo sa pa ha ta cJ cI n b fl me st lk cm v nu pt hd t9 ps ru ty rf lks lo1 hi1 ((skS t9 ty (skL t9 ty sp)) + 1) (nI k) pl gv (by first | assumption | omega) (by first | assumption | omega) (by first | assumption | omega)) (cwV 0 hts gX7_reads_X7_skips rfl rfl rfl (by decide +kernel) ⟨Nat.le_of_ble_eq_true rfl, Nat.le_of_ble_eq_true rfl⟩) hK hN hP hD hS hA [0, 1, 2, 3, 4] [] [0, 1] [0, 1, 2, 3, 4] rfl rfl (by decide) rfl (by decide) (by decide) rfl (by decide) rfl 0 5 rfl rfl rfl rfl hl.1 rfl (Nat.le_of_ble_eq_true rfl) dX7_reads_151 ⟨Nat.zero_le _, Nat.zero_le _⟩ (fun H locs hz9 hP hD hS => ?_)
                  refine lv_iconst (v := nI 1) hx hb dX7_reads_154 (by decide) ?_
                  have ew0_sp : (mdS t9 ty (sp, cd, pl, gv)).2.1 = skS t9 ty ((skS t9 ty (skL t9 ty sp)) + 1) := by first | (exfalso; rw [c88] at c98; exact absurd c98 (by decide)) | (simp [mdS, mdV, mdE, hw, *]; done) | (simp [mdS, mdV, mdE, hw, *]; rfl)
                  have ew0_cd : (mdS t9 ty (sp, cd, pl, gv)).2.2.1 = nI k := by first | (exfalso; rw [c88] at c98; exact absurd c98 (by decide)) | (simp [mdS, mdV, mdE, hw, *]; done) | (simp [mdS, mdV, mdE, hw, *]; rfl)
                  have ew0_pl : (mdS t9 ty (sp, cd, pl, gv)).2.2.2.1 = pl := by first | (exfalso; rw [c88] at c98; exact absurd c98 (by decide)) | (simp [mdS, mdV, mdE, hw, *]; done) | (simp [mdS, mdV, mdE, hw, *]; rfl)
                  have ew0_gv : (mdS t9 ty (sp, cd, pl, gv)).2.2.2.2 = gv := by first | (exfalso; rw [c88] at c98; exact absurd c98 (by decide)) | (simp [mdS, mdV, mdE, hw, *]; done) | (simp [mdS, mdV, mdE, hw, *]; rfl)
                  exact wv_zretM (b := true) hx hb hr hlocks hP hD hS rfl (by first | (exfalso; rw [c88] at c98; exact absurd c98 (by decide)) | (simp [mdS, mdV, mdE, hw, *]; done) | (simp [mdS, mdV, mdE, hw, *]; rfl)) (by rw [ew0_gv, ew0_pl, ew0_cd, ew0_sp]) dX7_reads_155
                · skip
                  refine lv_iconst (v := nI 0) hx hb dX7_reads_138 (by decide) ?_
                  have ew0_sp : (mdS t9 ty (sp, cd, pl, gv)).2.1 = skS t9 ty (skL t9 ty sp) := by first | (exfalso; rw [c88] at c98; exact absurd c98 (by decide)) | (simp [mdS, mdV, mdE, hw, *]; done) | (simp [mdS, mdV, mdE, hw, *]; rfl)
                  have ew0_cd : (mdS t9 ty (sp, cd, pl, gv)).2.2.1 = nI k := by first | (exfalso; rw [c88] at c98; exact absurd c98 (by decide)) | (simp [mdS, mdV, mdE, hw, *]; done) | (simp [mdS, mdV, mdE, hw, *]; rfl)
                  have ew0_pl : (mdS t9 ty (sp, cd, pl, gv)).2.2.2.1 = pl := by first | (exfalso; rw [c88] at c98; exact absurd c98 (by decide)) | (simp [mdS, mdV, mdE, hw, *]; done) | (simp [mdS, mdV, mdE, hw, *]; rfl)
                  have ew0_gv : (mdS t9 ty (sp, cd, pl, gv)).2.2.2.2 = gv := by first | (exfalso; rw [c88] at c98; exact absurd c98 (by decide)) | (simp [mdS, mdV, mdE, hw, *]; done) | (simp [mdS, mdV, mdE, hw, *]; rfl)
                  exact wv_zretM (b := false) hx hb hr hlocks hP hD hS rfl (by first | (exfalso; rw [c88] at c98; exact absurd c98 (by decide)) | (simp [mdS, mdV, mdE, hw, *]; done) | (simp [mdS, mdV, mdE, hw, *]; rfl)) (by rw [ew0_gv, ew0_pl, ew0_cd, ew0_sp]) dX7_reads_139
              · skip
                refine lv_aload_n hx hb dX7_reads_101 rfl (lv_at hl 2 rfl) ?_
                refine lv_iconst (v := nI 0) hx hb dX7_reads_102 (by decide) ?_
                refine wv_callMi (As := [.int (nI 0)]) (rest := []) (wr := []) (ws1 := ModC mo sa pa ha ta cJ cI (sM n b fl me st lk cm v nu) pt hd (tN t9) ps ru ty rf lks lo1 hi1 (ncP t9 ty (skL t9 ty sp) false) (nI k) (nmL t9 ty (skL t9 ty sp) false pl) (nmG t9 ty (skL t9 ty sp) false gv)) ⟨hx, hb, hml, hown, hts⟩ (kX7_number l D mo sa pa ha ta cJ cI n b fl me st lk cm v nu pt hd t9 ps ru ty rf lks lo1 hi1 (skL t9 ty sp) (nI k) pl gv false (by first | assumption | omega) (by first | assumption | omega) (by first | assumption | omega)) (cwV 1 hts gX7_reads_X7_number rfl rfl rfl (by decide +kernel) ⟨Nat.le_of_ble_eq_true rfl, Nat.le_of_ble_eq_true rfl⟩) hK hN hP hD hS hA [0, 1, 2, 3, 4] [] [0, 1] [0, 1, 2, 3, 4] rfl rfl (by decide) rfl (by decide) (by decide) rfl (by decide) rfl 0 5 rfl rfl rfl rfl hl.1 rfl (Nat.le_of_ble_eq_true rfl) dX7_reads_103 ⟨Nat.zero_le _, Nat.zero_le _⟩ (fun H locs hz9 hP hD hS => ?_)
                refine wv_ifeqB (tgt := 121) hx hb dX7_reads_106 (by decide) (fun c106 => ?_) (fun c106 => ?_)
                · skip
                  refine lv_iconst (v := nI 0) hx hb dX7_reads_121 (by decide) ?_
                  have ew0_sp : (mdS t9 ty (sp, cd, pl, gv)).2.1 = ncP t9 ty (skL t9 ty sp) false := by first | (exfalso; rw [c88] at c98; exact absurd c98 (by decide)) | (simp [mdS, mdV, mdE, hw, *]; done) | (simp [mdS, mdV, mdE, hw, *]; rfl)
                  have ew0_cd : (mdS t9 ty (sp, cd, pl, gv)).2.2.1 = nI k := by first | (exfalso; rw [c88] at c98; exact absurd c98 (by decide)) | (simp [mdS, mdV, mdE, hw, *]; done) | (simp [mdS, mdV, mdE, hw, *]; rfl)
                  have ew0_pl : (mdS t9 ty (sp, cd, pl, gv)).2.2.2.1 = nmL t9 ty (skL t9 ty sp) false pl := by first | (exfalso; rw [c88] at c98; exact absurd c98 (by decide)) | (simp [mdS, mdV, mdE, hw, *]; done) | (simp [mdS, mdV, mdE, hw, *]; rfl)
                  have ew0_gv : (mdS t9 ty (sp, cd, pl, gv)).2.2.2.2 = nmG t9 ty (skL t9 ty sp) false gv := by first | (exfalso; rw [c88] at c98; exact absurd c98 (by decide)) | (simp [mdS, mdV, mdE, hw, *]; done) | (simp [mdS, mdV, mdE, hw, *]; rfl)
                  exact wv_zretM (b := false) hx hb hr hlocks hP hD hS rfl (by first | (exfalso; rw [c88] at c98; exact absurd c98 (by decide)) | (simp [mdS, mdV, mdE, hw, *]; done) | (simp [mdS, mdV, mdE, hw, *]; rfl)) (by rw [ew0_gv, ew0_pl, ew0_cd, ew0_sp]) dX7_reads_122
                · skip
                  refine lv_iload_n hx hb dX7_reads_109 rfl (lv_at hl 0 rfl) ?_
                  refine lv_if_eq (tgt := 123) hx hb dX7_reads_110 (by decide) (fun _ => ?_) (fun h => absurd h (by decide))
                  refine lv_aload_n hx hb dX7_reads_123 rfl (lv_at hl 2 rfl) ?_
                  refine wv_callMv (As := []) (rest := []) (wr := []) (ws1 := ModC mo sa pa ha ta cJ cI (sM n b fl me st lk cm v nu) pt hd (tN t9) ps ru ty rf lks lo1 hi1 (skS t9 ty (ncP t9 ty (skL t9 ty sp) false)) (nI k) (nmL t9 ty (skL t9 ty sp) false pl) (nmG t9 ty (skL t9 ty sp) false gv)) ⟨hx, hb, hml, hown, hts⟩ (kX7_skips l D mo sa pa ha ta cJ cI n b fl me st lk cm v nu pt hd t9 ps ru ty rf lks lo1 hi1 (ncP t9 ty (skL t9 ty sp) false) (nI k) (nmL t9 ty (skL t9 ty sp) false pl) (nmG t9 ty (skL t9 ty sp) false gv) (by first | assumption | omega) (by first | assumption | omega) (by first | assumption | omega)) (cwV 0 hts gX7_reads_X7_skips rfl rfl rfl (by decide +kernel) ⟨Nat.le_of_ble_eq_true rfl, Nat.le_of_ble_eq_true rfl⟩) hK hN hP hD hS hA [0, 1, 2, 3, 4] [] [0, 1] [0, 1, 2, 3, 4] rfl rfl (by decide) rfl (by decide) (by decide) rfl (by decide) rfl 0 5 rfl rfl rfl rfl hl.1 rfl (Nat.le_of_ble_eq_true rfl) dX7_reads_124 ⟨Nat.zero_le _, Nat.zero_le _⟩ (fun H locs hz9 hP hD hS => ?_)
                  refine lv_aload_n hx hb dX7_reads_127 rfl (lv_at hl 2 rfl) ?_
                  refine lv_bipush (v := nI 59) hx hb dX7_reads_128 (by decide) ?_
                  refine lv_bipush (v := nI 59) hx hb dX7_reads_130 (by decide) ?_
                  refine wv_callPi (As := [.int (nI 59), .int (nI 59)]) (rest := []) ⟨hx, hb, hml, hown, hts⟩ (kX7_isAt l D mo sa pa ha ta cJ cI n b fl me st lk cm v nu pt hd t9 ps ru ty rf lks lo1 hi1 (skS t9 ty (ncP t9 ty (skL t9 ty sp) false)) (nI k) (nmL t9 ty (skL t9 ty sp) false pl) (nmG t9 ty (skL t9 ty sp) false gv) 59 59 (by first | assumption | omega) (by first | assumption | omega) (by first | assumption | omega) (by first | assumption | omega) (by first | assumption | omega)) (cwV 2 hts gX7_reads_X7_isAt rfl rfl rfl (by decide +kernel) ⟨Nat.le_of_ble_eq_true rfl, Nat.le_of_ble_eq_true rfl⟩) hK hN hP hS hA [0, 1, 2, 3, 4] [0, 1] rfl rfl 0 5 rfl rfl rfl rfl hl.1 rfl (Nat.le_of_ble_eq_true rfl) dX7_reads_132 ⟨Nat.zero_le _, Nat.zero_le _⟩ (fun H locs hz9 hP hS => ?_)
                  refine wv_ifneB (tgt := 140) hx hb dX7_reads_135 (by decide) (fun c135 => ?_) (fun c135 => ?_)
                  · skip
                    have hb8 := isA_i c135
                    refine lv_aload_n hx hb dX7_reads_140 rfl (lv_at hl 2 rfl) ?_
                    refine lv_dup hx hb dX7_reads_141 rfl ?_
                    refine va_get (D := D) (ci := 5) (C := RX7) (T := TX7) (N := 15) hx hb hts hinX7 hown hK hP 0 rfl rfl 11 (by decide) (hts (.fieldLink RX7 160 "NearRanksModel" "spot" "I") (by decide +kernel)) (fun _ h9 => h9) rfl dX7_reads_142 ?_
                    refine lv_iconst (v := nI 1) hx hb dX7_reads_145 (by decide) ?_
                    refine lv_iadd hx hb dX7_reads_146 ?_
                    refine wv_ti (nI_add _ _) ?_
                    refine va_put (D := D) (ci := 5) (v := .int (nI ((skS t9 ty (ncP t9 ty (skL t9 ty sp) false)) + 1))) (ty := .int) (C := RX7) (T := TX7) (N := 15) hx hb hts hinX7 tyX7 tyX7_ok nmX7 hown hK hP hD hS 0 rfl rfl 11 (by decide) (hts (.fieldLink RX7 160 "NearRanksModel" "spot" "I") (by decide +kernel)) (fun _ h9 => h9) rfl (by decide +kernel) rfl rfl (Nat.le_of_ble_eq_true rfl) dX7_reads_147 (fun H locs hP hD hS => ?_)
                    have hP : va_P D vwCl (ModC mo sa pa ha ta cJ cI (sM n b fl me st lk cm v nu) pt hd (tN t9) ps ru ty rf lks lo1 hi1 ((skS t9 ty (ncP t9 ty (skL t9 ty sp) false)) + 1) (nI k) (nmL t9 ty (skL t9 ty sp) false pl) (nmG t9 ty (skL t9 ty sp) false gv)) H := hP
                    have hD : va_D _ (ModC mo sa pa ha ta cJ cI (sM n b fl me st lk cm v nu) pt hd (tN t9) ps ru ty rf lks lo1 hi1 ((skS t9 ty (ncP t9 ty (skL t9 ty sp) false)) + 1) (nI k) (nmL t9 ty (skL t9 ty sp) false pl) (nmG t9 ty (skL t9 ty sp) false gv)) := hD
                    refine lv_aload_n hx hb dX7_reads_150 rfl (lv_at hl 2 rfl) ?_
                    refine wv_callMv (As := []) (rest := []) (wr := []) (ws1 := ModC mo sa pa ha ta cJ cI (sM n b fl me st lk cm v nu) pt hd (tN t9) ps ru ty rf lks lo1 hi1 (skS t9 ty ((skS t9 ty (ncP t9 ty (skL t9 ty sp) false)) + 1)) (nI k) (nmL t9 ty (skL t9 ty sp) false pl) (nmG t9 ty (skL t9 ty sp) false gv)) ⟨hx, hb, hml, hown, hts⟩ (kX7_skips l D mo sa pa ha ta cJ cI n b fl me st lk cm v nu pt hd t9 ps ru ty rf lks lo1 hi1 ((skS t9 ty (ncP t9 ty (skL t9 ty sp) false)) + 1) (nI k) (nmL t9 ty (skL t9 ty sp) false pl) (nmG t9 ty (skL t9 ty sp) false gv) (by first | assumption | omega) (by first | assumption | omega) (by first | assumption | omega)) (cwV 0 hts gX7_reads_X7_skips rfl rfl rfl (by decide +kernel) ⟨Nat.le_of_ble_eq_true rfl, Nat.le_of_ble_eq_true rfl⟩) hK hN hP hD hS hA [0, 1, 2, 3, 4] [] [0, 1] [0, 1, 2, 3, 4] rfl rfl (by decide) rfl (by decide) (by decide) rfl (by decide) rfl 0 5 rfl rfl rfl rfl hl.1 rfl (Nat.le_of_ble_eq_true rfl) dX7_reads_151 ⟨Nat.zero_le _, Nat.zero_le _⟩ (fun H locs hz9 hP hD hS => ?_)
                    refine lv_iconst (v := nI 1) hx hb dX7_reads_154 (by decide) ?_
                    have ew0_sp : (mdS t9 ty (sp, cd, pl, gv)).2.1 = skS t9 ty ((skS t9 ty (ncP t9 ty (skL t9 ty sp) false)) + 1) := by first | (exfalso; rw [c88] at c98; exact absurd c98 (by decide)) | (simp [mdS, mdV, mdE, hw, *]; done) | (simp [mdS, mdV, mdE, hw, *]; rfl)
                    have ew0_cd : (mdS t9 ty (sp, cd, pl, gv)).2.2.1 = nI k := by first | (exfalso; rw [c88] at c98; exact absurd c98 (by decide)) | (simp [mdS, mdV, mdE, hw, *]; done) | (simp [mdS, mdV, mdE, hw, *]; rfl)
                    have ew0_pl : (mdS t9 ty (sp, cd, pl, gv)).2.2.2.1 = nmL t9 ty (skL t9 ty sp) false pl := by first | (exfalso; rw [c88] at c98; exact absurd c98 (by decide)) | (simp [mdS, mdV, mdE, hw, *]; done) | (simp [mdS, mdV, mdE, hw, *]; rfl)
                    have ew0_gv : (mdS t9 ty (sp, cd, pl, gv)).2.2.2.2 = nmG t9 ty (skL t9 ty sp) false gv := by first | (exfalso; rw [c88] at c98; exact absurd c98 (by decide)) | (simp [mdS, mdV, mdE, hw, *]; done) | (simp [mdS, mdV, mdE, hw, *]; rfl)
                    exact wv_zretM (b := true) hx hb hr hlocks hP hD hS rfl (by first | (exfalso; rw [c88] at c98; exact absurd c98 (by decide)) | (simp [mdS, mdV, mdE, hw, *]; done) | (simp [mdS, mdV, mdE, hw, *]; rfl)) (by rw [ew0_gv, ew0_pl, ew0_cd, ew0_sp]) dX7_reads_155
                  · skip
                    refine lv_iconst (v := nI 0) hx hb dX7_reads_138 (by decide) ?_
                    have ew0_sp : (mdS t9 ty (sp, cd, pl, gv)).2.1 = skS t9 ty (ncP t9 ty (skL t9 ty sp) false) := by first | (exfalso; rw [c88] at c98; exact absurd c98 (by decide)) | (simp [mdS, mdV, mdE, hw, *]; done) | (simp [mdS, mdV, mdE, hw, *]; rfl)
                    have ew0_cd : (mdS t9 ty (sp, cd, pl, gv)).2.2.1 = nI k := by first | (exfalso; rw [c88] at c98; exact absurd c98 (by decide)) | (simp [mdS, mdV, mdE, hw, *]; done) | (simp [mdS, mdV, mdE, hw, *]; rfl)
                    have ew0_pl : (mdS t9 ty (sp, cd, pl, gv)).2.2.2.1 = nmL t9 ty (skL t9 ty sp) false pl := by first | (exfalso; rw [c88] at c98; exact absurd c98 (by decide)) | (simp [mdS, mdV, mdE, hw, *]; done) | (simp [mdS, mdV, mdE, hw, *]; rfl)
                    have ew0_gv : (mdS t9 ty (sp, cd, pl, gv)).2.2.2.2 = nmG t9 ty (skL t9 ty sp) false gv := by first | (exfalso; rw [c88] at c98; exact absurd c98 (by decide)) | (simp [mdS, mdV, mdE, hw, *]; done) | (simp [mdS, mdV, mdE, hw, *]; rfl)
                    exact wv_zretM (b := false) hx hb hr hlocks hP hD hS rfl (by first | (exfalso; rw [c88] at c98; exact absurd c98 (by decide)) | (simp [mdS, mdV, mdE, hw, *]; done) | (simp [mdS, mdV, mdE, hw, *]; rfl)) (by rw [ew0_gv, ew0_pl, ew0_cd, ew0_sp]) dX7_reads_139
            · skip
              have hwv : wva k = true := by rw [show k = 3 by omega]; rfl
              refine lv_iconst (v := nI 1) hx hb dX7_reads_91 (by decide) ?_
              refine lv_goto (tgt := 96) hx hb dX7_reads_92 (by decide) ?_
              refine lv_istore_n (lv' := [(3, .int (nI 1)), (2, .int (bI (wnu k))), (0, .ref mo), (1, .int (nI sp))]) hx hb dX7_reads_96 rfl hl (by decide) rfl (fun ls hl => ?_)
              refine lv_iload_n hx hb dX7_reads_97 rfl (lv_at hl 1 rfl) ?_
              refine wv_ifeqB (tgt := 109) hx hb dX7_reads_98 (by decide) (fun c98 => ?_) (fun c98 => ?_)
              · skip
                refine lv_iload_n hx hb dX7_reads_109 rfl (lv_at hl 0 rfl) ?_
                refine lv_if_eq (tgt := 123) hx hb dX7_reads_110 (by decide) (fun h => absurd h (by decide)) (fun _ => ?_)
                refine lv_aload_n hx hb dX7_reads_113 rfl (lv_at hl 2 rfl) ?_
                refine lv_iconst (v := nI 1) hx hb dX7_reads_114 (by decide) ?_
                refine wv_callMi (As := [.int (nI 1)]) (rest := []) (wr := []) (ws1 := ModC mo sa pa ha ta cJ cI (sM n b fl me st lk cm v nu) pt hd (tN t9) ps ru ty rf lks lo1 hi1 (ncP t9 ty (skL t9 ty sp) true) (nI k) (nmL t9 ty (skL t9 ty sp) true pl) (nmG t9 ty (skL t9 ty sp) true gv)) ⟨hx, hb, hml, hown, hts⟩ (kX7_number l D mo sa pa ha ta cJ cI n b fl me st lk cm v nu pt hd t9 ps ru ty rf lks lo1 hi1 (skL t9 ty sp) (nI k) pl gv true (by first | assumption | omega) (by first | assumption | omega) (by first | assumption | omega)) (cwV 1 hts gX7_reads_X7_number rfl rfl rfl (by decide +kernel) ⟨Nat.le_of_ble_eq_true rfl, Nat.le_of_ble_eq_true rfl⟩) hK hN hP hD hS hA [0, 1, 2, 3, 4] [] [0, 1] [0, 1, 2, 3, 4] rfl rfl (by decide) rfl (by decide) (by decide) rfl (by decide) rfl 0 5 rfl rfl rfl rfl hl.1 rfl (Nat.le_of_ble_eq_true rfl) dX7_reads_115 ⟨Nat.zero_le _, Nat.zero_le _⟩ (fun H locs hz9 hP hD hS => ?_)
                refine wv_ifneB (tgt := 123) hx hb dX7_reads_118 (by decide) (fun c118 => ?_) (fun c118 => ?_)
                · skip
                  refine lv_aload_n hx hb dX7_reads_123 rfl (lv_at hl 2 rfl) ?_
                  refine wv_callMv (As := []) (rest := []) (wr := []) (ws1 := ModC mo sa pa ha ta cJ cI (sM n b fl me st lk cm v nu) pt hd (tN t9) ps ru ty rf lks lo1 hi1 (skS t9 ty (ncP t9 ty (skL t9 ty sp) true)) (nI k) (nmL t9 ty (skL t9 ty sp) true pl) (nmG t9 ty (skL t9 ty sp) true gv)) ⟨hx, hb, hml, hown, hts⟩ (kX7_skips l D mo sa pa ha ta cJ cI n b fl me st lk cm v nu pt hd t9 ps ru ty rf lks lo1 hi1 (ncP t9 ty (skL t9 ty sp) true) (nI k) (nmL t9 ty (skL t9 ty sp) true pl) (nmG t9 ty (skL t9 ty sp) true gv) (by first | assumption | omega) (by first | assumption | omega) (by first | assumption | omega)) (cwV 0 hts gX7_reads_X7_skips rfl rfl rfl (by decide +kernel) ⟨Nat.le_of_ble_eq_true rfl, Nat.le_of_ble_eq_true rfl⟩) hK hN hP hD hS hA [0, 1, 2, 3, 4] [] [0, 1] [0, 1, 2, 3, 4] rfl rfl (by decide) rfl (by decide) (by decide) rfl (by decide) rfl 0 5 rfl rfl rfl rfl hl.1 rfl (Nat.le_of_ble_eq_true rfl) dX7_reads_124 ⟨Nat.zero_le _, Nat.zero_le _⟩ (fun H locs hz9 hP hD hS => ?_)
                  refine lv_aload_n hx hb dX7_reads_127 rfl (lv_at hl 2 rfl) ?_
                  refine lv_bipush (v := nI 59) hx hb dX7_reads_128 (by decide) ?_
                  refine lv_bipush (v := nI 59) hx hb dX7_reads_130 (by decide) ?_
                  refine wv_callPi (As := [.int (nI 59), .int (nI 59)]) (rest := []) ⟨hx, hb, hml, hown, hts⟩ (kX7_isAt l D mo sa pa ha ta cJ cI n b fl me st lk cm v nu pt hd t9 ps ru ty rf lks lo1 hi1 (skS t9 ty (ncP t9 ty (skL t9 ty sp) true)) (nI k) (nmL t9 ty (skL t9 ty sp) true pl) (nmG t9 ty (skL t9 ty sp) true gv) 59 59 (by first | assumption | omega) (by first | assumption | omega) (by first | assumption | omega) (by first | assumption | omega) (by first | assumption | omega)) (cwV 2 hts gX7_reads_X7_isAt rfl rfl rfl (by decide +kernel) ⟨Nat.le_of_ble_eq_true rfl, Nat.le_of_ble_eq_true rfl⟩) hK hN hP hS hA [0, 1, 2, 3, 4] [0, 1] rfl rfl 0 5 rfl rfl rfl rfl hl.1 rfl (Nat.le_of_ble_eq_true rfl) dX7_reads_132 ⟨Nat.zero_le _, Nat.zero_le _⟩ (fun H locs hz9 hP hS => ?_)
                  refine wv_ifneB (tgt := 140) hx hb dX7_reads_135 (by decide) (fun c135 => ?_) (fun c135 => ?_)
                  · skip
                    have hb8 := isA_i c135
                    refine lv_aload_n hx hb dX7_reads_140 rfl (lv_at hl 2 rfl) ?_
                    refine lv_dup hx hb dX7_reads_141 rfl ?_
                    refine va_get (D := D) (ci := 5) (C := RX7) (T := TX7) (N := 15) hx hb hts hinX7 hown hK hP 0 rfl rfl 11 (by decide) (hts (.fieldLink RX7 160 "NearRanksModel" "spot" "I") (by decide +kernel)) (fun _ h9 => h9) rfl dX7_reads_142 ?_
                    refine lv_iconst (v := nI 1) hx hb dX7_reads_145 (by decide) ?_
                    refine lv_iadd hx hb dX7_reads_146 ?_
                    refine wv_ti (nI_add _ _) ?_
                    refine va_put (D := D) (ci := 5) (v := .int (nI ((skS t9 ty (ncP t9 ty (skL t9 ty sp) true)) + 1))) (ty := .int) (C := RX7) (T := TX7) (N := 15) hx hb hts hinX7 tyX7 tyX7_ok nmX7 hown hK hP hD hS 0 rfl rfl 11 (by decide) (hts (.fieldLink RX7 160 "NearRanksModel" "spot" "I") (by decide +kernel)) (fun _ h9 => h9) rfl (by decide +kernel) rfl rfl (Nat.le_of_ble_eq_true rfl) dX7_reads_147 (fun H locs hP hD hS => ?_)
                    have hP : va_P D vwCl (ModC mo sa pa ha ta cJ cI (sM n b fl me st lk cm v nu) pt hd (tN t9) ps ru ty rf lks lo1 hi1 ((skS t9 ty (ncP t9 ty (skL t9 ty sp) true)) + 1) (nI k) (nmL t9 ty (skL t9 ty sp) true pl) (nmG t9 ty (skL t9 ty sp) true gv)) H := hP
                    have hD : va_D _ (ModC mo sa pa ha ta cJ cI (sM n b fl me st lk cm v nu) pt hd (tN t9) ps ru ty rf lks lo1 hi1 ((skS t9 ty (ncP t9 ty (skL t9 ty sp) true)) + 1) (nI k) (nmL t9 ty (skL t9 ty sp) true pl) (nmG t9 ty (skL t9 ty sp) true gv)) := hD
                    refine lv_aload_n hx hb dX7_reads_150 rfl (lv_at hl 2 rfl) ?_
                    refine wv_callMv (As := []) (rest := []) (wr := []) (ws1 := ModC mo sa pa ha ta cJ cI (sM n b fl me st lk cm v nu) pt hd (tN t9) ps ru ty rf lks lo1 hi1 (skS t9 ty ((skS t9 ty (ncP t9 ty (skL t9 ty sp) true)) + 1)) (nI k) (nmL t9 ty (skL t9 ty sp) true pl) (nmG t9 ty (skL t9 ty sp) true gv)) ⟨hx, hb, hml, hown, hts⟩ (kX7_skips l D mo sa pa ha ta cJ cI n b fl me st lk cm v nu pt hd t9 ps ru ty rf lks lo1 hi1 ((skS t9 ty (ncP t9 ty (skL t9 ty sp) true)) + 1) (nI k) (nmL t9 ty (skL t9 ty sp) true pl) (nmG t9 ty (skL t9 ty sp) true gv) (by first | assumption | omega) (by first | assumption | omega) (by first | assumption | omega)) (cwV 0 hts gX7_reads_X7_skips rfl rfl rfl (by decide +kernel) ⟨Nat.le_of_ble_eq_true rfl, Nat.le_of_ble_eq_true rfl⟩) hK hN hP hD hS hA [0, 1, 2, 3, 4] [] [0, 1] [0, 1, 2, 3, 4] rfl rfl (by decide) rfl (by decide) (by decide) rfl (by decide) rfl 0 5 rfl rfl rfl rfl hl.1 rfl (Nat.le_of_ble_eq_true rfl) dX7_reads_151 ⟨Nat.zero_le _, Nat.zero_le _⟩ (fun H locs hz9 hP hD hS => ?_)
                    refine lv_iconst (v := nI 1) hx hb dX7_reads_154 (by decide) ?_
                    have ew0_sp : (mdS t9 ty (sp, cd, pl, gv)).2.1 = skS t9 ty ((skS t9 ty (ncP t9 ty (skL t9 ty sp) true)) + 1) := by first | (exfalso; rw [c88] at c98; exact absurd c98 (by decide)) | (simp [mdS, mdV, mdE, hw, *]; done) | (simp [mdS, mdV, mdE, hw, *]; rfl)
                    have ew0_cd : (mdS t9 ty (sp, cd, pl, gv)).2.2.1 = nI k := by first | (exfalso; rw [c88] at c98; exact absurd c98 (by decide)) | (simp [mdS, mdV, mdE, hw, *]; done) | (simp [mdS, mdV, mdE, hw, *]; rfl)
                    have ew0_pl : (mdS t9 ty (sp, cd, pl, gv)).2.2.2.1 = nmL t9 ty (skL t9 ty sp) true pl := by first | (exfalso; rw [c88] at c98; exact absurd c98 (by decide)) | (simp [mdS, mdV, mdE, hw, *]; done) | (simp [mdS, mdV, mdE, hw, *]; rfl)
                    have ew0_gv : (mdS t9 ty (sp, cd, pl, gv)).2.2.2.2 = nmG t9 ty (skL t9 ty sp) true gv := by first | (exfalso; rw [c88] at c98; exact absurd c98 (by decide)) | (simp [mdS, mdV, mdE, hw, *]; done) | (simp [mdS, mdV, mdE, hw, *]; rfl)
                    exact wv_zretM (b := true) hx hb hr hlocks hP hD hS rfl (by first | (exfalso; rw [c88] at c98; exact absurd c98 (by decide)) | (simp [mdS, mdV, mdE, hw, *]; done) | (simp [mdS, mdV, mdE, hw, *]; rfl)) (by rw [ew0_gv, ew0_pl, ew0_cd, ew0_sp]) dX7_reads_155
                  · skip
                    refine lv_iconst (v := nI 0) hx hb dX7_reads_138 (by decide) ?_
                    have ew0_sp : (mdS t9 ty (sp, cd, pl, gv)).2.1 = skS t9 ty (ncP t9 ty (skL t9 ty sp) true) := by first | (exfalso; rw [c88] at c98; exact absurd c98 (by decide)) | (simp [mdS, mdV, mdE, hw, *]; done) | (simp [mdS, mdV, mdE, hw, *]; rfl)
                    have ew0_cd : (mdS t9 ty (sp, cd, pl, gv)).2.2.1 = nI k := by first | (exfalso; rw [c88] at c98; exact absurd c98 (by decide)) | (simp [mdS, mdV, mdE, hw, *]; done) | (simp [mdS, mdV, mdE, hw, *]; rfl)
                    have ew0_pl : (mdS t9 ty (sp, cd, pl, gv)).2.2.2.1 = nmL t9 ty (skL t9 ty sp) true pl := by first | (exfalso; rw [c88] at c98; exact absurd c98 (by decide)) | (simp [mdS, mdV, mdE, hw, *]; done) | (simp [mdS, mdV, mdE, hw, *]; rfl)
                    have ew0_gv : (mdS t9 ty (sp, cd, pl, gv)).2.2.2.2 = nmG t9 ty (skL t9 ty sp) true gv := by first | (exfalso; rw [c88] at c98; exact absurd c98 (by decide)) | (simp [mdS, mdV, mdE, hw, *]; done) | (simp [mdS, mdV, mdE, hw, *]; rfl)
                    exact wv_zretM (b := false) hx hb hr hlocks hP hD hS rfl (by first | (exfalso; rw [c88] at c98; exact absurd c98 (by decide)) | (simp [mdS, mdV, mdE, hw, *]; done) | (simp [mdS, mdV, mdE, hw, *]; rfl)) (by rw [ew0_gv, ew0_pl, ew0_cd, ew0_sp]) dX7_reads_139
                · skip
                  refine lv_iconst (v := nI 0) hx hb dX7_reads_121 (by decide) ?_
                  have ew0_sp : (mdS t9 ty (sp, cd, pl, gv)).2.1 = ncP t9 ty (skL t9 ty sp) true := by first | (exfalso; rw [c88] at c98; exact absurd c98 (by decide)) | (simp [mdS, mdV, mdE, hw, *]; done) | (simp [mdS, mdV, mdE, hw, *]; rfl)
                  have ew0_cd : (mdS t9 ty (sp, cd, pl, gv)).2.2.1 = nI k := by first | (exfalso; rw [c88] at c98; exact absurd c98 (by decide)) | (simp [mdS, mdV, mdE, hw, *]; done) | (simp [mdS, mdV, mdE, hw, *]; rfl)
                  have ew0_pl : (mdS t9 ty (sp, cd, pl, gv)).2.2.2.1 = nmL t9 ty (skL t9 ty sp) true pl := by first | (exfalso; rw [c88] at c98; exact absurd c98 (by decide)) | (simp [mdS, mdV, mdE, hw, *]; done) | (simp [mdS, mdV, mdE, hw, *]; rfl)
                  have ew0_gv : (mdS t9 ty (sp, cd, pl, gv)).2.2.2.2 = nmG t9 ty (skL t9 ty sp) true gv := by first | (exfalso; rw [c88] at c98; exact absurd c98 (by decide)) | (simp [mdS, mdV, mdE, hw, *]; done) | (simp [mdS, mdV, mdE, hw, *]; rfl)
                  exact wv_zretM (b := false) hx hb hr hlocks hP hD hS rfl (by first | (exfalso; rw [c88] at c98; exact absurd c98 (by decide)) | (simp [mdS, mdV, mdE, hw, *]; done) | (simp [mdS, mdV, mdE, hw, *]; rfl)) (by rw [ew0_gv, ew0_pl, ew0_cd, ew0_sp]) dX7_reads_122
              · skip
                refine lv_aload_n hx hb dX7_reads_101 rfl (lv_at hl 2 rfl) ?_
                refine lv_iconst (v := nI 0) hx hb dX7_reads_102 (by decide) ?_
                refine wv_callMi (As := [.int (nI 0)]) (rest := []) (wr := []) (ws1 := ModC mo sa pa ha ta cJ cI (sM n b fl me st lk cm v nu) pt hd (tN t9) ps ru ty rf lks lo1 hi1 (ncP t9 ty (skL t9 ty sp) false) (nI k) (nmL t9 ty (skL t9 ty sp) false pl) (nmG t9 ty (skL t9 ty sp) false gv)) ⟨hx, hb, hml, hown, hts⟩ (kX7_number l D mo sa pa ha ta cJ cI n b fl me st lk cm v nu pt hd t9 ps ru ty rf lks lo1 hi1 (skL t9 ty sp) (nI k) pl gv false (by first | assumption | omega) (by first | assumption | omega) (by first | assumption | omega)) (cwV 1 hts gX7_reads_X7_number rfl rfl rfl (by decide +kernel) ⟨Nat.le_of_ble_eq_true rfl, Nat.le_of_ble_eq_true rfl⟩) hK hN hP hD hS hA [0, 1, 2, 3, 4] [] [0, 1] [0, 1, 2, 3, 4] rfl rfl (by decide) rfl (by decide) (by decide) rfl (by decide) rfl 0 5 rfl rfl rfl rfl hl.1 rfl (Nat.le_of_ble_eq_true rfl) dX7_reads_103 ⟨Nat.zero_le _, Nat.zero_le _⟩ (fun H locs hz9 hP hD hS => ?_)
                refine wv_ifeqB (tgt := 121) hx hb dX7_reads_106 (by decide) (fun c106 => ?_) (fun c106 => ?_)
                · skip
                  refine lv_iconst (v := nI 0) hx hb dX7_reads_121 (by decide) ?_
                  have ew0_sp : (mdS t9 ty (sp, cd, pl, gv)).2.1 = ncP t9 ty (skL t9 ty sp) false := by first | (exfalso; rw [c88] at c98; exact absurd c98 (by decide)) | (simp [mdS, mdV, mdE, hw, *]; done) | (simp [mdS, mdV, mdE, hw, *]; rfl)
                  have ew0_cd : (mdS t9 ty (sp, cd, pl, gv)).2.2.1 = nI k := by first | (exfalso; rw [c88] at c98; exact absurd c98 (by decide)) | (simp [mdS, mdV, mdE, hw, *]; done) | (simp [mdS, mdV, mdE, hw, *]; rfl)
                  have ew0_pl : (mdS t9 ty (sp, cd, pl, gv)).2.2.2.1 = nmL t9 ty (skL t9 ty sp) false pl := by first | (exfalso; rw [c88] at c98; exact absurd c98 (by decide)) | (simp [mdS, mdV, mdE, hw, *]; done) | (simp [mdS, mdV, mdE, hw, *]; rfl)
                  have ew0_gv : (mdS t9 ty (sp, cd, pl, gv)).2.2.2.2 = nmG t9 ty (skL t9 ty sp) false gv := by first | (exfalso; rw [c88] at c98; exact absurd c98 (by decide)) | (simp [mdS, mdV, mdE, hw, *]; done) | (simp [mdS, mdV, mdE, hw, *]; rfl)
                  exact wv_zretM (b := false) hx hb hr hlocks hP hD hS rfl (by first | (exfalso; rw [c88] at c98; exact absurd c98 (by decide)) | (simp [mdS, mdV, mdE, hw, *]; done) | (simp [mdS, mdV, mdE, hw, *]; rfl)) (by rw [ew0_gv, ew0_pl, ew0_cd, ew0_sp]) dX7_reads_122
                · skip
                  refine lv_iload_n hx hb dX7_reads_109 rfl (lv_at hl 0 rfl) ?_
                  refine lv_if_eq (tgt := 123) hx hb dX7_reads_110 (by decide) (fun h => absurd h (by decide)) (fun _ => ?_)
                  refine lv_aload_n hx hb dX7_reads_113 rfl (lv_at hl 2 rfl) ?_
                  refine lv_iconst (v := nI 1) hx hb dX7_reads_114 (by decide) ?_
                  refine wv_callMi (As := [.int (nI 1)]) (rest := []) (wr := []) (ws1 := ModC mo sa pa ha ta cJ cI (sM n b fl me st lk cm v nu) pt hd (tN t9) ps ru ty rf lks lo1 hi1 (ncP t9 ty (ncP t9 ty (skL t9 ty sp) false) true) (nI k) (nmL t9 ty (ncP t9 ty (skL t9 ty sp) false) true (nmL t9 ty (skL t9 ty sp) false pl)) (nmG t9 ty (ncP t9 ty (skL t9 ty sp) false) true (nmG t9 ty (skL t9 ty sp) false gv))) ⟨hx, hb, hml, hown, hts⟩ (kX7_number l D mo sa pa ha ta cJ cI n b fl me st lk cm v nu pt hd t9 ps ru ty rf lks lo1 hi1 (ncP t9 ty (skL t9 ty sp) false) (nI k) (nmL t9 ty (skL t9 ty sp) false pl) (nmG t9 ty (skL t9 ty sp) false gv) true (by first | assumption | omega) (by first | assumption | omega) (by first | assumption | omega)) (cwV 1 hts gX7_reads_X7_number rfl rfl rfl (by decide +kernel) ⟨Nat.le_of_ble_eq_true rfl, Nat.le_of_ble_eq_true rfl⟩) hK hN hP hD hS hA [0, 1, 2, 3, 4] [] [0, 1] [0, 1, 2, 3, 4] rfl rfl (by decide) rfl (by decide) (by decide) rfl (by decide) rfl 0 5 rfl rfl rfl rfl hl.1 rfl (Nat.le_of_ble_eq_true rfl) dX7_reads_115 ⟨Nat.zero_le _, Nat.zero_le _⟩ (fun H locs hz9 hP hD hS => ?_)
                  refine wv_ifneB (tgt := 123) hx hb dX7_reads_118 (by decide) (fun c118 => ?_) (fun c118 => ?_)
                  · skip
                    refine lv_aload_n hx hb dX7_reads_123 rfl (lv_at hl 2 rfl) ?_
                    refine wv_callMv (As := []) (rest := []) (wr := []) (ws1 := ModC mo sa pa ha ta cJ cI (sM n b fl me st lk cm v nu) pt hd (tN t9) ps ru ty rf lks lo1 hi1 (skS t9 ty (ncP t9 ty (ncP t9 ty (skL t9 ty sp) false) true)) (nI k) (nmL t9 ty (ncP t9 ty (skL t9 ty sp) false) true (nmL t9 ty (skL t9 ty sp) false pl)) (nmG t9 ty (ncP t9 ty (skL t9 ty sp) false) true (nmG t9 ty (skL t9 ty sp) false gv))) ⟨hx, hb, hml, hown, hts⟩ (kX7_skips l D mo sa pa ha ta cJ cI n b fl me st lk cm v nu pt hd t9 ps ru ty rf lks lo1 hi1 (ncP t9 ty (ncP t9 ty (skL t9 ty sp) false) true) (nI k) (nmL t9 ty (ncP t9 ty (skL t9 ty sp) false) true (nmL t9 ty (skL t9 ty sp) false pl)) (nmG t9 ty (ncP t9 ty (skL t9 ty sp) false) true (nmG t9 ty (skL t9 ty sp) false gv)) (by first | assumption | omega) (by first | assumption | omega) (by first | assumption | omega)) (cwV 0 hts gX7_reads_X7_skips rfl rfl rfl (by decide +kernel) ⟨Nat.le_of_ble_eq_true rfl, Nat.le_of_ble_eq_true rfl⟩) hK hN hP hD hS hA [0, 1, 2, 3, 4] [] [0, 1] [0, 1, 2, 3, 4] rfl rfl (by decide) rfl (by decide) (by decide) rfl (by decide) rfl 0 5 rfl rfl rfl rfl hl.1 rfl (Nat.le_of_ble_eq_true rfl) dX7_reads_124 ⟨Nat.zero_le _, Nat.zero_le _⟩ (fun H locs hz9 hP hD hS => ?_)
                    refine lv_aload_n hx hb dX7_reads_127 rfl (lv_at hl 2 rfl) ?_
                    refine lv_bipush (v := nI 59) hx hb dX7_reads_128 (by decide) ?_
                    refine lv_bipush (v := nI 59) hx hb dX7_reads_130 (by decide) ?_
                    refine wv_callPi (As := [.int (nI 59), .int (nI 59)]) (rest := []) ⟨hx, hb, hml, hown, hts⟩ (kX7_isAt l D mo sa pa ha ta cJ cI n b fl me st lk cm v nu pt hd t9 ps ru ty rf lks lo1 hi1 (skS t9 ty (ncP t9 ty (ncP t9 ty (skL t9 ty sp) false) true)) (nI k) (nmL t9 ty (ncP t9 ty (skL t9 ty sp) false) true (nmL t9 ty (skL t9 ty sp) false pl)) (nmG t9 ty (ncP t9 ty (skL t9 ty sp) false) true (nmG t9 ty (skL t9 ty sp) false gv)) 59 59 (by first | assumption | omega) (by first | assumption | omega) (by first | assumption | omega) (by first | assumption | omega) (by first | assumption | omega)) (cwV 2 hts gX7_reads_X7_isAt rfl rfl rfl (by decide +kernel) ⟨Nat.le_of_ble_eq_true rfl, Nat.le_of_ble_eq_true rfl⟩) hK hN hP hS hA [0, 1, 2, 3, 4] [0, 1] rfl rfl 0 5 rfl rfl rfl rfl hl.1 rfl (Nat.le_of_ble_eq_true rfl) dX7_reads_132 ⟨Nat.zero_le _, Nat.zero_le _⟩ (fun H locs hz9 hP hS => ?_)
                    refine wv_ifneB (tgt := 140) hx hb dX7_reads_135 (by decide) (fun c135 => ?_) (fun c135 => ?_)
                    · skip
                      have hb8 := isA_i c135
                      refine lv_aload_n hx hb dX7_reads_140 rfl (lv_at hl 2 rfl) ?_
                      refine lv_dup hx hb dX7_reads_141 rfl ?_
                      refine va_get (D := D) (ci := 5) (C := RX7) (T := TX7) (N := 15) hx hb hts hinX7 hown hK hP 0 rfl rfl 11 (by decide) (hts (.fieldLink RX7 160 "NearRanksModel" "spot" "I") (by decide +kernel)) (fun _ h9 => h9) rfl dX7_reads_142 ?_
                      refine lv_iconst (v := nI 1) hx hb dX7_reads_145 (by decide) ?_
                      refine lv_iadd hx hb dX7_reads_146 ?_
                      refine wv_ti (nI_add _ _) ?_
                      refine va_put (D := D) (ci := 5) (v := .int (nI ((skS t9 ty (ncP t9 ty (ncP t9 ty (skL t9 ty sp) false) true)) + 1))) (ty := .int) (C := RX7) (T := TX7) (N := 15) hx hb hts hinX7 tyX7 tyX7_ok nmX7 hown hK hP hD hS 0 rfl rfl 11 (by decide) (hts (.fieldLink RX7 160 "NearRanksModel" "spot" "I") (by decide +kernel)) (fun _ h9 => h9) rfl (by decide +kernel) rfl rfl (Nat.le_of_ble_eq_true rfl) dX7_reads_147 (fun H locs hP hD hS => ?_)
                      have hP : va_P D vwCl (ModC mo sa pa ha ta cJ cI (sM n b fl me st lk cm v nu) pt hd (tN t9) ps ru ty rf lks lo1 hi1 ((skS t9 ty (ncP t9 ty (ncP t9 ty (skL t9 ty sp) false) true)) + 1) (nI k) (nmL t9 ty (ncP t9 ty (skL t9 ty sp) false) true (nmL t9 ty (skL t9 ty sp) false pl)) (nmG t9 ty (ncP t9 ty (skL t9 ty sp) false) true (nmG t9 ty (skL t9 ty sp) false gv))) H := hP
                      have hD : va_D _ (ModC mo sa pa ha ta cJ cI (sM n b fl me st lk cm v nu) pt hd (tN t9) ps ru ty rf lks lo1 hi1 ((skS t9 ty (ncP t9 ty (ncP t9 ty (skL t9 ty sp) false) true)) + 1) (nI k) (nmL t9 ty (ncP t9 ty (skL t9 ty sp) false) true (nmL t9 ty (skL t9 ty sp) false pl)) (nmG t9 ty (ncP t9 ty (skL t9 ty sp) false) true (nmG t9 ty (skL t9 ty sp) false gv))) := hD
                      refine lv_aload_n hx hb dX7_reads_150 rfl (lv_at hl 2 rfl) ?_
                      refine wv_callMv (As := []) (rest := []) (wr := []) (ws1 := ModC mo sa pa ha ta cJ cI (sM n b fl me st lk cm v nu) pt hd (tN t9) ps ru ty rf lks lo1 hi1 (skS t9 ty ((skS t9 ty (ncP t9 ty (ncP t9 ty (skL t9 ty sp) false) true)) + 1)) (nI k) (nmL t9 ty (ncP t9 ty (skL t9 ty sp) false) true (nmL t9 ty (skL t9 ty sp) false pl)) (nmG t9 ty (ncP t9 ty (skL t9 ty sp) false) true (nmG t9 ty (skL t9 ty sp) false gv))) ⟨hx, hb, hml, hown, hts⟩ (kX7_skips l D mo sa pa ha ta cJ cI n b fl me st lk cm v nu pt hd t9 ps ru ty rf lks lo1 hi1 ((skS t9 ty (ncP t9 ty (ncP t9 ty (skL t9 ty sp) false) true)) + 1) (nI k) (nmL t9 ty (ncP t9 ty (skL t9 ty sp) false) true (nmL t9 ty (skL t9 ty sp) false pl)) (nmG t9 ty (ncP t9 ty (skL t9 ty sp) false) true (nmG t9 ty (skL t9 ty sp) false gv)) (by first | assumption | omega) (by first | assumption | omega) (by first | assumption | omega)) (cwV 0 hts gX7_reads_X7_skips rfl rfl rfl (by decide +kernel) ⟨Nat.le_of_ble_eq_true rfl, Nat.le_of_ble_eq_true rfl⟩) hK hN hP hD hS hA [0, 1, 2, 3, 4] [] [0, 1] [0, 1, 2, 3, 4] rfl rfl (by decide) rfl (by decide) (by decide) rfl (by decide) rfl 0 5 rfl rfl rfl rfl hl.1 rfl (Nat.le_of_ble_eq_true rfl) dX7_reads_151 ⟨Nat.zero_le _, Nat.zero_le _⟩ (fun H locs hz9 hP hD hS => ?_)
                      refine lv_iconst (v := nI 1) hx hb dX7_reads_154 (by decide) ?_
                      have ew0_sp : (mdS t9 ty (sp, cd, pl, gv)).2.1 = skS t9 ty ((skS t9 ty (ncP t9 ty (ncP t9 ty (skL t9 ty sp) false) true)) + 1) := by first | (exfalso; rw [c88] at c98; exact absurd c98 (by decide)) | (simp [mdS, mdV, mdE, hw, *]; done) | (simp [mdS, mdV, mdE, hw, *]; rfl)
                      have ew0_cd : (mdS t9 ty (sp, cd, pl, gv)).2.2.1 = nI k := by first | (exfalso; rw [c88] at c98; exact absurd c98 (by decide)) | (simp [mdS, mdV, mdE, hw, *]; done) | (simp [mdS, mdV, mdE, hw, *]; rfl)
                      have ew0_pl : (mdS t9 ty (sp, cd, pl, gv)).2.2.2.1 = nmL t9 ty (ncP t9 ty (skL t9 ty sp) false) true (nmL t9 ty (skL t9 ty sp) false pl) := by first | (exfalso; rw [c88] at c98; exact absurd c98 (by decide)) | (simp [mdS, mdV, mdE, hw, *]; done) | (simp [mdS, mdV, mdE, hw, *]; rfl)
                      have ew0_gv : (mdS t9 ty (sp, cd, pl, gv)).2.2.2.2 = nmG t9 ty (ncP t9 ty (skL t9 ty sp) false) true (nmG t9 ty (skL t9 ty sp) false gv) := by first | (exfalso; rw [c88] at c98; exact absurd c98 (by decide)) | (simp [mdS, mdV, mdE, hw, *]; done) | (simp [mdS, mdV, mdE, hw, *]; rfl)
                      exact wv_zretM (b := true) hx hb hr hlocks hP hD hS rfl (by first | (exfalso; rw [c88] at c98; exact absurd c98 (by decide)) | (simp [mdS, mdV, mdE, hw, *]; done) | (simp [mdS, mdV, mdE, hw, *]; rfl)) (by rw [ew0_gv, ew0_pl, ew0_cd, ew0_sp]) dX7_reads_155
                    · skip
                      refine lv_iconst (v := nI 0) hx hb dX7_reads_138 (by decide) ?_
                      have ew0_sp : (mdS t9 ty (sp, cd, pl, gv)).2.1 = skS t9 ty (ncP t9 ty (ncP t9 ty (skL t9 ty sp) false) true) := by first | (exfalso; rw [c88] at c98; exact absurd c98 (by decide)) | (simp [mdS, mdV, mdE, hw, *]; done) | (simp [mdS, mdV, mdE, hw, *]; rfl)
                      have ew0_cd : (mdS t9 ty (sp, cd, pl, gv)).2.2.1 = nI k := by first | (exfalso; rw [c88] at c98; exact absurd c98 (by decide)) | (simp [mdS, mdV, mdE, hw, *]; done) | (simp [mdS, mdV, mdE, hw, *]; rfl)
                      have ew0_pl : (mdS t9 ty (sp, cd, pl, gv)).2.2.2.1 = nmL t9 ty (ncP t9 ty (skL t9 ty sp) false) true (nmL t9 ty (skL t9 ty sp) false pl) := by first | (exfalso; rw [c88] at c98; exact absurd c98 (by decide)) | (simp [mdS, mdV, mdE, hw, *]; done) | (simp [mdS, mdV, mdE, hw, *]; rfl)
                      have ew0_gv : (mdS t9 ty (sp, cd, pl, gv)).2.2.2.2 = nmG t9 ty (ncP t9 ty (skL t9 ty sp) false) true (nmG t9 ty (skL t9 ty sp) false gv) := by first | (exfalso; rw [c88] at c98; exact absurd c98 (by decide)) | (simp [mdS, mdV, mdE, hw, *]; done) | (simp [mdS, mdV, mdE, hw, *]; rfl)
                      exact wv_zretM (b := false) hx hb hr hlocks hP hD hS rfl (by first | (exfalso; rw [c88] at c98; exact absurd c98 (by decide)) | (simp [mdS, mdV, mdE, hw, *]; done) | (simp [mdS, mdV, mdE, hw, *]; rfl)) (by rw [ew0_gv, ew0_pl, ew0_cd, ew0_sp]) dX7_reads_139
                  · skip
                    refine lv_iconst (v := nI 0) hx hb dX7_reads_121 (by decide) ?_
                    have ew0_sp : (mdS t9 ty (sp, cd, pl, gv)).2.1 = ncP t9 ty (ncP t9 ty (skL t9 ty sp) false) true := by first | (exfalso; rw [c88] at c98; exact absurd c98 (by decide)) | (simp [mdS, mdV, mdE, hw, *]; done) | (simp [mdS, mdV, mdE, hw, *]; rfl)
                    have ew0_cd : (mdS t9 ty (sp, cd, pl, gv)).2.2.1 = nI k := by first | (exfalso; rw [c88] at c98; exact absurd c98 (by decide)) | (simp [mdS, mdV, mdE, hw, *]; done) | (simp [mdS, mdV, mdE, hw, *]; rfl)
                    have ew0_pl : (mdS t9 ty (sp, cd, pl, gv)).2.2.2.1 = nmL t9 ty (ncP t9 ty (skL t9 ty sp) false) true (nmL t9 ty (skL t9 ty sp) false pl) := by first | (exfalso; rw [c88] at c98; exact absurd c98 (by decide)) | (simp [mdS, mdV, mdE, hw, *]; done) | (simp [mdS, mdV, mdE, hw, *]; rfl)
                    have ew0_gv : (mdS t9 ty (sp, cd, pl, gv)).2.2.2.2 = nmG t9 ty (ncP t9 ty (skL t9 ty sp) false) true (nmG t9 ty (skL t9 ty sp) false gv) := by first | (exfalso; rw [c88] at c98; exact absurd c98 (by decide)) | (simp [mdS, mdV, mdE, hw, *]; done) | (simp [mdS, mdV, mdE, hw, *]; rfl)
                    exact wv_zretM (b := false) hx hb hr hlocks hP hD hS rfl (by first | (exfalso; rw [c88] at c98; exact absurd c98 (by decide)) | (simp [mdS, mdV, mdE, hw, *]; done) | (simp [mdS, mdV, mdE, hw, *]; rfl)) (by rw [ew0_gv, ew0_pl, ew0_cd, ew0_sp]) dX7_reads_122
      · skip
        have hti := isA_i c13
        refine lv_aload_n hx hb dX7_reads_16 rfl (lv_at hl 0 rfl) ?_
        refine lv_dup hx hb dX7_reads_17 rfl ?_
        refine va_get (D := D) (ci := 5) (C := RX7) (T := TX7) (N := 15) hx hb hts hinX7 hown hK hP 0 rfl rfl 11 (by decide) (hts (.fieldLink RX7 160 "NearRanksModel" "spot" "I") (by decide +kernel)) (fun _ h9 => h9) rfl dX7_reads_18 ?_
        refine lv_iconst (v := nI 1) hx hb dX7_reads_21 (by decide) ?_
        refine lv_iadd hx hb dX7_reads_22 ?_
        refine wv_ti (nI_add _ _) ?_
        refine va_put (D := D) (ci := 5) (v := .int (nI (p1 + 1))) (ty := .int) (C := RX7) (T := TX7) (N := 15) hx hb hts hinX7 tyX7 tyX7_ok nmX7 hown hK hP hD hS 0 rfl rfl 11 (by decide) (hts (.fieldLink RX7 160 "NearRanksModel" "spot" "I") (by decide +kernel)) (fun _ h9 => h9) rfl (by decide +kernel) rfl rfl (Nat.le_of_ble_eq_true rfl) dX7_reads_23 (fun H locs hP hD hS => ?_)
        have hP : va_P D vwCl (ModC mo sa pa ha ta cJ cI (sM n b fl me st lk cm v nu) pt hd (tN t9) ps ru ty rf lks lo1 hi1 (p1 + 1) cd pl gv) H := hP
        have hD : va_D _ (ModC mo sa pa ha ta cJ cI (sM n b fl me st lk cm v nu) pt hd (tN t9) ps ru ty rf lks lo1 hi1 (p1 + 1) cd pl gv) := hD
        refine lv_goto (tgt := 5) hx hb dX7_reads_26 (by decide) ?_
        exact ih5 (p1 + 1) (by omega) (by omega) (by omega) (by rw [hsk]; exact skL_t hti.1 c13) (by exact fun k h1 h2 => (show k < p1 ∨ k = p1 by omega).elim (fun h3 => hlt k h1 h3) (fun h3 => by rw [h3]; exact hti.2)) _ _ hP hD hS ls (lv_sub hl [0, 1] rfl)
  exact loop5 (ty - sp + 1) sp (by omega) (by omega) (by omega) (by rfl) (by exact fun k h1 h2 => absurd h2 (by omega)) _ _ hP hD hS ls (lv_sub hl [1, 0] rfl)

set_option maxHeartbeats 4000000 in
set_option maxRecDepth 100000 in
theorem kX7_fault (l : Launch) (D : va_G) (mo : Nat) (sa : Nat) (pa : Nat) (ha : Nat) (ta : Nat) (cJ : ClassId) (cI : ClassId) (n : Nat) (b : Nat) (fl : Bool) (me : Bool) (st : Int64) (lk : Int64) (cm : Int64) (v : Nat → Int64) (nu : Nat → Int64) (pt : Nat → Int64) (hd : Nat → Int64) (t9 : Nat → Nat) (ps : Nat) (ru : Bool) (ty : Nat) (rf : Nat) (lks : Nat) (lo1 : Int32) (hi1 : Int32) (sp : Nat) (cd : Int32) (pl : Int32) (gv : Int64) (hty : ty ≤ 150) (htx : ∀ k, t9 k < 128) : MMi l yX7_fault wsX7_fault ({ frames := 5, cells := 0, slots := 0, locals := 115 } : Room) [.ref mo] D (ModC mo sa pa ha ta cJ cI (sM n b fl me st lk cm v nu) pt hd (tN t9) ps ru ty rf lks lo1 hi1 sp cd pl gv) [(cJ, .long), (cI, .int)] (oI (ffM t9 ty 151 (skS t9 ty 0, cd, pl, gv)).1) (ModC mo sa pa ha ta cJ cI (sM n b fl me st lk cm v nu) pt hd (tN t9) ps ru ty rf lks lo1 hi1 ((ffM t9 ty 151 (skS t9 ty 0, cd, pl, gv)).2.1) ((ffM t9 ty 151 (skS t9 ty 0, cd, pl, gv)).2.2.1) ((ffM t9 ty 151 (skS t9 ty 0, cd, pl, gv)).2.2.2.1) ((ffM t9 ty 151 (skS t9 ty 0, cd, pl, gv)).2.2.2.2)) := by
  refine MMi_of (cc := cX7_fault) (maxL := 2) (ret := some .int) (by decide +kernel) rfl (Nat.le_of_ble_eq_true rfl) ?_
  intro p e s m args below meth c hx hb hr hts hown hlocks hml hP hK hN hD ls hl
  have hown : s.vm.findClass RX7 = some m.cls := hown
  have hl : lv_has ls 2 [(0, .ref mo)] := hl
  have hS : va_S (va_A (ModC mo sa pa ha ta cJ cI (sM n b fl me st lk cm v nu) pt hd (tN t9) ps ru ty rf lks lo1 hi1 sp cd pl gv) s.heap.size) s.heap s.heap [] := va_S.rf
  have hA := wk_hA (ModC mo sa pa ha ta cJ cI (sM n b fl me st lk cm v nu) pt hd (tN t9) ps ru ty rf lks lo1 hi1 sp cd pl gv) s.heap.size
  have hD9 : True := trivial
  have hinX7 : ∀ w ∈ wsX70, w ∈ wsX7_fault := by decide +kernel
  have hs9 := skS_le (c := t9) (Nat.zero_le ty)
  refine lv_aload_n hx hb dX7_fault_0 rfl (lv_at hl 0 rfl) ?_
  refine lv_iconst (v := nI 0) hx hb dX7_fault_1 (by decide) ?_
  refine va_put (D := D) (ci := 5) (v := .int (nI 0)) (ty := .int) (C := RX7) (T := TX7) (N := 15) hx hb hts hinX7 tyX7 tyX7_ok nmX7 hown hK hP hD hS 0 rfl rfl 11 (by decide) (hts (.fieldLink RX7 160 "NearRanksModel" "spot" "I") (by decide +kernel)) (fun _ h9 => h9) rfl (by decide +kernel) rfl rfl (Nat.le_of_ble_eq_true rfl) dX7_fault_2 (fun H locs hP hD hS => ?_)
  have hP : va_P D vwCl (ModC mo sa pa ha ta cJ cI (sM n b fl me st lk cm v nu) pt hd (tN t9) ps ru ty rf lks lo1 hi1 0 cd pl gv) H := hP
  have hD : va_D _ (ModC mo sa pa ha ta cJ cI (sM n b fl me st lk cm v nu) pt hd (tN t9) ps ru ty rf lks lo1 hi1 0 cd pl gv) := hD
  refine lv_aload_n hx hb dX7_fault_5 rfl (lv_at hl 0 rfl) ?_
  refine wv_callMv (As := []) (rest := []) (wr := []) (ws1 := ModC mo sa pa ha ta cJ cI (sM n b fl me st lk cm v nu) pt hd (tN t9) ps ru ty rf lks lo1 hi1 (skS t9 ty 0) cd pl gv) ⟨hx, hb, hml, hown, hts⟩ (kX7_skips l D mo sa pa ha ta cJ cI n b fl me st lk cm v nu pt hd t9 ps ru ty rf lks lo1 hi1 0 cd pl gv (by first | assumption | omega) (by first | assumption | omega) (by first | assumption | omega)) (cwV 0 hts gX7_fault_X7_skips rfl rfl rfl (by decide +kernel) ⟨Nat.le_of_ble_eq_true rfl, Nat.le_of_ble_eq_true rfl⟩) hK hN hP hD hS hA [0, 1, 2, 3, 4] [] [0, 1] [0, 1, 2, 3, 4] rfl rfl (by decide) rfl (by decide) (by decide) rfl (by decide) rfl 0 5 rfl rfl rfl rfl hl.1 rfl (Nat.le_of_ble_eq_true rfl) dX7_fault_6 ⟨Nat.zero_le _, Nat.zero_le _⟩ (fun H locs hz9 hP hD hS => ?_)
  refine lv_iconst (v := nI 1) hx hb dX7_fault_9 (by decide) ?_
  refine lv_istore_n (lv' := [(1, .int (nI 1)), (0, .ref mo)]) hx hb dX7_fault_10 rfl hl (by decide) rfl (fun ls hl => ?_)
  have el_w0_sp : (skS t9 ty 0, cd, pl, gv).1 = skS t9 ty 0 := by first | rfl | omega | (simp [*]; done)
  have el_w0_cd : (skS t9 ty 0, cd, pl, gv).2.1 = cd := by first | rfl | omega | (simp [*]; done)
  have el_w0_pl : (skS t9 ty 0, cd, pl, gv).2.2.1 = pl := by first | rfl | omega | (simp [*]; done)
  have el_w0_gv : (skS t9 ty 0, cd, pl, gv).2.2.2 = gv := by first | rfl | omega | (simp [*]; done)
  have loop11 : ∀ (K : Nat) (i : Nat) (w9 : MS), ty - w9.1 < K → i ≤ w9.1 → w9.1 ≤ ty → (ffM t9 ty 151 (skS t9 ty 0, cd, pl, gv)) = ffM t9 ty (151 - i) w9 → ∀ (H : Heap) (locs : List Loc), va_P D vwCl (ModC mo sa pa ha ta cJ cI (sM n b fl me st lk cm v nu) pt hd (tN t9) ps ru ty rf lks lo1 hi1 w9.1 w9.2.1 w9.2.2.1 w9.2.2.2) H → va_D (va_A (ModC mo sa pa ha ta cJ cI (sM n b fl me st lk cm v nu) pt hd (tN t9) ps ru ty rf lks lo1 hi1 sp cd pl gv) s.heap.size) (ModC mo sa pa ha ta cJ cI (sM n b fl me st lk cm v nu) pt hd (tN t9) ps ru ty rf lks lo1 hi1 w9.1 w9.2.1 w9.2.2.1 w9.2.2.2) → va_S (va_A (ModC mo sa pa ha ta cJ cI (sM n b fl me st lk cm v nu) pt hd (tN t9) ps ru ty rf lks lo1 hi1 sp cd pl gv) s.heap.size) s.heap H locs → ∀ ls : Array Slot, lv_has ls 2 [(0, .ref mo), (1, .int (nI 1))] → W p l e ({ frames := 5, cells := 0, slots := 0, locals := 115 } : Room) s m args below meth c H locs 0 0 (ZMi below args s D (ModC mo sa pa ha ta cJ cI (sM n b fl me st lk cm v nu) pt hd (tN t9) ps ru ty rf lks lo1 hi1 sp cd pl gv) (oI (ffM t9 ty 151 (skS t9 ty 0, cd, pl, gv)).1) (ModC mo sa pa ha ta cJ cI (sM n b fl me st lk cm v nu) pt hd (tN t9) ps ru ty rf lks lo1 hi1 ((ffM t9 ty 151 (skS t9 ty 0, cd, pl, gv)).2.1) ((ffM t9 ty 151 (skS t9 ty 0, cd, pl, gv)).2.2.1) ((ffM t9 ty 151 (skS t9 ty 0, cd, pl, gv)).2.2.2.1) ((ffM t9 ty 151 (skS t9 ty 0, cd, pl, gv)).2.2.2.2))) (F0 m 11 ls []) := by
    intro K
    induction K with
    | zero => intro i w9 hK0; exact absurd hK0 (Nat.not_lt_zero _)
    | succ K ih11 =>
      intro i w9 hKm hi hq hff H locs hP hD hS ls hl
      refine lv_iload_n hx hb dX7_fault_11 rfl (lv_at hl 1 rfl) ?_
      refine lv_if_eq (tgt := 34) hx hb dX7_fault_12 (by decide) (fun h => absurd h (by decide)) (fun _ => ?_)
      refine lv_aload_n hx hb dX7_fault_15 rfl (lv_at hl 0 rfl) ?_
      refine va_get (D := D) (ci := 5) (C := RX7) (T := TX7) (N := 15) hx hb hts hinX7 hown hK hP 0 rfl rfl 11 (by decide) (hts (.fieldLink RX7 160 "NearRanksModel" "spot" "I") (by decide +kernel)) (fun _ h9 => h9) rfl dX7_fault_16 ?_
      refine lv_aload_n hx hb dX7_fault_19 rfl (lv_at hl 0 rfl) ?_
      refine va_get (D := D) (ci := 5) (C := RX7) (T := TX7) (N := 15) hx hb hts hinX7 hown hK hP 0 rfl rfl 6 (by decide) (hts (.fieldLink RX7 136 "NearRanksModel" "typed" "I") (by decide +kernel)) (fun _ h9 => h9) rfl dX7_fault_20 ?_
      refine wv_icmp_ge (tgt := 34) hx hb (by omega) (by omega) dX7_fault_23 (by decide) (fun c23 => ?_) (fun c23 => ?_)
      · skip
        refine lv_iload_n hx hb dX7_fault_34 rfl (lv_at hl 1 rfl) ?_
        refine lv_if_eq (tgt := 44) hx hb dX7_fault_35 (by decide) (fun h => absurd h (by decide)) (fun _ => ?_)
        refine lv_sipush (v := (-1000)) hx hb dX7_fault_38 (by decide) ?_
        refine lv_goto (tgt := 48) hx hb dX7_fault_41 (by decide) ?_
        have ew0_sp : (ffM t9 ty 151 (skS t9 ty 0, cd, pl, gv)).2.1 = w9.1 := by rw [hff, show 151 - i = (151 - (i + 1)) + 1 by omega, ffM_e (by omega)]; first | done | rfl
        have ew0_cd : (ffM t9 ty 151 (skS t9 ty 0, cd, pl, gv)).2.2.1 = w9.2.1 := by rw [hff, show 151 - i = (151 - (i + 1)) + 1 by omega, ffM_e (by omega)]; first | done | rfl
        have ew0_pl : (ffM t9 ty 151 (skS t9 ty 0, cd, pl, gv)).2.2.2.1 = w9.2.2.1 := by rw [hff, show 151 - i = (151 - (i + 1)) + 1 by omega, ffM_e (by omega)]; first | done | rfl
        have ew0_gv : (ffM t9 ty 151 (skS t9 ty 0, cd, pl, gv)).2.2.2.2 = w9.2.2.2 := by rw [hff, show 151 - i = (151 - (i + 1)) + 1 by omega, ffM_e (by omega)]; first | done | rfl
        exact wv_iretM hx hb hr hlocks hP hD hS (by rw [hff, show 151 - i = (151 - (i + 1)) + 1 by omega, ffM_e (by omega)]; first | done | rfl) (by rw [ew0_gv, ew0_pl, ew0_cd, ew0_sp]) dX7_fault_48
      · skip
        refine lv_aload_n hx hb dX7_fault_26 rfl (lv_at hl 0 rfl) ?_
        refine wv_callMi (As := []) (rest := []) (wr := []) (ws1 := ModC mo sa pa ha ta cJ cI (sM n b fl me st lk cm v nu) pt hd (tN t9) ps ru ty rf lks lo1 hi1 ((mdS t9 ty (w9.1, w9.2.1, w9.2.2.1, w9.2.2.2)).2.1) ((mdS t9 ty (w9.1, w9.2.1, w9.2.2.1, w9.2.2.2)).2.2.1) ((mdS t9 ty (w9.1, w9.2.1, w9.2.2.1, w9.2.2.2)).2.2.2.1) ((mdS t9 ty (w9.1, w9.2.1, w9.2.2.1, w9.2.2.2)).2.2.2.2)) ⟨hx, hb, hml, hown, hts⟩ (kX7_reads l D mo sa pa ha ta cJ cI n b fl me st lk cm v nu pt hd t9 ps ru ty rf lks lo1 hi1 w9.1 w9.2.1 w9.2.2.1 w9.2.2.2 (by first | assumption | omega) (by first | assumption | omega) (by first | assumption | omega)) (cwV 0 hts gX7_fault_X7_reads rfl rfl rfl (by decide +kernel) ⟨Nat.le_of_ble_eq_true rfl, Nat.le_of_ble_eq_true rfl⟩) hK hN hP hD hS hA [0, 1, 2, 3, 4] [] [0, 1] [0, 1, 2, 3, 4] rfl rfl (by decide) rfl (by decide) (by decide) rfl (by decide) rfl 0 5 rfl rfl rfl rfl hl.1 rfl (Nat.le_of_ble_eq_true rfl) dX7_fault_27 ⟨Nat.zero_le _, Nat.zero_le _⟩ (fun H locs hz9 hP hD hS => ?_)
        rcases Bool.eq_false_or_eq_true ((mdS t9 ty (w9.1, w9.2.1, w9.2.2.1, w9.2.2.2)).1) with hrd | hrd
        · skip
          refine wv_ti (y := bI true) (by rw [hrd]) ?_
          refine lv_istore_n (lv' := [(1, .int (bI true)), (0, .ref mo)]) hx hb dX7_fault_30 rfl hl (by decide) rfl (fun ls hl => ?_)
          refine lv_goto (tgt := 11) hx hb dX7_fault_31 (by decide) ?_
          have el_l1 : nI 1 = bI true := by first | rfl | omega | (simp [*]; done)
          have el_w0_sp : ((mdS t9 ty (w9.1, w9.2.1, w9.2.2.1, w9.2.2.2)).2).1 = (mdS t9 ty (w9.1, w9.2.1, w9.2.2.1, w9.2.2.2)).2.1 := by first | rfl | omega | (simp [*]; done)
          have el_w0_cd : ((mdS t9 ty (w9.1, w9.2.1, w9.2.2.1, w9.2.2.2)).2).2.1 = (mdS t9 ty (w9.1, w9.2.1, w9.2.2.1, w9.2.2.2)).2.2.1 := by first | rfl | omega | (simp [*]; done)
          have el_w0_pl : ((mdS t9 ty (w9.1, w9.2.1, w9.2.2.1, w9.2.2.2)).2).2.2.1 = (mdS t9 ty (w9.1, w9.2.1, w9.2.2.1, w9.2.2.2)).2.2.2.1 := by first | rfl | omega | (simp [*]; done)
          have el_w0_gv : ((mdS t9 ty (w9.1, w9.2.1, w9.2.2.1, w9.2.2.2)).2).2.2.2 = (mdS t9 ty (w9.1, w9.2.1, w9.2.2.1, w9.2.2.2)).2.2.2.2 := by first | rfl | omega | (simp [*]; done)
          exact ih11 (i + 1) ((mdS t9 ty (w9.1, w9.2.1, w9.2.2.1, w9.2.2.2)).2) (by have h8 := (mdS_le (c := t9) (n := ty) (s := w9) hq).2 hrd; show ty - (mdS t9 ty w9).2.1 < K; omega) (by have h8 := (mdS_le (c := t9) (n := ty) (s := w9) hq).2 hrd; show i + 1 ≤ (mdS t9 ty w9).2.1; omega) (by exact (mdS_le (c := t9) (n := ty) (s := w9) hq).1) (by rw [hff, show 151 - i = (151 - (i + 1)) + 1 by omega]; exact ffM_t c23 hrd) _ _ (by first | (rw [el_w0_gv, el_w0_pl, el_w0_cd, el_w0_sp, el_l1]; exact hP) | (simp only [el_w0_gv, el_w0_pl, el_w0_cd, el_w0_sp, el_l1]; exact hP) | exact hP) (by first | (rw [el_w0_gv, el_w0_pl, el_w0_cd, el_w0_sp, el_l1]; exact hD) | (simp only [el_w0_gv, el_w0_pl, el_w0_cd, el_w0_sp, el_l1]; exact hD) | exact hD) hS ls (by first | (rw [el_w0_gv, el_w0_pl, el_w0_cd, el_w0_sp, el_l1]; exact lv_sub hl [1, 0] rfl) | (simp only [el_w0_gv, el_w0_pl, el_w0_cd, el_w0_sp, el_l1]; exact lv_sub hl [1, 0] rfl) | exact lv_sub hl [1, 0] rfl)
        · skip
          refine wv_ti (y := bI false) (by rw [hrd]) ?_
          refine lv_istore_n (lv' := [(1, .int (bI false)), (0, .ref mo)]) hx hb dX7_fault_30 rfl hl (by decide) rfl (fun ls hl => ?_)
          refine lv_goto (tgt := 11) hx hb dX7_fault_31 (by decide) ?_
          refine lv_iload_n hx hb dX7_fault_11 rfl (lv_at hl 0 rfl) ?_
          refine wv_ifeqB (tgt := 34) hx hb dX7_fault_12 (by decide) (fun _ => ?_) (fun h => by cases h)
          refine lv_iload_n hx hb dX7_fault_34 rfl (lv_at hl 0 rfl) ?_
          refine wv_ifeqB (tgt := 44) hx hb dX7_fault_35 (by decide) (fun _ => ?_) (fun h => by cases h)
          refine lv_aload_n hx hb dX7_fault_44 rfl (lv_at hl 1 rfl) ?_
          refine va_get (D := D) (ci := 5) (C := RX7) (T := TX7) (N := 15) hx hb hts hinX7 hown hK hP 0 rfl rfl 11 (by decide) (hts (.fieldLink RX7 160 "NearRanksModel" "spot" "I") (by decide +kernel)) (fun _ h9 => h9) rfl dX7_fault_45 ?_
          have ew0_sp : (ffM t9 ty 151 (skS t9 ty 0, cd, pl, gv)).2.1 = (mdS t9 ty (w9.1, w9.2.1, w9.2.2.1, w9.2.2.2)).2.1 := by rw [hff, show 151 - i = (151 - (i + 1)) + 1 by omega, ffM_n c23 hrd]; first | done | rfl
          have ew0_cd : (ffM t9 ty 151 (skS t9 ty 0, cd, pl, gv)).2.2.1 = (mdS t9 ty (w9.1, w9.2.1, w9.2.2.1, w9.2.2.2)).2.2.1 := by rw [hff, show 151 - i = (151 - (i + 1)) + 1 by omega, ffM_n c23 hrd]; first | done | rfl
          have ew0_pl : (ffM t9 ty 151 (skS t9 ty 0, cd, pl, gv)).2.2.2.1 = (mdS t9 ty (w9.1, w9.2.1, w9.2.2.1, w9.2.2.2)).2.2.2.1 := by rw [hff, show 151 - i = (151 - (i + 1)) + 1 by omega, ffM_n c23 hrd]; first | done | rfl
          have ew0_gv : (ffM t9 ty 151 (skS t9 ty 0, cd, pl, gv)).2.2.2.2 = (mdS t9 ty (w9.1, w9.2.1, w9.2.2.1, w9.2.2.2)).2.2.2.2 := by rw [hff, show 151 - i = (151 - (i + 1)) + 1 by omega, ffM_n c23 hrd]; first | done | rfl
          exact wv_iretM hx hb hr hlocks hP hD hS (by rw [hff, show 151 - i = (151 - (i + 1)) + 1 by omega, ffM_n c23 hrd]; first | done | rfl) (by rw [ew0_gv, ew0_pl, ew0_cd, ew0_sp]) dX7_fault_48
  exact loop11 (ty - (skS t9 ty 0, cd, pl, gv).1 + 1) 0 (skS t9 ty 0, cd, pl, gv) (by omega) (by exact Nat.zero_le _) (by exact hs9.2) (by rfl) _ _ (by first | (rw [el_w0_gv, el_w0_pl, el_w0_cd, el_w0_sp]; exact hP) | (simp only [el_w0_gv, el_w0_pl, el_w0_cd, el_w0_sp]; exact hP) | exact hP) (by first | (rw [el_w0_gv, el_w0_pl, el_w0_cd, el_w0_sp]; exact hD) | (simp only [el_w0_gv, el_w0_pl, el_w0_cd, el_w0_sp]; exact hD) | exact hD) hS ls (by first | (rw [el_w0_gv, el_w0_pl, el_w0_cd, el_w0_sp]; exact lv_sub hl [1, 0] rfl) | (simp only [el_w0_gv, el_w0_pl, el_w0_cd, el_w0_sp]; exact lv_sub hl [1, 0] rfl) | exact lv_sub hl [1, 0] rfl)

set_option maxHeartbeats 4000000 in
set_option maxRecDepth 100000 in
theorem kX7_does (l : Launch) (D : va_G) (mo : Nat) (sa : Nat) (pa : Nat) (ha : Nat) (ta : Nat) (cJ : ClassId) (cI : ClassId) (n : Nat) (b : Nat) (fl : Bool) (me : Bool) (st : Int64) (lk : Int64) (cm : Int64) (v : Nat → Int64) (nu : Nat → Int64) (pt : Nat → Int64) (hd : Nat → Int64) (tx : Nat → Int32) (ps : Nat) (ty : Nat) (rf : Nat) (lks : Nat) (lo1 : Int32) (hi1 : Int32) (sp : Nat) (pl : Int32) (gv : Int64) (k9 : Nat) (hn : n ≤ 32) (hb : b ≤ 31) (hps : ps ≤ 4) (hk9 : k9 < 7) : MMv l yX7_does wsX7_does ({ frames := 8, cells := 0, slots := 0, locals := 181 } : Room) [.ref mo] D (ModC mo sa pa ha ta cJ cI (sM n b fl me st lk cm v nu) pt hd tx ps true ty rf lks lo1 hi1 sp (nI k9) pl gv) [(cJ, .long), (cI, .int)] (ModC mo sa pa ha ta cJ cI (sM ((dmS k9 pl gv (n, b, fl, me, st, lk, cm, v, nu)).2.1) ((dmS k9 pl gv (n, b, fl, me, st, lk, cm, v, nu)).2.2.1) ((dmS k9 pl gv (n, b, fl, me, st, lk, cm, v, nu)).2.2.2.1) ((dmS k9 pl gv (n, b, fl, me, st, lk, cm, v, nu)).2.2.2.2.1) ((dmS k9 pl gv (n, b, fl, me, st, lk, cm, v, nu)).2.2.2.2.2.1) ((dmS k9 pl gv (n, b, fl, me, st, lk, cm, v, nu)).2.2.2.2.2.2.1) ((dmS k9 pl gv (n, b, fl, me, st, lk, cm, v, nu)).2.2.2.2.2.2.2.1) ((dmS k9 pl gv (n, b, fl, me, st, lk, cm, v, nu)).2.2.2.2.2.2.2.2.1) ((dmS k9 pl gv (n, b, fl, me, st, lk, cm, v, nu)).2.2.2.2.2.2.2.2.2)) pt hd tx ps true ty ((dmS k9 pl gv (n, b, fl, me, st, lk, cm, v, nu)).1) lks lo1 hi1 sp (nI k9) pl gv) := by
  refine MMv_of (cc := cX7_does) (maxL := 1) (ret := none) (by decide +kernel) rfl (Nat.le_of_ble_eq_true rfl) ?_
  intro p e s m args below meth c hx hb hr hts hown hlocks hml hP hK hN hD ls hl
  have hown : s.vm.findClass RX7 = some m.cls := hown
  have hl : lv_has ls 1 [(0, .ref mo)] := hl
  have hS : va_S (va_A (ModC mo sa pa ha ta cJ cI (sM n b fl me st lk cm v nu) pt hd tx ps true ty rf lks lo1 hi1 sp (nI k9) pl gv) s.heap.size) s.heap s.heap [] := va_S.rf
  have hA := wk_hA (ModC mo sa pa ha ta cJ cI (sM n b fl me st lk cm v nu) pt hd tx ps true ty rf lks lo1 hi1 sp (nI k9) pl gv) s.heap.size
  have hD9 : True := trivial
  have hinX7 : ∀ w ∈ wsX70, w ∈ wsX7_does := by decide +kernel
  rcases (show k9 = 0 ∨ k9 = 1 ∨ k9 = 2 ∨ k9 = 3 ∨ k9 = 4 ∨ k9 = 5 ∨ k9 = 6 by omega) with hk | hk | hk | hk | hk | hk | hk
  · skip
    refine lv_aload_n hx hb dX7_does_0 rfl (lv_at hl 0 rfl) ?_
    refine va_get (D := D) (ci := 5) (C := RX7) (T := TX7) (N := 15) hx hb hts hinX7 hown hK hP 0 rfl rfl 12 (by decide) (hts (.fieldLink RX7 196 "NearRanksModel" "command" "I") (by decide +kernel)) (fun _ h9 => h9) rfl dX7_does_1 ?_
    refine wv_ti (y := nI 0) (by rw [hk]) ?_
    refine lv_tableIn (tgt := 44) hx hb dX7_does_4 (by decide) (by decide) rfl (by decide) ?_
    rcases Nat.lt_or_ge n 32 with hv | hv
    · skip
      refine lv_aload_n hx hb dX7_does_44 rfl (lv_at hl 0 rfl) ?_
      refine lv_aload_n hx hb dX7_does_45 rfl (lv_at hl 0 rfl) ?_
      refine va_get (D := D) (ci := 5) (C := RX7) (T := TX7) (N := 15) hx hb hts hinX7 hown hK hP 0 rfl rfl 14 (by decide) (hts (.fieldLink RX7 182 "NearRanksModel" "given" "J") (by decide +kernel)) (fun _ h9 => h9) rfl dX7_does_46 ?_
      refine wv_callMi (As := [.long gv]) (rest := []) (wr := []) (ws1 := ModC mo sa pa ha ta cJ cI (sM (n + 1) b fl me (st + (lN (eL me fl (n + 1) b (insA v n n gv)).length)) lk (cm + (lN 1)) (sws (insA v n n gv) (eL me fl (n + 1) b (insA v n n gv))) (sws (insA nu n n cm) (eL me fl (n + 1) b (insA v n n gv)))) (svP true pt ps (sM n b fl me st lk cm v nu)) hd tx (svN true ps) true ty 0 lks lo1 hi1 sp (nI k9) pl gv) ⟨hx, hb, hml, hown, hts⟩ (kX7_append l D mo sa pa ha ta cJ cI n b fl me st lk cm v nu pt hd tx ps true ty rf lks lo1 hi1 sp (nI k9) pl gv gv (by first | assumption | omega) (by first | assumption | omega) (by first | assumption | omega)) (cwV 1 hts gX7_does_X7_append rfl rfl rfl (by decide +kernel) ⟨Nat.le_of_ble_eq_true rfl, Nat.le_of_ble_eq_true rfl⟩) hK hN hP hD hS hA [0, 1, 2, 3, 4] [] [0, 1] [0, 1, 2, 3, 4] rfl rfl (by decide) rfl (by decide) (by decide) rfl (by decide) rfl 0 5 rfl rfl rfl rfl hl.1 rfl (Nat.le_of_ble_eq_true rfl) dX7_does_49 ⟨Nat.zero_le _, Nat.zero_le _⟩ (fun H locs hz9 hP hD hS => ?_)
      have hP : va_P D vwCl (ModC mo sa pa ha ta cJ cI (sM (n + 1) b fl me (st + (lN (eL me fl (n + 1) b (insA v n n gv)).length)) lk (cm + (lN 1)) (sws (insA v n n gv) (eL me fl (n + 1) b (insA v n n gv))) (sws (insA nu n n cm) (eL me fl (n + 1) b (insA v n n gv)))) (svP true pt ps (sM n b fl me st lk cm v nu)) hd tx (svN true ps) true ty 0 lks lo1 hi1 sp (nI k9) pl gv) H := hP
      have hD : va_D _ (ModC mo sa pa ha ta cJ cI (sM (n + 1) b fl me (st + (lN (eL me fl (n + 1) b (insA v n n gv)).length)) lk (cm + (lN 1)) (sws (insA v n n gv) (eL me fl (n + 1) b (insA v n n gv))) (sws (insA nu n n cm) (eL me fl (n + 1) b (insA v n n gv)))) (svP true pt ps (sM n b fl me st lk cm v nu)) hd tx (svN true ps) true ty 0 lks lo1 hi1 sp (nI k9) pl gv) := hD
      have er : svP true pt ps (sM n b fl me st lk cm v nu) = pt := rfl
      rw [er] at hP hD
      clear er
      have er : svN true ps = ps := rfl
      rw [er] at hP hD
      clear er
      refine lv_pop hx hb dX7_does_52 rfl ?_
      refine lv_goto (tgt := 129) hx hb dX7_does_53 (by decide) ?_
      have ew0_n : ((dmS k9 pl gv (n, b, fl, me, st, lk, cm, v, nu)).2.1) = (n + 1) := by first | (rw [hk]; simp [dmS, enM, hv, etn]; done) | (rw [hk]; simp [dmS, enM, hv]; done) | (rw [hk]; simp [dmS, enM, hv, hv2, etn]; done) | (rw [hk]; rfl)
      have ew0_b : ((dmS k9 pl gv (n, b, fl, me, st, lk, cm, v, nu)).2.2.1) = b := by first | (rw [hk]; simp [dmS, enM, hv, etn]; done) | (rw [hk]; simp [dmS, enM, hv]; done) | (rw [hk]; simp [dmS, enM, hv, hv2, etn]; done) | (rw [hk]; rfl)
      have ew0_fl : ((dmS k9 pl gv (n, b, fl, me, st, lk, cm, v, nu)).2.2.2.1) = fl := by first | (rw [hk]; simp [dmS, enM, hv, etn]; done) | (rw [hk]; simp [dmS, enM, hv]; done) | (rw [hk]; simp [dmS, enM, hv, hv2, etn]; done) | (rw [hk]; rfl)
      have ew0_me : ((dmS k9 pl gv (n, b, fl, me, st, lk, cm, v, nu)).2.2.2.2.1) = me := by first | (rw [hk]; simp [dmS, enM, hv, etn]; done) | (rw [hk]; simp [dmS, enM, hv]; done) | (rw [hk]; simp [dmS, enM, hv, hv2, etn]; done) | (rw [hk]; rfl)
      have ew0_st : ((dmS k9 pl gv (n, b, fl, me, st, lk, cm, v, nu)).2.2.2.2.2.1) = (st + (lN (eL me fl (n + 1) b (insA v n n gv)).length)) := by first | (rw [hk]; simp [dmS, enM, hv, etn]; done) | (rw [hk]; simp [dmS, enM, hv]; done) | (rw [hk]; simp [dmS, enM, hv, hv2, etn]; done) | (rw [hk]; rfl)
      have ew0_lk : ((dmS k9 pl gv (n, b, fl, me, st, lk, cm, v, nu)).2.2.2.2.2.2.1) = lk := by first | (rw [hk]; simp [dmS, enM, hv, etn]; done) | (rw [hk]; simp [dmS, enM, hv]; done) | (rw [hk]; simp [dmS, enM, hv, hv2, etn]; done) | (rw [hk]; rfl)
      have ew0_cm : ((dmS k9 pl gv (n, b, fl, me, st, lk, cm, v, nu)).2.2.2.2.2.2.2.1) = (cm + (lN 1)) := by first | (rw [hk]; simp [dmS, enM, hv, etn]; done) | (rw [hk]; simp [dmS, enM, hv]; done) | (rw [hk]; simp [dmS, enM, hv, hv2, etn]; done) | (rw [hk]; rfl)
      have ew0_v : ((dmS k9 pl gv (n, b, fl, me, st, lk, cm, v, nu)).2.2.2.2.2.2.2.2.1) = (sws (insA v n n gv) (eL me fl (n + 1) b (insA v n n gv))) := by first | (rw [hk]; simp [dmS, enM, hv, etn]; done) | (rw [hk]; simp [dmS, enM, hv]; done) | (rw [hk]; simp [dmS, enM, hv, hv2, etn]; done) | (rw [hk]; rfl)
      have ew0_nu : ((dmS k9 pl gv (n, b, fl, me, st, lk, cm, v, nu)).2.2.2.2.2.2.2.2.2) = (sws (insA nu n n cm) (eL me fl (n + 1) b (insA v n n gv))) := by first | (rw [hk]; simp [dmS, enM, hv, etn]; done) | (rw [hk]; simp [dmS, enM, hv]; done) | (rw [hk]; simp [dmS, enM, hv, hv2, etn]; done) | (rw [hk]; rfl)
      have ew0_rf : (dmS k9 pl gv (n, b, fl, me, st, lk, cm, v, nu)).1 = 0 := by first | (rw [hk]; simp [dmS, enM, hv, etn]; done) | (rw [hk]; simp [dmS, enM, hv]; done) | (rw [hk]; simp [dmS, enM, hv, hv2, etn]; done) | (rw [hk]; rfl)
      exact wv_vretM hx hb hr hlocks hP hD hS (by rw [ew0_nu, ew0_v, ew0_cm, ew0_lk, ew0_st, ew0_me, ew0_fl, ew0_b, ew0_n, ew0_rf]) dX7_does_129
    · skip
      have hv3 : n = 32 := by omega
      have hv : ¬ n < 32 := by omega
      refine lv_aload_n hx hb dX7_does_44 rfl (lv_at hl 0 rfl) ?_
      refine lv_aload_n hx hb dX7_does_45 rfl (lv_at hl 0 rfl) ?_
      refine va_get (D := D) (ci := 5) (C := RX7) (T := TX7) (N := 15) hx hb hts hinX7 hown hK hP 0 rfl rfl 14 (by decide) (hts (.fieldLink RX7 182 "NearRanksModel" "given" "J") (by decide +kernel)) (fun _ h9 => h9) rfl dX7_does_46 ?_
      refine wv_callMi (As := [.long gv]) (rest := []) (wr := []) (ws1 := ModC mo sa pa ha ta cJ cI (sM n b fl me st lk cm v nu) pt hd tx ps true ty 1 lks lo1 hi1 sp (nI k9) pl gv) ⟨hx, hb, hml, hown, hts⟩ (kX7_append_full l D mo sa pa ha ta cJ cI n b fl me st lk cm v nu pt hd tx ps true ty rf lks lo1 hi1 sp (nI k9) pl gv gv hv3) (cwV 1 hts gX7_does_X7_append rfl rfl rfl (by decide +kernel) ⟨Nat.le_of_ble_eq_true rfl, Nat.le_of_ble_eq_true rfl⟩) hK hN hP hD hS hA [0, 1, 2, 3, 4] [] [0, 1] [0, 1, 2, 3, 4] rfl rfl (by decide) rfl (by decide) (by decide) rfl (by decide) rfl 0 5 rfl rfl rfl rfl hl.1 rfl (Nat.le_of_ble_eq_true rfl) dX7_does_49 ⟨Nat.zero_le _, Nat.zero_le _⟩ (fun H locs hz9 hP hD hS => ?_)
      have hP : va_P D vwCl (ModC mo sa pa ha ta cJ cI (sM n b fl me st lk cm v nu) pt hd tx ps true ty 1 lks lo1 hi1 sp (nI k9) pl gv) H := hP
      have hD : va_D _ (ModC mo sa pa ha ta cJ cI (sM n b fl me st lk cm v nu) pt hd tx ps true ty 1 lks lo1 hi1 sp (nI k9) pl gv) := hD
      refine lv_pop hx hb dX7_does_52 rfl ?_
      refine lv_goto (tgt := 129) hx hb dX7_does_53 (by decide) ?_
      have ew0_n : ((dmS k9 pl gv (n, b, fl, me, st, lk, cm, v, nu)).2.1) = n := by first | (rw [hk]; simp [dmS, enM, hv, etn]; done) | (rw [hk]; simp [dmS, enM, hv]; done) | (rw [hk]; simp [dmS, enM, hv, hv2, etn]; done) | (rw [hk]; rfl)
      have ew0_b : ((dmS k9 pl gv (n, b, fl, me, st, lk, cm, v, nu)).2.2.1) = b := by first | (rw [hk]; simp [dmS, enM, hv, etn]; done) | (rw [hk]; simp [dmS, enM, hv]; done) | (rw [hk]; simp [dmS, enM, hv, hv2, etn]; done) | (rw [hk]; rfl)
      have ew0_fl : ((dmS k9 pl gv (n, b, fl, me, st, lk, cm, v, nu)).2.2.2.1) = fl := by first | (rw [hk]; simp [dmS, enM, hv, etn]; done) | (rw [hk]; simp [dmS, enM, hv]; done) | (rw [hk]; simp [dmS, enM, hv, hv2, etn]; done) | (rw [hk]; rfl)
      have ew0_me : ((dmS k9 pl gv (n, b, fl, me, st, lk, cm, v, nu)).2.2.2.2.1) = me := by first | (rw [hk]; simp [dmS, enM, hv, etn]; done) | (rw [hk]; simp [dmS, enM, hv]; done) | (rw [hk]; simp [dmS, enM, hv, hv2, etn]; done) | (rw [hk]; rfl)
      have ew0_st : ((dmS k9 pl gv (n, b, fl, me, st, lk, cm, v, nu)).2.2.2.2.2.1) = st := by first | (rw [hk]; simp [dmS, enM, hv, etn]; done) | (rw [hk]; simp [dmS, enM, hv]; done) | (rw [hk]; simp [dmS, enM, hv, hv2, etn]; done) | (rw [hk]; rfl)
      have ew0_lk : ((dmS k9 pl gv (n, b, fl, me, st, lk, cm, v, nu)).2.2.2.2.2.2.1) = lk := by first | (rw [hk]; simp [dmS, enM, hv, etn]; done) | (rw [hk]; simp [dmS, enM, hv]; done) | (rw [hk]; simp [dmS, enM, hv, hv2, etn]; done) | (rw [hk]; rfl)
      have ew0_cm : ((dmS k9 pl gv (n, b, fl, me, st, lk, cm, v, nu)).2.2.2.2.2.2.2.1) = cm := by first | (rw [hk]; simp [dmS, enM, hv, etn]; done) | (rw [hk]; simp [dmS, enM, hv]; done) | (rw [hk]; simp [dmS, enM, hv, hv2, etn]; done) | (rw [hk]; rfl)
      have ew0_v : ((dmS k9 pl gv (n, b, fl, me, st, lk, cm, v, nu)).2.2.2.2.2.2.2.2.1) = v := by first | (rw [hk]; simp [dmS, enM, hv, etn]; done) | (rw [hk]; simp [dmS, enM, hv]; done) | (rw [hk]; simp [dmS, enM, hv, hv2, etn]; done) | (rw [hk]; rfl)
      have ew0_nu : ((dmS k9 pl gv (n, b, fl, me, st, lk, cm, v, nu)).2.2.2.2.2.2.2.2.2) = nu := by first | (rw [hk]; simp [dmS, enM, hv, etn]; done) | (rw [hk]; simp [dmS, enM, hv]; done) | (rw [hk]; simp [dmS, enM, hv, hv2, etn]; done) | (rw [hk]; rfl)
      have ew0_rf : (dmS k9 pl gv (n, b, fl, me, st, lk, cm, v, nu)).1 = 1 := by first | (rw [hk]; simp [dmS, enM, hv, etn]; done) | (rw [hk]; simp [dmS, enM, hv]; done) | (rw [hk]; simp [dmS, enM, hv, hv2, etn]; done) | (rw [hk]; rfl)
      exact wv_vretM hx hb hr hlocks hP hD hS (by rw [ew0_nu, ew0_v, ew0_cm, ew0_lk, ew0_st, ew0_me, ew0_fl, ew0_b, ew0_n, ew0_rf]) dX7_does_129
  · skip
    refine lv_aload_n hx hb dX7_does_0 rfl (lv_at hl 0 rfl) ?_
    refine va_get (D := D) (ci := 5) (C := RX7) (T := TX7) (N := 15) hx hb hts hinX7 hown hK hP 0 rfl rfl 12 (by decide) (hts (.fieldLink RX7 196 "NearRanksModel" "command" "I") (by decide +kernel)) (fun _ h9 => h9) rfl dX7_does_1 ?_
    refine wv_ti (y := nI 1) (by rw [hk]) ?_
    refine lv_tableIn (tgt := 56) hx hb dX7_does_4 (by decide) (by decide) rfl (by decide) ?_
    rcases Bool.eq_false_or_eq_true (opn pl n) with hv | hv
    · skip
      obtain ⟨j, hj, ej⟩ := opn_k hv (by omega)
      have etn : pl.toNatClampNeg = j := by rw [ej]; exact nI_clamp (by omega)
      refine lv_aload_n hx hb dX7_does_56 rfl (lv_at hl 0 rfl) ?_
      rcases Nat.lt_or_ge n 32 with hv2 | hv2
      · skip
        refine lv_aload_n hx hb dX7_does_57 rfl (lv_at hl 0 rfl) ?_
        refine va_get (D := D) (ci := 5) (C := RX7) (T := TX7) (N := 15) hx hb hts hinX7 hown hK hP 0 rfl rfl 13 (by decide) (hts (.fieldLink RX7 186 "NearRanksModel" "place" "I") (by decide +kernel)) (fun _ h9 => h9) rfl dX7_does_58 ?_
        refine wv_ti (y := nI j) ej ?_
        refine lv_aload_n hx hb dX7_does_61 rfl (lv_at hl 0 rfl) ?_
        refine va_get (D := D) (ci := 5) (C := RX7) (T := TX7) (N := 15) hx hb hts hinX7 hown hK hP 0 rfl rfl 14 (by decide) (hts (.fieldLink RX7 182 "NearRanksModel" "given" "J") (by decide +kernel)) (fun _ h9 => h9) rfl dX7_does_62 ?_
        refine wv_callMi (As := [.int (nI j), .long gv]) (rest := []) (wr := []) (ws1 := ModC mo sa pa ha ta cJ cI (sM (n + 1) b fl me (st + (lN (eL me fl (n + 1) b (insA v n j gv)).length)) lk (cm + (lN 1)) (sws (insA v n j gv) (eL me fl (n + 1) b (insA v n j gv))) (sws (insA nu n j cm) (eL me fl (n + 1) b (insA v n j gv)))) (svP true pt ps (sM n b fl me st lk cm v nu)) hd tx (svN true ps) true ty 0 lks lo1 hi1 sp (nI k9) pl gv) ⟨hx, hb, hml, hown, hts⟩ (kX7_insert l D mo sa pa ha ta cJ cI n b fl me st lk cm v nu pt hd tx ps true ty rf lks lo1 hi1 sp (nI k9) pl gv j gv (by first | assumption | omega) (by first | assumption | omega) (by first | assumption | omega) (by first | assumption | omega)) (cwV 2 hts gX7_does_X7_insert rfl rfl rfl (by decide +kernel) ⟨Nat.le_of_ble_eq_true rfl, Nat.le_of_ble_eq_true rfl⟩) hK hN hP hD hS hA [0, 1, 2, 3, 4] [] [0, 1] [0, 1, 2, 3, 4] rfl rfl (by decide) rfl (by decide) (by decide) rfl (by decide) rfl 0 5 rfl rfl rfl rfl hl.1 rfl (Nat.le_of_ble_eq_true rfl) dX7_does_65 ⟨Nat.zero_le _, Nat.zero_le _⟩ (fun H locs hz9 hP hD hS => ?_)
        have hP : va_P D vwCl (ModC mo sa pa ha ta cJ cI (sM (n + 1) b fl me (st + (lN (eL me fl (n + 1) b (insA v n j gv)).length)) lk (cm + (lN 1)) (sws (insA v n j gv) (eL me fl (n + 1) b (insA v n j gv))) (sws (insA nu n j cm) (eL me fl (n + 1) b (insA v n j gv)))) (svP true pt ps (sM n b fl me st lk cm v nu)) hd tx (svN true ps) true ty 0 lks lo1 hi1 sp (nI k9) pl gv) H := hP
        have hD : va_D _ (ModC mo sa pa ha ta cJ cI (sM (n + 1) b fl me (st + (lN (eL me fl (n + 1) b (insA v n j gv)).length)) lk (cm + (lN 1)) (sws (insA v n j gv) (eL me fl (n + 1) b (insA v n j gv))) (sws (insA nu n j cm) (eL me fl (n + 1) b (insA v n j gv)))) (svP true pt ps (sM n b fl me st lk cm v nu)) hd tx (svN true ps) true ty 0 lks lo1 hi1 sp (nI k9) pl gv) := hD
        have er : svP true pt ps (sM n b fl me st lk cm v nu) = pt := rfl
        rw [er] at hP hD
        clear er
        have er : svN true ps = ps := rfl
        rw [er] at hP hD
        clear er
        refine lv_pop hx hb dX7_does_68 rfl ?_
        refine lv_goto (tgt := 129) hx hb dX7_does_69 (by decide) ?_
        have ew0_n : ((dmS k9 pl gv (n, b, fl, me, st, lk, cm, v, nu)).2.1) = (n + 1) := by first | (rw [hk]; simp [dmS, enM, hv, etn]; done) | (rw [hk]; simp [dmS, enM, hv]; done) | (rw [hk]; simp [dmS, enM, hv, hv2, etn]; done) | (rw [hk]; rfl)
        have ew0_b : ((dmS k9 pl gv (n, b, fl, me, st, lk, cm, v, nu)).2.2.1) = b := by first | (rw [hk]; simp [dmS, enM, hv, etn]; done) | (rw [hk]; simp [dmS, enM, hv]; done) | (rw [hk]; simp [dmS, enM, hv, hv2, etn]; done) | (rw [hk]; rfl)
        have ew0_fl : ((dmS k9 pl gv (n, b, fl, me, st, lk, cm, v, nu)).2.2.2.1) = fl := by first | (rw [hk]; simp [dmS, enM, hv, etn]; done) | (rw [hk]; simp [dmS, enM, hv]; done) | (rw [hk]; simp [dmS, enM, hv, hv2, etn]; done) | (rw [hk]; rfl)
        have ew0_me : ((dmS k9 pl gv (n, b, fl, me, st, lk, cm, v, nu)).2.2.2.2.1) = me := by first | (rw [hk]; simp [dmS, enM, hv, etn]; done) | (rw [hk]; simp [dmS, enM, hv]; done) | (rw [hk]; simp [dmS, enM, hv, hv2, etn]; done) | (rw [hk]; rfl)
        have ew0_st : ((dmS k9 pl gv (n, b, fl, me, st, lk, cm, v, nu)).2.2.2.2.2.1) = (st + (lN (eL me fl (n + 1) b (insA v n j gv)).length)) := by first | (rw [hk]; simp [dmS, enM, hv, etn]; done) | (rw [hk]; simp [dmS, enM, hv]; done) | (rw [hk]; simp [dmS, enM, hv, hv2, etn]; done) | (rw [hk]; rfl)
        have ew0_lk : ((dmS k9 pl gv (n, b, fl, me, st, lk, cm, v, nu)).2.2.2.2.2.2.1) = lk := by first | (rw [hk]; simp [dmS, enM, hv, etn]; done) | (rw [hk]; simp [dmS, enM, hv]; done) | (rw [hk]; simp [dmS, enM, hv, hv2, etn]; done) | (rw [hk]; rfl)
        have ew0_cm : ((dmS k9 pl gv (n, b, fl, me, st, lk, cm, v, nu)).2.2.2.2.2.2.2.1) = (cm + (lN 1)) := by first | (rw [hk]; simp [dmS, enM, hv, etn]; done) | (rw [hk]; simp [dmS, enM, hv]; done) | (rw [hk]; simp [dmS, enM, hv, hv2, etn]; done) | (rw [hk]; rfl)
        have ew0_v : ((dmS k9 pl gv (n, b, fl, me, st, lk, cm, v, nu)).2.2.2.2.2.2.2.2.1) = (sws (insA v n j gv) (eL me fl (n + 1) b (insA v n j gv))) := by first | (rw [hk]; simp [dmS, enM, hv, etn]; done) | (rw [hk]; simp [dmS, enM, hv]; done) | (rw [hk]; simp [dmS, enM, hv, hv2, etn]; done) | (rw [hk]; rfl)
        have ew0_nu : ((dmS k9 pl gv (n, b, fl, me, st, lk, cm, v, nu)).2.2.2.2.2.2.2.2.2) = (sws (insA nu n j cm) (eL me fl (n + 1) b (insA v n j gv))) := by first | (rw [hk]; simp [dmS, enM, hv, etn]; done) | (rw [hk]; simp [dmS, enM, hv]; done) | (rw [hk]; simp [dmS, enM, hv, hv2, etn]; done) | (rw [hk]; rfl)
        have ew0_rf : (dmS k9 pl gv (n, b, fl, me, st, lk, cm, v, nu)).1 = 0 := by first | (rw [hk]; simp [dmS, enM, hv, etn]; done) | (rw [hk]; simp [dmS, enM, hv]; done) | (rw [hk]; simp [dmS, enM, hv, hv2, etn]; done) | (rw [hk]; rfl)
        exact wv_vretM hx hb hr hlocks hP hD hS (by rw [ew0_nu, ew0_v, ew0_cm, ew0_lk, ew0_st, ew0_me, ew0_fl, ew0_b, ew0_n, ew0_rf]) dX7_does_129
      · skip
        have hv3 : n = 32 := by omega
        have hv2 : ¬ n < 32 := by omega
        refine lv_aload_n hx hb dX7_does_57 rfl (lv_at hl 0 rfl) ?_
        refine va_get (D := D) (ci := 5) (C := RX7) (T := TX7) (N := 15) hx hb hts hinX7 hown hK hP 0 rfl rfl 13 (by decide) (hts (.fieldLink RX7 186 "NearRanksModel" "place" "I") (by decide +kernel)) (fun _ h9 => h9) rfl dX7_does_58 ?_
        refine wv_ti (y := nI j) ej ?_
        refine lv_aload_n hx hb dX7_does_61 rfl (lv_at hl 0 rfl) ?_
        refine va_get (D := D) (ci := 5) (C := RX7) (T := TX7) (N := 15) hx hb hts hinX7 hown hK hP 0 rfl rfl 14 (by decide) (hts (.fieldLink RX7 182 "NearRanksModel" "given" "J") (by decide +kernel)) (fun _ h9 => h9) rfl dX7_does_62 ?_
        refine wv_callMi (As := [.int (nI j), .long gv]) (rest := []) (wr := []) (ws1 := ModC mo sa pa ha ta cJ cI (sM n b fl me st lk cm v nu) pt hd tx ps true ty 2 lks lo1 hi1 sp (nI k9) pl gv) ⟨hx, hb, hml, hown, hts⟩ (kX7_insert_full l D mo sa pa ha ta cJ cI n b fl me st lk cm v nu pt hd tx ps true ty rf lks lo1 hi1 sp (nI k9) pl gv j gv hv3 (by first | assumption | omega)) (cwV 2 hts gX7_does_X7_insert rfl rfl rfl (by decide +kernel) ⟨Nat.le_of_ble_eq_true rfl, Nat.le_of_ble_eq_true rfl⟩) hK hN hP hD hS hA [0, 1, 2, 3, 4] [] [0, 1] [0, 1, 2, 3, 4] rfl rfl (by decide) rfl (by decide) (by decide) rfl (by decide) rfl 0 5 rfl rfl rfl rfl hl.1 rfl (Nat.le_of_ble_eq_true rfl) dX7_does_65 ⟨Nat.zero_le _, Nat.zero_le _⟩ (fun H locs hz9 hP hD hS => ?_)
        have hP : va_P D vwCl (ModC mo sa pa ha ta cJ cI (sM n b fl me st lk cm v nu) pt hd tx ps true ty 2 lks lo1 hi1 sp (nI k9) pl gv) H := hP
        have hD : va_D _ (ModC mo sa pa ha ta cJ cI (sM n b fl me st lk cm v nu) pt hd tx ps true ty 2 lks lo1 hi1 sp (nI k9) pl gv) := hD
        refine lv_pop hx hb dX7_does_68 rfl ?_
        refine lv_goto (tgt := 129) hx hb dX7_does_69 (by decide) ?_
        have ew0_n : ((dmS k9 pl gv (n, b, fl, me, st, lk, cm, v, nu)).2.1) = n := by first | (rw [hk]; simp [dmS, enM, hv, etn]; done) | (rw [hk]; simp [dmS, enM, hv]; done) | (rw [hk]; simp [dmS, enM, hv, hv2, etn]; done) | (rw [hk]; rfl)
        have ew0_b : ((dmS k9 pl gv (n, b, fl, me, st, lk, cm, v, nu)).2.2.1) = b := by first | (rw [hk]; simp [dmS, enM, hv, etn]; done) | (rw [hk]; simp [dmS, enM, hv]; done) | (rw [hk]; simp [dmS, enM, hv, hv2, etn]; done) | (rw [hk]; rfl)
        have ew0_fl : ((dmS k9 pl gv (n, b, fl, me, st, lk, cm, v, nu)).2.2.2.1) = fl := by first | (rw [hk]; simp [dmS, enM, hv, etn]; done) | (rw [hk]; simp [dmS, enM, hv]; done) | (rw [hk]; simp [dmS, enM, hv, hv2, etn]; done) | (rw [hk]; rfl)
        have ew0_me : ((dmS k9 pl gv (n, b, fl, me, st, lk, cm, v, nu)).2.2.2.2.1) = me := by first | (rw [hk]; simp [dmS, enM, hv, etn]; done) | (rw [hk]; simp [dmS, enM, hv]; done) | (rw [hk]; simp [dmS, enM, hv, hv2, etn]; done) | (rw [hk]; rfl)
        have ew0_st : ((dmS k9 pl gv (n, b, fl, me, st, lk, cm, v, nu)).2.2.2.2.2.1) = st := by first | (rw [hk]; simp [dmS, enM, hv, etn]; done) | (rw [hk]; simp [dmS, enM, hv]; done) | (rw [hk]; simp [dmS, enM, hv, hv2, etn]; done) | (rw [hk]; rfl)
        have ew0_lk : ((dmS k9 pl gv (n, b, fl, me, st, lk, cm, v, nu)).2.2.2.2.2.2.1) = lk := by first | (rw [hk]; simp [dmS, enM, hv, etn]; done) | (rw [hk]; simp [dmS, enM, hv]; done) | (rw [hk]; simp [dmS, enM, hv, hv2, etn]; done) | (rw [hk]; rfl)
        have ew0_cm : ((dmS k9 pl gv (n, b, fl, me, st, lk, cm, v, nu)).2.2.2.2.2.2.2.1) = cm := by first | (rw [hk]; simp [dmS, enM, hv, etn]; done) | (rw [hk]; simp [dmS, enM, hv]; done) | (rw [hk]; simp [dmS, enM, hv, hv2, etn]; done) | (rw [hk]; rfl)
        have ew0_v : ((dmS k9 pl gv (n, b, fl, me, st, lk, cm, v, nu)).2.2.2.2.2.2.2.2.1) = v := by first | (rw [hk]; simp [dmS, enM, hv, etn]; done) | (rw [hk]; simp [dmS, enM, hv]; done) | (rw [hk]; simp [dmS, enM, hv, hv2, etn]; done) | (rw [hk]; rfl)
        have ew0_nu : ((dmS k9 pl gv (n, b, fl, me, st, lk, cm, v, nu)).2.2.2.2.2.2.2.2.2) = nu := by first | (rw [hk]; simp [dmS, enM, hv, etn]; done) | (rw [hk]; simp [dmS, enM, hv]; done) | (rw [hk]; simp [dmS, enM, hv, hv2, etn]; done) | (rw [hk]; rfl)
        have ew0_rf : (dmS k9 pl gv (n, b, fl, me, st, lk, cm, v, nu)).1 = 2 := by first | (rw [hk]; simp [dmS, enM, hv, etn]; done) | (rw [hk]; simp [dmS, enM, hv]; done) | (rw [hk]; simp [dmS, enM, hv, hv2, etn]; done) | (rw [hk]; rfl)
        exact wv_vretM hx hb hr hlocks hP hD hS (by rw [ew0_nu, ew0_v, ew0_cm, ew0_lk, ew0_st, ew0_me, ew0_fl, ew0_b, ew0_n, ew0_rf]) dX7_does_129
    · skip
      refine lv_aload_n hx hb dX7_does_56 rfl (lv_at hl 0 rfl) ?_
      have hv2 : True := trivial
      · skip
        refine lv_aload_n hx hb dX7_does_57 rfl (lv_at hl 0 rfl) ?_
        refine va_get (D := D) (ci := 5) (C := RX7) (T := TX7) (N := 15) hx hb hts hinX7 hown hK hP 0 rfl rfl 13 (by decide) (hts (.fieldLink RX7 186 "NearRanksModel" "place" "I") (by decide +kernel)) (fun _ h9 => h9) rfl dX7_does_58 ?_
        refine lv_aload_n hx hb dX7_does_61 rfl (lv_at hl 0 rfl) ?_
        refine va_get (D := D) (ci := 5) (C := RX7) (T := TX7) (N := 15) hx hb hts hinX7 hown hK hP 0 rfl rfl 14 (by decide) (hts (.fieldLink RX7 182 "NearRanksModel" "given" "J") (by decide +kernel)) (fun _ h9 => h9) rfl dX7_does_62 ?_
        refine wv_callMi (As := [.int pl, .long gv]) (rest := []) (wr := []) (ws1 := ModC mo sa pa ha ta cJ cI (sM n b fl me st lk cm v nu) pt hd tx ps true ty 1 lks lo1 hi1 sp (nI k9) pl gv) ⟨hx, hb, hml, hown, hts⟩ (kX7_insert_bad l D mo sa pa ha ta cJ cI n b fl me st lk cm v nu pt hd tx ps true ty rf lks lo1 hi1 sp (nI k9) pl gv pl gv (by first | assumption | omega) hv) (cwV 2 hts gX7_does_X7_insert rfl rfl rfl (by decide +kernel) ⟨Nat.le_of_ble_eq_true rfl, Nat.le_of_ble_eq_true rfl⟩) hK hN hP hD hS hA [0, 1, 2, 3, 4] [] [0, 1] [0, 1, 2, 3, 4] rfl rfl (by decide) rfl (by decide) (by decide) rfl (by decide) rfl 0 5 rfl rfl rfl rfl hl.1 rfl (Nat.le_of_ble_eq_true rfl) dX7_does_65 ⟨Nat.zero_le _, Nat.zero_le _⟩ (fun H locs hz9 hP hD hS => ?_)
        have hP : va_P D vwCl (ModC mo sa pa ha ta cJ cI (sM n b fl me st lk cm v nu) pt hd tx ps true ty 1 lks lo1 hi1 sp (nI k9) pl gv) H := hP
        have hD : va_D _ (ModC mo sa pa ha ta cJ cI (sM n b fl me st lk cm v nu) pt hd tx ps true ty 1 lks lo1 hi1 sp (nI k9) pl gv) := hD
        refine lv_pop hx hb dX7_does_68 rfl ?_
        refine lv_goto (tgt := 129) hx hb dX7_does_69 (by decide) ?_
        have ew0_n : ((dmS k9 pl gv (n, b, fl, me, st, lk, cm, v, nu)).2.1) = n := by first | (rw [hk]; simp [dmS, enM, hv, etn]; done) | (rw [hk]; simp [dmS, enM, hv]; done) | (rw [hk]; simp [dmS, enM, hv, hv2, etn]; done) | (rw [hk]; rfl)
        have ew0_b : ((dmS k9 pl gv (n, b, fl, me, st, lk, cm, v, nu)).2.2.1) = b := by first | (rw [hk]; simp [dmS, enM, hv, etn]; done) | (rw [hk]; simp [dmS, enM, hv]; done) | (rw [hk]; simp [dmS, enM, hv, hv2, etn]; done) | (rw [hk]; rfl)
        have ew0_fl : ((dmS k9 pl gv (n, b, fl, me, st, lk, cm, v, nu)).2.2.2.1) = fl := by first | (rw [hk]; simp [dmS, enM, hv, etn]; done) | (rw [hk]; simp [dmS, enM, hv]; done) | (rw [hk]; simp [dmS, enM, hv, hv2, etn]; done) | (rw [hk]; rfl)
        have ew0_me : ((dmS k9 pl gv (n, b, fl, me, st, lk, cm, v, nu)).2.2.2.2.1) = me := by first | (rw [hk]; simp [dmS, enM, hv, etn]; done) | (rw [hk]; simp [dmS, enM, hv]; done) | (rw [hk]; simp [dmS, enM, hv, hv2, etn]; done) | (rw [hk]; rfl)
        have ew0_st : ((dmS k9 pl gv (n, b, fl, me, st, lk, cm, v, nu)).2.2.2.2.2.1) = st := by first | (rw [hk]; simp [dmS, enM, hv, etn]; done) | (rw [hk]; simp [dmS, enM, hv]; done) | (rw [hk]; simp [dmS, enM, hv, hv2, etn]; done) | (rw [hk]; rfl)
        have ew0_lk : ((dmS k9 pl gv (n, b, fl, me, st, lk, cm, v, nu)).2.2.2.2.2.2.1) = lk := by first | (rw [hk]; simp [dmS, enM, hv, etn]; done) | (rw [hk]; simp [dmS, enM, hv]; done) | (rw [hk]; simp [dmS, enM, hv, hv2, etn]; done) | (rw [hk]; rfl)
        have ew0_cm : ((dmS k9 pl gv (n, b, fl, me, st, lk, cm, v, nu)).2.2.2.2.2.2.2.1) = cm := by first | (rw [hk]; simp [dmS, enM, hv, etn]; done) | (rw [hk]; simp [dmS, enM, hv]; done) | (rw [hk]; simp [dmS, enM, hv, hv2, etn]; done) | (rw [hk]; rfl)
        have ew0_v : ((dmS k9 pl gv (n, b, fl, me, st, lk, cm, v, nu)).2.2.2.2.2.2.2.2.1) = v := by first | (rw [hk]; simp [dmS, enM, hv, etn]; done) | (rw [hk]; simp [dmS, enM, hv]; done) | (rw [hk]; simp [dmS, enM, hv, hv2, etn]; done) | (rw [hk]; rfl)
        have ew0_nu : ((dmS k9 pl gv (n, b, fl, me, st, lk, cm, v, nu)).2.2.2.2.2.2.2.2.2) = nu := by first | (rw [hk]; simp [dmS, enM, hv, etn]; done) | (rw [hk]; simp [dmS, enM, hv]; done) | (rw [hk]; simp [dmS, enM, hv, hv2, etn]; done) | (rw [hk]; rfl)
        have ew0_rf : (dmS k9 pl gv (n, b, fl, me, st, lk, cm, v, nu)).1 = 1 := by first | (rw [hk]; simp [dmS, enM, hv, etn]; done) | (rw [hk]; simp [dmS, enM, hv]; done) | (rw [hk]; simp [dmS, enM, hv, hv2, etn]; done) | (rw [hk]; rfl)
        exact wv_vretM hx hb hr hlocks hP hD hS (by rw [ew0_nu, ew0_v, ew0_cm, ew0_lk, ew0_st, ew0_me, ew0_fl, ew0_b, ew0_n, ew0_rf]) dX7_does_129
  · skip
    refine lv_aload_n hx hb dX7_does_0 rfl (lv_at hl 0 rfl) ?_
    refine va_get (D := D) (ci := 5) (C := RX7) (T := TX7) (N := 15) hx hb hts hinX7 hown hK hP 0 rfl rfl 12 (by decide) (hts (.fieldLink RX7 196 "NearRanksModel" "command" "I") (by decide +kernel)) (fun _ h9 => h9) rfl dX7_does_1 ?_
    refine wv_ti (y := nI 2) (by rw [hk]) ?_
    refine lv_tableIn (tgt := 72) hx hb dX7_does_4 (by decide) (by decide) rfl (by decide) ?_
    rcases Bool.eq_false_or_eq_true (inR pl n) with hv | hv
    · skip
      obtain ⟨j, hj, ej⟩ := inR_k hv (by omega)
      have etn : pl.toNatClampNeg = j := by rw [ej]; exact nI_clamp (by omega)
      refine lv_aload_n hx hb dX7_does_72 rfl (lv_at hl 0 rfl) ?_
      refine lv_aload_n hx hb dX7_does_73 rfl (lv_at hl 0 rfl) ?_
      refine va_get (D := D) (ci := 5) (C := RX7) (T := TX7) (N := 15) hx hb hts hinX7 hown hK hP 0 rfl rfl 13 (by decide) (hts (.fieldLink RX7 186 "NearRanksModel" "place" "I") (by decide +kernel)) (fun _ h9 => h9) rfl dX7_does_74 ?_
      refine wv_ti (y := nI j) ej ?_
      refine wv_callMi (As := [.int (nI j)]) (rest := []) (wr := []) (ws1 := ModC mo sa pa ha ta cJ cI (sM (n - 1) b fl me (st + (lN (eL me fl (n - 1) b (cla v j (n - 1))).length)) lk cm (sws (cla v j (n - 1)) (eL me fl (n - 1) b (cla v j (n - 1)))) (sws (cla nu j (n - 1)) (eL me fl (n - 1) b (cla v j (n - 1))))) (svP true pt ps (sM n b fl me st lk cm v nu)) hd tx (svN true ps) true ty 0 lks lo1 hi1 sp (nI k9) pl gv) ⟨hx, hb, hml, hown, hts⟩ (kX7_removeAt l D mo sa pa ha ta cJ cI n b fl me st lk cm v nu pt hd tx ps true ty rf lks lo1 hi1 sp (nI k9) pl gv j (by first | assumption | omega) (by first | assumption | omega) (by first | assumption | omega) (by first | assumption | omega)) (cwV 1 hts gX7_does_X7_removeAt rfl rfl rfl (by decide +kernel) ⟨Nat.le_of_ble_eq_true rfl, Nat.le_of_ble_eq_true rfl⟩) hK hN hP hD hS hA [0, 1, 2, 3, 4] [] [0, 1] [0, 1, 2, 3, 4] rfl rfl (by decide) rfl (by decide) (by decide) rfl (by decide) rfl 0 5 rfl rfl rfl rfl hl.1 rfl (Nat.le_of_ble_eq_true rfl) dX7_does_77 ⟨Nat.zero_le _, Nat.zero_le _⟩ (fun H locs hz9 hP hD hS => ?_)
      have hP : va_P D vwCl (ModC mo sa pa ha ta cJ cI (sM (n - 1) b fl me (st + (lN (eL me fl (n - 1) b (cla v j (n - 1))).length)) lk cm (sws (cla v j (n - 1)) (eL me fl (n - 1) b (cla v j (n - 1)))) (sws (cla nu j (n - 1)) (eL me fl (n - 1) b (cla v j (n - 1))))) (svP true pt ps (sM n b fl me st lk cm v nu)) hd tx (svN true ps) true ty 0 lks lo1 hi1 sp (nI k9) pl gv) H := hP
      have hD : va_D _ (ModC mo sa pa ha ta cJ cI (sM (n - 1) b fl me (st + (lN (eL me fl (n - 1) b (cla v j (n - 1))).length)) lk cm (sws (cla v j (n - 1)) (eL me fl (n - 1) b (cla v j (n - 1)))) (sws (cla nu j (n - 1)) (eL me fl (n - 1) b (cla v j (n - 1))))) (svP true pt ps (sM n b fl me st lk cm v nu)) hd tx (svN true ps) true ty 0 lks lo1 hi1 sp (nI k9) pl gv) := hD
      have er : svP true pt ps (sM n b fl me st lk cm v nu) = pt := rfl
      rw [er] at hP hD
      clear er
      have er : svN true ps = ps := rfl
      rw [er] at hP hD
      clear er
      refine lv_pop hx hb dX7_does_80 rfl ?_
      refine lv_goto (tgt := 129) hx hb dX7_does_81 (by decide) ?_
      have ew0_n : ((dmS k9 pl gv (n, b, fl, me, st, lk, cm, v, nu)).2.1) = (n - 1) := by first | (rw [hk]; simp [dmS, enM, hv, etn]; done) | (rw [hk]; simp [dmS, enM, hv]; done) | (rw [hk]; simp [dmS, enM, hv, hv2, etn]; done) | (rw [hk]; rfl)
      have ew0_b : ((dmS k9 pl gv (n, b, fl, me, st, lk, cm, v, nu)).2.2.1) = b := by first | (rw [hk]; simp [dmS, enM, hv, etn]; done) | (rw [hk]; simp [dmS, enM, hv]; done) | (rw [hk]; simp [dmS, enM, hv, hv2, etn]; done) | (rw [hk]; rfl)
      have ew0_fl : ((dmS k9 pl gv (n, b, fl, me, st, lk, cm, v, nu)).2.2.2.1) = fl := by first | (rw [hk]; simp [dmS, enM, hv, etn]; done) | (rw [hk]; simp [dmS, enM, hv]; done) | (rw [hk]; simp [dmS, enM, hv, hv2, etn]; done) | (rw [hk]; rfl)
      have ew0_me : ((dmS k9 pl gv (n, b, fl, me, st, lk, cm, v, nu)).2.2.2.2.1) = me := by first | (rw [hk]; simp [dmS, enM, hv, etn]; done) | (rw [hk]; simp [dmS, enM, hv]; done) | (rw [hk]; simp [dmS, enM, hv, hv2, etn]; done) | (rw [hk]; rfl)
      have ew0_st : ((dmS k9 pl gv (n, b, fl, me, st, lk, cm, v, nu)).2.2.2.2.2.1) = (st + (lN (eL me fl (n - 1) b (cla v j (n - 1))).length)) := by first | (rw [hk]; simp [dmS, enM, hv, etn]; done) | (rw [hk]; simp [dmS, enM, hv]; done) | (rw [hk]; simp [dmS, enM, hv, hv2, etn]; done) | (rw [hk]; rfl)
      have ew0_lk : ((dmS k9 pl gv (n, b, fl, me, st, lk, cm, v, nu)).2.2.2.2.2.2.1) = lk := by first | (rw [hk]; simp [dmS, enM, hv, etn]; done) | (rw [hk]; simp [dmS, enM, hv]; done) | (rw [hk]; simp [dmS, enM, hv, hv2, etn]; done) | (rw [hk]; rfl)
      have ew0_cm : ((dmS k9 pl gv (n, b, fl, me, st, lk, cm, v, nu)).2.2.2.2.2.2.2.1) = cm := by first | (rw [hk]; simp [dmS, enM, hv, etn]; done) | (rw [hk]; simp [dmS, enM, hv]; done) | (rw [hk]; simp [dmS, enM, hv, hv2, etn]; done) | (rw [hk]; rfl)
      have ew0_v : ((dmS k9 pl gv (n, b, fl, me, st, lk, cm, v, nu)).2.2.2.2.2.2.2.2.1) = (sws (cla v j (n - 1)) (eL me fl (n - 1) b (cla v j (n - 1)))) := by first | (rw [hk]; simp [dmS, enM, hv, etn]; done) | (rw [hk]; simp [dmS, enM, hv]; done) | (rw [hk]; simp [dmS, enM, hv, hv2, etn]; done) | (rw [hk]; rfl)
      have ew0_nu : ((dmS k9 pl gv (n, b, fl, me, st, lk, cm, v, nu)).2.2.2.2.2.2.2.2.2) = (sws (cla nu j (n - 1)) (eL me fl (n - 1) b (cla v j (n - 1)))) := by first | (rw [hk]; simp [dmS, enM, hv, etn]; done) | (rw [hk]; simp [dmS, enM, hv]; done) | (rw [hk]; simp [dmS, enM, hv, hv2, etn]; done) | (rw [hk]; rfl)
      have ew0_rf : (dmS k9 pl gv (n, b, fl, me, st, lk, cm, v, nu)).1 = 0 := by first | (rw [hk]; simp [dmS, enM, hv, etn]; done) | (rw [hk]; simp [dmS, enM, hv]; done) | (rw [hk]; simp [dmS, enM, hv, hv2, etn]; done) | (rw [hk]; rfl)
      exact wv_vretM hx hb hr hlocks hP hD hS (by rw [ew0_nu, ew0_v, ew0_cm, ew0_lk, ew0_st, ew0_me, ew0_fl, ew0_b, ew0_n, ew0_rf]) dX7_does_129
    · skip
      refine lv_aload_n hx hb dX7_does_72 rfl (lv_at hl 0 rfl) ?_
      refine lv_aload_n hx hb dX7_does_73 rfl (lv_at hl 0 rfl) ?_
      refine va_get (D := D) (ci := 5) (C := RX7) (T := TX7) (N := 15) hx hb hts hinX7 hown hK hP 0 rfl rfl 13 (by decide) (hts (.fieldLink RX7 186 "NearRanksModel" "place" "I") (by decide +kernel)) (fun _ h9 => h9) rfl dX7_does_74 ?_
      refine wv_callMi (As := [.int pl]) (rest := []) (wr := []) (ws1 := ModC mo sa pa ha ta cJ cI (sM n b fl me st lk cm v nu) pt hd tx ps true ty 1 lks lo1 hi1 sp (nI k9) pl gv) ⟨hx, hb, hml, hown, hts⟩ (kX7_removeAt_bad l D mo sa pa ha ta cJ cI n b fl me st lk cm v nu pt hd tx ps true ty rf lks lo1 hi1 sp (nI k9) pl gv pl (by first | assumption | omega) hv) (cwV 1 hts gX7_does_X7_removeAt rfl rfl rfl (by decide +kernel) ⟨Nat.le_of_ble_eq_true rfl, Nat.le_of_ble_eq_true rfl⟩) hK hN hP hD hS hA [0, 1, 2, 3, 4] [] [0, 1] [0, 1, 2, 3, 4] rfl rfl (by decide) rfl (by decide) (by decide) rfl (by decide) rfl 0 5 rfl rfl rfl rfl hl.1 rfl (Nat.le_of_ble_eq_true rfl) dX7_does_77 ⟨Nat.zero_le _, Nat.zero_le _⟩ (fun H locs hz9 hP hD hS => ?_)
      have hP : va_P D vwCl (ModC mo sa pa ha ta cJ cI (sM n b fl me st lk cm v nu) pt hd tx ps true ty 1 lks lo1 hi1 sp (nI k9) pl gv) H := hP
      have hD : va_D _ (ModC mo sa pa ha ta cJ cI (sM n b fl me st lk cm v nu) pt hd tx ps true ty 1 lks lo1 hi1 sp (nI k9) pl gv) := hD
      refine lv_pop hx hb dX7_does_80 rfl ?_
      refine lv_goto (tgt := 129) hx hb dX7_does_81 (by decide) ?_
      have ew0_n : ((dmS k9 pl gv (n, b, fl, me, st, lk, cm, v, nu)).2.1) = n := by first | (rw [hk]; simp [dmS, enM, hv, etn]; done) | (rw [hk]; simp [dmS, enM, hv]; done) | (rw [hk]; simp [dmS, enM, hv, hv2, etn]; done) | (rw [hk]; rfl)
      have ew0_b : ((dmS k9 pl gv (n, b, fl, me, st, lk, cm, v, nu)).2.2.1) = b := by first | (rw [hk]; simp [dmS, enM, hv, etn]; done) | (rw [hk]; simp [dmS, enM, hv]; done) | (rw [hk]; simp [dmS, enM, hv, hv2, etn]; done) | (rw [hk]; rfl)
      have ew0_fl : ((dmS k9 pl gv (n, b, fl, me, st, lk, cm, v, nu)).2.2.2.1) = fl := by first | (rw [hk]; simp [dmS, enM, hv, etn]; done) | (rw [hk]; simp [dmS, enM, hv]; done) | (rw [hk]; simp [dmS, enM, hv, hv2, etn]; done) | (rw [hk]; rfl)
      have ew0_me : ((dmS k9 pl gv (n, b, fl, me, st, lk, cm, v, nu)).2.2.2.2.1) = me := by first | (rw [hk]; simp [dmS, enM, hv, etn]; done) | (rw [hk]; simp [dmS, enM, hv]; done) | (rw [hk]; simp [dmS, enM, hv, hv2, etn]; done) | (rw [hk]; rfl)
      have ew0_st : ((dmS k9 pl gv (n, b, fl, me, st, lk, cm, v, nu)).2.2.2.2.2.1) = st := by first | (rw [hk]; simp [dmS, enM, hv, etn]; done) | (rw [hk]; simp [dmS, enM, hv]; done) | (rw [hk]; simp [dmS, enM, hv, hv2, etn]; done) | (rw [hk]; rfl)
      have ew0_lk : ((dmS k9 pl gv (n, b, fl, me, st, lk, cm, v, nu)).2.2.2.2.2.2.1) = lk := by first | (rw [hk]; simp [dmS, enM, hv, etn]; done) | (rw [hk]; simp [dmS, enM, hv]; done) | (rw [hk]; simp [dmS, enM, hv, hv2, etn]; done) | (rw [hk]; rfl)
      have ew0_cm : ((dmS k9 pl gv (n, b, fl, me, st, lk, cm, v, nu)).2.2.2.2.2.2.2.1) = cm := by first | (rw [hk]; simp [dmS, enM, hv, etn]; done) | (rw [hk]; simp [dmS, enM, hv]; done) | (rw [hk]; simp [dmS, enM, hv, hv2, etn]; done) | (rw [hk]; rfl)
      have ew0_v : ((dmS k9 pl gv (n, b, fl, me, st, lk, cm, v, nu)).2.2.2.2.2.2.2.2.1) = v := by first | (rw [hk]; simp [dmS, enM, hv, etn]; done) | (rw [hk]; simp [dmS, enM, hv]; done) | (rw [hk]; simp [dmS, enM, hv, hv2, etn]; done) | (rw [hk]; rfl)
      have ew0_nu : ((dmS k9 pl gv (n, b, fl, me, st, lk, cm, v, nu)).2.2.2.2.2.2.2.2.2) = nu := by first | (rw [hk]; simp [dmS, enM, hv, etn]; done) | (rw [hk]; simp [dmS, enM, hv]; done) | (rw [hk]; simp [dmS, enM, hv, hv2, etn]; done) | (rw [hk]; rfl)
      have ew0_rf : (dmS k9 pl gv (n, b, fl, me, st, lk, cm, v, nu)).1 = 1 := by first | (rw [hk]; simp [dmS, enM, hv, etn]; done) | (rw [hk]; simp [dmS, enM, hv]; done) | (rw [hk]; simp [dmS, enM, hv, hv2, etn]; done) | (rw [hk]; rfl)
      exact wv_vretM hx hb hr hlocks hP hD hS (by rw [ew0_nu, ew0_v, ew0_cm, ew0_lk, ew0_st, ew0_me, ew0_fl, ew0_b, ew0_n, ew0_rf]) dX7_does_129
  · skip
    refine lv_aload_n hx hb dX7_does_0 rfl (lv_at hl 0 rfl) ?_
    refine va_get (D := D) (ci := 5) (C := RX7) (T := TX7) (N := 15) hx hb hts hinX7 hown hK hP 0 rfl rfl 12 (by decide) (hts (.fieldLink RX7 196 "NearRanksModel" "command" "I") (by decide +kernel)) (fun _ h9 => h9) rfl dX7_does_1 ?_
    refine wv_ti (y := nI 3) (by rw [hk]) ?_
    refine lv_tableIn (tgt := 84) hx hb dX7_does_4 (by decide) (by decide) rfl (by decide) ?_
    rcases Bool.eq_false_or_eq_true (inR pl n) with hv | hv
    · skip
      obtain ⟨j, hj, ej⟩ := inR_k hv (by omega)
      have etn : pl.toNatClampNeg = j := by rw [ej]; exact nI_clamp (by omega)
      refine lv_aload_n hx hb dX7_does_84 rfl (lv_at hl 0 rfl) ?_
      refine lv_aload_n hx hb dX7_does_85 rfl (lv_at hl 0 rfl) ?_
      refine va_get (D := D) (ci := 5) (C := RX7) (T := TX7) (N := 15) hx hb hts hinX7 hown hK hP 0 rfl rfl 13 (by decide) (hts (.fieldLink RX7 186 "NearRanksModel" "place" "I") (by decide +kernel)) (fun _ h9 => h9) rfl dX7_does_86 ?_
      refine wv_ti (y := nI j) ej ?_
      refine lv_aload_n hx hb dX7_does_89 rfl (lv_at hl 0 rfl) ?_
      refine va_get (D := D) (ci := 5) (C := RX7) (T := TX7) (N := 15) hx hb hts hinX7 hown hK hP 0 rfl rfl 14 (by decide) (hts (.fieldLink RX7 182 "NearRanksModel" "given" "J") (by decide +kernel)) (fun _ h9 => h9) rfl dX7_does_90 ?_
      refine wv_callMl (As := [.int (nI j), .long gv]) (rest := []) (wr := []) (ws1 := ModC mo sa pa ha ta cJ cI (sM n b fl me (st + (lN (eL me fl n b (vp_updL v j gv)).length)) lk cm (sws (vp_updL v j gv) (eL me fl n b (vp_updL v j gv))) (sws nu (eL me fl n b (vp_updL v j gv)))) (svP true pt ps (sM n b fl me st lk cm v nu)) hd tx (svN true ps) true ty 0 lks lo1 hi1 sp (nI k9) pl gv) ⟨hx, hb, hml, hown, hts⟩ (kX7_setValue l D mo sa pa ha ta cJ cI n b fl me st lk cm v nu pt hd tx ps true ty rf lks lo1 hi1 sp (nI k9) pl gv j gv (by first | assumption | omega) (by first | assumption | omega) (by first | assumption | omega) (by first | assumption | omega)) (cwV 2 hts gX7_does_X7_setValue rfl rfl rfl (by decide +kernel) ⟨Nat.le_of_ble_eq_true rfl, Nat.le_of_ble_eq_true rfl⟩) hK hN hP hD hS hA [0, 1, 2, 3, 4] [] [0, 1] [0, 1, 2, 3, 4] rfl rfl (by decide) rfl (by decide) (by decide) rfl (by decide) rfl 0 5 rfl rfl rfl rfl hl.1 rfl (Nat.le_of_ble_eq_true rfl) dX7_does_93 ⟨Nat.zero_le _, Nat.zero_le _⟩ (fun H locs hz9 hP hD hS => ?_)
      have hP : va_P D vwCl (ModC mo sa pa ha ta cJ cI (sM n b fl me (st + (lN (eL me fl n b (vp_updL v j gv)).length)) lk cm (sws (vp_updL v j gv) (eL me fl n b (vp_updL v j gv))) (sws nu (eL me fl n b (vp_updL v j gv)))) (svP true pt ps (sM n b fl me st lk cm v nu)) hd tx (svN true ps) true ty 0 lks lo1 hi1 sp (nI k9) pl gv) H := hP
      have hD : va_D _ (ModC mo sa pa ha ta cJ cI (sM n b fl me (st + (lN (eL me fl n b (vp_updL v j gv)).length)) lk cm (sws (vp_updL v j gv) (eL me fl n b (vp_updL v j gv))) (sws nu (eL me fl n b (vp_updL v j gv)))) (svP true pt ps (sM n b fl me st lk cm v nu)) hd tx (svN true ps) true ty 0 lks lo1 hi1 sp (nI k9) pl gv) := hD
      have er : svP true pt ps (sM n b fl me st lk cm v nu) = pt := rfl
      rw [er] at hP hD
      clear er
      have er : svN true ps = ps := rfl
      rw [er] at hP hD
      clear er
      refine lv_pop2_2 hx hb dX7_does_96 rfl ?_
      refine lv_goto (tgt := 129) hx hb dX7_does_97 (by decide) ?_
      have ew0_n : ((dmS k9 pl gv (n, b, fl, me, st, lk, cm, v, nu)).2.1) = n := by first | (rw [hk]; simp [dmS, enM, hv, etn]; done) | (rw [hk]; simp [dmS, enM, hv]; done) | (rw [hk]; simp [dmS, enM, hv, hv2, etn]; done) | (rw [hk]; rfl)
      have ew0_b : ((dmS k9 pl gv (n, b, fl, me, st, lk, cm, v, nu)).2.2.1) = b := by first | (rw [hk]; simp [dmS, enM, hv, etn]; done) | (rw [hk]; simp [dmS, enM, hv]; done) | (rw [hk]; simp [dmS, enM, hv, hv2, etn]; done) | (rw [hk]; rfl)
      have ew0_fl : ((dmS k9 pl gv (n, b, fl, me, st, lk, cm, v, nu)).2.2.2.1) = fl := by first | (rw [hk]; simp [dmS, enM, hv, etn]; done) | (rw [hk]; simp [dmS, enM, hv]; done) | (rw [hk]; simp [dmS, enM, hv, hv2, etn]; done) | (rw [hk]; rfl)
      have ew0_me : ((dmS k9 pl gv (n, b, fl, me, st, lk, cm, v, nu)).2.2.2.2.1) = me := by first | (rw [hk]; simp [dmS, enM, hv, etn]; done) | (rw [hk]; simp [dmS, enM, hv]; done) | (rw [hk]; simp [dmS, enM, hv, hv2, etn]; done) | (rw [hk]; rfl)
      have ew0_st : ((dmS k9 pl gv (n, b, fl, me, st, lk, cm, v, nu)).2.2.2.2.2.1) = (st + (lN (eL me fl n b (vp_updL v j gv)).length)) := by first | (rw [hk]; simp [dmS, enM, hv, etn]; done) | (rw [hk]; simp [dmS, enM, hv]; done) | (rw [hk]; simp [dmS, enM, hv, hv2, etn]; done) | (rw [hk]; rfl)
      have ew0_lk : ((dmS k9 pl gv (n, b, fl, me, st, lk, cm, v, nu)).2.2.2.2.2.2.1) = lk := by first | (rw [hk]; simp [dmS, enM, hv, etn]; done) | (rw [hk]; simp [dmS, enM, hv]; done) | (rw [hk]; simp [dmS, enM, hv, hv2, etn]; done) | (rw [hk]; rfl)
      have ew0_cm : ((dmS k9 pl gv (n, b, fl, me, st, lk, cm, v, nu)).2.2.2.2.2.2.2.1) = cm := by first | (rw [hk]; simp [dmS, enM, hv, etn]; done) | (rw [hk]; simp [dmS, enM, hv]; done) | (rw [hk]; simp [dmS, enM, hv, hv2, etn]; done) | (rw [hk]; rfl)
      have ew0_v : ((dmS k9 pl gv (n, b, fl, me, st, lk, cm, v, nu)).2.2.2.2.2.2.2.2.1) = (sws (vp_updL v j gv) (eL me fl n b (vp_updL v j gv))) := by first | (rw [hk]; simp [dmS, enM, hv, etn]; done) | (rw [hk]; simp [dmS, enM, hv]; done) | (rw [hk]; simp [dmS, enM, hv, hv2, etn]; done) | (rw [hk]; rfl)
      have ew0_nu : ((dmS k9 pl gv (n, b, fl, me, st, lk, cm, v, nu)).2.2.2.2.2.2.2.2.2) = (sws nu (eL me fl n b (vp_updL v j gv))) := by first | (rw [hk]; simp [dmS, enM, hv, etn]; done) | (rw [hk]; simp [dmS, enM, hv]; done) | (rw [hk]; simp [dmS, enM, hv, hv2, etn]; done) | (rw [hk]; rfl)
      have ew0_rf : (dmS k9 pl gv (n, b, fl, me, st, lk, cm, v, nu)).1 = 0 := by first | (rw [hk]; simp [dmS, enM, hv, etn]; done) | (rw [hk]; simp [dmS, enM, hv]; done) | (rw [hk]; simp [dmS, enM, hv, hv2, etn]; done) | (rw [hk]; rfl)
      exact wv_vretM hx hb hr hlocks hP hD hS (by rw [ew0_nu, ew0_v, ew0_cm, ew0_lk, ew0_st, ew0_me, ew0_fl, ew0_b, ew0_n, ew0_rf]) dX7_does_129
    · skip
      refine lv_aload_n hx hb dX7_does_84 rfl (lv_at hl 0 rfl) ?_
      refine lv_aload_n hx hb dX7_does_85 rfl (lv_at hl 0 rfl) ?_
      refine va_get (D := D) (ci := 5) (C := RX7) (T := TX7) (N := 15) hx hb hts hinX7 hown hK hP 0 rfl rfl 13 (by decide) (hts (.fieldLink RX7 186 "NearRanksModel" "place" "I") (by decide +kernel)) (fun _ h9 => h9) rfl dX7_does_86 ?_
      refine lv_aload_n hx hb dX7_does_89 rfl (lv_at hl 0 rfl) ?_
      refine va_get (D := D) (ci := 5) (C := RX7) (T := TX7) (N := 15) hx hb hts hinX7 hown hK hP 0 rfl rfl 14 (by decide) (hts (.fieldLink RX7 182 "NearRanksModel" "given" "J") (by decide +kernel)) (fun _ h9 => h9) rfl dX7_does_90 ?_
      refine wv_callMl (As := [.int pl, .long gv]) (rest := []) (wr := []) (ws1 := ModC mo sa pa ha ta cJ cI (sM n b fl me st lk cm v nu) pt hd tx ps true ty 1 lks lo1 hi1 sp (nI k9) pl gv) ⟨hx, hb, hml, hown, hts⟩ (kX7_setValue_bad l D mo sa pa ha ta cJ cI n b fl me st lk cm v nu pt hd tx ps true ty rf lks lo1 hi1 sp (nI k9) pl gv pl gv (by first | assumption | omega) hv) (cwV 2 hts gX7_does_X7_setValue rfl rfl rfl (by decide +kernel) ⟨Nat.le_of_ble_eq_true rfl, Nat.le_of_ble_eq_true rfl⟩) hK hN hP hD hS hA [0, 1, 2, 3, 4] [] [0, 1] [0, 1, 2, 3, 4] rfl rfl (by decide) rfl (by decide) (by decide) rfl (by decide) rfl 0 5 rfl rfl rfl rfl hl.1 rfl (Nat.le_of_ble_eq_true rfl) dX7_does_93 ⟨Nat.zero_le _, Nat.zero_le _⟩ (fun H locs hz9 hP hD hS => ?_)
      have hP : va_P D vwCl (ModC mo sa pa ha ta cJ cI (sM n b fl me st lk cm v nu) pt hd tx ps true ty 1 lks lo1 hi1 sp (nI k9) pl gv) H := hP
      have hD : va_D _ (ModC mo sa pa ha ta cJ cI (sM n b fl me st lk cm v nu) pt hd tx ps true ty 1 lks lo1 hi1 sp (nI k9) pl gv) := hD
      refine lv_pop2_2 hx hb dX7_does_96 rfl ?_
      refine lv_goto (tgt := 129) hx hb dX7_does_97 (by decide) ?_
      have ew0_n : ((dmS k9 pl gv (n, b, fl, me, st, lk, cm, v, nu)).2.1) = n := by first | (rw [hk]; simp [dmS, enM, hv, etn]; done) | (rw [hk]; simp [dmS, enM, hv]; done) | (rw [hk]; simp [dmS, enM, hv, hv2, etn]; done) | (rw [hk]; rfl)
      have ew0_b : ((dmS k9 pl gv (n, b, fl, me, st, lk, cm, v, nu)).2.2.1) = b := by first | (rw [hk]; simp [dmS, enM, hv, etn]; done) | (rw [hk]; simp [dmS, enM, hv]; done) | (rw [hk]; simp [dmS, enM, hv, hv2, etn]; done) | (rw [hk]; rfl)
      have ew0_fl : ((dmS k9 pl gv (n, b, fl, me, st, lk, cm, v, nu)).2.2.2.1) = fl := by first | (rw [hk]; simp [dmS, enM, hv, etn]; done) | (rw [hk]; simp [dmS, enM, hv]; done) | (rw [hk]; simp [dmS, enM, hv, hv2, etn]; done) | (rw [hk]; rfl)
      have ew0_me : ((dmS k9 pl gv (n, b, fl, me, st, lk, cm, v, nu)).2.2.2.2.1) = me := by first | (rw [hk]; simp [dmS, enM, hv, etn]; done) | (rw [hk]; simp [dmS, enM, hv]; done) | (rw [hk]; simp [dmS, enM, hv, hv2, etn]; done) | (rw [hk]; rfl)
      have ew0_st : ((dmS k9 pl gv (n, b, fl, me, st, lk, cm, v, nu)).2.2.2.2.2.1) = st := by first | (rw [hk]; simp [dmS, enM, hv, etn]; done) | (rw [hk]; simp [dmS, enM, hv]; done) | (rw [hk]; simp [dmS, enM, hv, hv2, etn]; done) | (rw [hk]; rfl)
      have ew0_lk : ((dmS k9 pl gv (n, b, fl, me, st, lk, cm, v, nu)).2.2.2.2.2.2.1) = lk := by first | (rw [hk]; simp [dmS, enM, hv, etn]; done) | (rw [hk]; simp [dmS, enM, hv]; done) | (rw [hk]; simp [dmS, enM, hv, hv2, etn]; done) | (rw [hk]; rfl)
      have ew0_cm : ((dmS k9 pl gv (n, b, fl, me, st, lk, cm, v, nu)).2.2.2.2.2.2.2.1) = cm := by first | (rw [hk]; simp [dmS, enM, hv, etn]; done) | (rw [hk]; simp [dmS, enM, hv]; done) | (rw [hk]; simp [dmS, enM, hv, hv2, etn]; done) | (rw [hk]; rfl)
      have ew0_v : ((dmS k9 pl gv (n, b, fl, me, st, lk, cm, v, nu)).2.2.2.2.2.2.2.2.1) = v := by first | (rw [hk]; simp [dmS, enM, hv, etn]; done) | (rw [hk]; simp [dmS, enM, hv]; done) | (rw [hk]; simp [dmS, enM, hv, hv2, etn]; done) | (rw [hk]; rfl)
      have ew0_nu : ((dmS k9 pl gv (n, b, fl, me, st, lk, cm, v, nu)).2.2.2.2.2.2.2.2.2) = nu := by first | (rw [hk]; simp [dmS, enM, hv, etn]; done) | (rw [hk]; simp [dmS, enM, hv]; done) | (rw [hk]; simp [dmS, enM, hv, hv2, etn]; done) | (rw [hk]; rfl)
      have ew0_rf : (dmS k9 pl gv (n, b, fl, me, st, lk, cm, v, nu)).1 = 1 := by first | (rw [hk]; simp [dmS, enM, hv, etn]; done) | (rw [hk]; simp [dmS, enM, hv]; done) | (rw [hk]; simp [dmS, enM, hv, hv2, etn]; done) | (rw [hk]; rfl)
      exact wv_vretM hx hb hr hlocks hP hD hS (by rw [ew0_nu, ew0_v, ew0_cm, ew0_lk, ew0_st, ew0_me, ew0_fl, ew0_b, ew0_n, ew0_rf]) dX7_does_129
  · skip
    refine lv_aload_n hx hb dX7_does_0 rfl (lv_at hl 0 rfl) ?_
    refine va_get (D := D) (ci := 5) (C := RX7) (T := TX7) (N := 15) hx hb hts hinX7 hown hK hP 0 rfl rfl 12 (by decide) (hts (.fieldLink RX7 196 "NearRanksModel" "command" "I") (by decide +kernel)) (fun _ h9 => h9) rfl dX7_does_1 ?_
    refine wv_ti (y := nI 4) (by rw [hk]) ?_
    refine lv_tableIn (tgt := 100) hx hb dX7_does_4 (by decide) (by decide) rfl (by decide) ?_
    rcases sw_3 pl hn with ⟨j, hj, ej, hv⟩ | ⟨hv1, hv⟩ | ⟨j, hj, ej, hv⟩
    · skip
      have etn : pl.toNatClampNeg = j := by rw [ej]; exact nI_clamp (by omega)
      refine lv_aload_n hx hb dX7_does_100 rfl (lv_at hl 0 rfl) ?_
      refine lv_aload_n hx hb dX7_does_101 rfl (lv_at hl 0 rfl) ?_
      refine va_get (D := D) (ci := 5) (C := RX7) (T := TX7) (N := 15) hx hb hts hinX7 hown hK hP 0 rfl rfl 13 (by decide) (hts (.fieldLink RX7 186 "NearRanksModel" "place" "I") (by decide +kernel)) (fun _ h9 => h9) rfl dX7_does_102 ?_
      refine wv_ti (y := nI j) ej ?_
      refine wv_callMi (As := [.int (nI j)]) (rest := []) (wr := []) (ws1 := ModC mo sa pa ha ta cJ cI (sM n b fl me (st + (lN (eL me fl n b (swa v j)).length)) lk cm (sws (swa v j) (eL me fl n b (swa v j))) (sws (swa nu j) (eL me fl n b (swa v j)))) (svP true pt ps (sM n b fl me st lk cm v nu)) hd tx (svN true ps) true ty 0 lks lo1 hi1 sp (nI k9) pl gv) ⟨hx, hb, hml, hown, hts⟩ (kX7_swap l D mo sa pa ha ta cJ cI n b fl me st lk cm v nu pt hd tx ps true ty rf lks lo1 hi1 sp (nI k9) pl gv j (by first | assumption | omega) (by first | assumption | omega) (by first | assumption | omega) (by first | assumption | omega)) (cwV 1 hts gX7_does_X7_swap rfl rfl rfl (by decide +kernel) ⟨Nat.le_of_ble_eq_true rfl, Nat.le_of_ble_eq_true rfl⟩) hK hN hP hD hS hA [0, 1, 2, 3, 4] [] [0, 1] [0, 1, 2, 3, 4] rfl rfl (by decide) rfl (by decide) (by decide) rfl (by decide) rfl 0 5 rfl rfl rfl rfl hl.1 rfl (Nat.le_of_ble_eq_true rfl) dX7_does_105 ⟨Nat.zero_le _, Nat.zero_le _⟩ (fun H locs hz9 hP hD hS => ?_)
      have hP : va_P D vwCl (ModC mo sa pa ha ta cJ cI (sM n b fl me (st + (lN (eL me fl n b (swa v j)).length)) lk cm (sws (swa v j) (eL me fl n b (swa v j))) (sws (swa nu j) (eL me fl n b (swa v j)))) (svP true pt ps (sM n b fl me st lk cm v nu)) hd tx (svN true ps) true ty 0 lks lo1 hi1 sp (nI k9) pl gv) H := hP
      have hD : va_D _ (ModC mo sa pa ha ta cJ cI (sM n b fl me (st + (lN (eL me fl n b (swa v j)).length)) lk cm (sws (swa v j) (eL me fl n b (swa v j))) (sws (swa nu j) (eL me fl n b (swa v j)))) (svP true pt ps (sM n b fl me st lk cm v nu)) hd tx (svN true ps) true ty 0 lks lo1 hi1 sp (nI k9) pl gv) := hD
      have er : svP true pt ps (sM n b fl me st lk cm v nu) = pt := rfl
      rw [er] at hP hD
      clear er
      have er : svN true ps = ps := rfl
      rw [er] at hP hD
      clear er
      refine lv_pop hx hb dX7_does_108 rfl ?_
      refine lv_goto (tgt := 129) hx hb dX7_does_109 (by decide) ?_
      have ew0_n : ((dmS k9 pl gv (n, b, fl, me, st, lk, cm, v, nu)).2.1) = n := by first | (rw [hk]; simp [dmS, enM, hv, etn]; done) | (rw [hk]; simp [dmS, enM, hv]; done) | (rw [hk]; simp [dmS, enM, hv, hv2, etn]; done) | (rw [hk]; rfl)
      have ew0_b : ((dmS k9 pl gv (n, b, fl, me, st, lk, cm, v, nu)).2.2.1) = b := by first | (rw [hk]; simp [dmS, enM, hv, etn]; done) | (rw [hk]; simp [dmS, enM, hv]; done) | (rw [hk]; simp [dmS, enM, hv, hv2, etn]; done) | (rw [hk]; rfl)
      have ew0_fl : ((dmS k9 pl gv (n, b, fl, me, st, lk, cm, v, nu)).2.2.2.1) = fl := by first | (rw [hk]; simp [dmS, enM, hv, etn]; done) | (rw [hk]; simp [dmS, enM, hv]; done) | (rw [hk]; simp [dmS, enM, hv, hv2, etn]; done) | (rw [hk]; rfl)
      have ew0_me : ((dmS k9 pl gv (n, b, fl, me, st, lk, cm, v, nu)).2.2.2.2.1) = me := by first | (rw [hk]; simp [dmS, enM, hv, etn]; done) | (rw [hk]; simp [dmS, enM, hv]; done) | (rw [hk]; simp [dmS, enM, hv, hv2, etn]; done) | (rw [hk]; rfl)
      have ew0_st : ((dmS k9 pl gv (n, b, fl, me, st, lk, cm, v, nu)).2.2.2.2.2.1) = (st + (lN (eL me fl n b (swa v j)).length)) := by first | (rw [hk]; simp [dmS, enM, hv, etn]; done) | (rw [hk]; simp [dmS, enM, hv]; done) | (rw [hk]; simp [dmS, enM, hv, hv2, etn]; done) | (rw [hk]; rfl)
      have ew0_lk : ((dmS k9 pl gv (n, b, fl, me, st, lk, cm, v, nu)).2.2.2.2.2.2.1) = lk := by first | (rw [hk]; simp [dmS, enM, hv, etn]; done) | (rw [hk]; simp [dmS, enM, hv]; done) | (rw [hk]; simp [dmS, enM, hv, hv2, etn]; done) | (rw [hk]; rfl)
      have ew0_cm : ((dmS k9 pl gv (n, b, fl, me, st, lk, cm, v, nu)).2.2.2.2.2.2.2.1) = cm := by first | (rw [hk]; simp [dmS, enM, hv, etn]; done) | (rw [hk]; simp [dmS, enM, hv]; done) | (rw [hk]; simp [dmS, enM, hv, hv2, etn]; done) | (rw [hk]; rfl)
      have ew0_v : ((dmS k9 pl gv (n, b, fl, me, st, lk, cm, v, nu)).2.2.2.2.2.2.2.2.1) = (sws (swa v j) (eL me fl n b (swa v j))) := by first | (rw [hk]; simp [dmS, enM, hv, etn]; done) | (rw [hk]; simp [dmS, enM, hv]; done) | (rw [hk]; simp [dmS, enM, hv, hv2, etn]; done) | (rw [hk]; rfl)
      have ew0_nu : ((dmS k9 pl gv (n, b, fl, me, st, lk, cm, v, nu)).2.2.2.2.2.2.2.2.2) = (sws (swa nu j) (eL me fl n b (swa v j))) := by first | (rw [hk]; simp [dmS, enM, hv, etn]; done) | (rw [hk]; simp [dmS, enM, hv]; done) | (rw [hk]; simp [dmS, enM, hv, hv2, etn]; done) | (rw [hk]; rfl)
      have ew0_rf : (dmS k9 pl gv (n, b, fl, me, st, lk, cm, v, nu)).1 = 0 := by first | (rw [hk]; simp [dmS, enM, hv, etn]; done) | (rw [hk]; simp [dmS, enM, hv]; done) | (rw [hk]; simp [dmS, enM, hv, hv2, etn]; done) | (rw [hk]; rfl)
      exact wv_vretM hx hb hr hlocks hP hD hS (by rw [ew0_nu, ew0_v, ew0_cm, ew0_lk, ew0_st, ew0_me, ew0_fl, ew0_b, ew0_n, ew0_rf]) dX7_does_129
    · skip
      refine lv_aload_n hx hb dX7_does_100 rfl (lv_at hl 0 rfl) ?_
      refine lv_aload_n hx hb dX7_does_101 rfl (lv_at hl 0 rfl) ?_
      refine va_get (D := D) (ci := 5) (C := RX7) (T := TX7) (N := 15) hx hb hts hinX7 hown hK hP 0 rfl rfl 13 (by decide) (hts (.fieldLink RX7 186 "NearRanksModel" "place" "I") (by decide +kernel)) (fun _ h9 => h9) rfl dX7_does_102 ?_
      refine wv_callMi (As := [.int pl]) (rest := []) (wr := []) (ws1 := ModC mo sa pa ha ta cJ cI (sM n b fl me st lk cm v nu) pt hd tx ps true ty 1 lks lo1 hi1 sp (nI k9) pl gv) ⟨hx, hb, hml, hown, hts⟩ (kX7_swap_bad l D mo sa pa ha ta cJ cI n b fl me st lk cm v nu pt hd tx ps true ty rf lks lo1 hi1 sp (nI k9) pl gv pl (by first | assumption | omega) hv1) (cwV 1 hts gX7_does_X7_swap rfl rfl rfl (by decide +kernel) ⟨Nat.le_of_ble_eq_true rfl, Nat.le_of_ble_eq_true rfl⟩) hK hN hP hD hS hA [0, 1, 2, 3, 4] [] [0, 1] [0, 1, 2, 3, 4] rfl rfl (by decide) rfl (by decide) (by decide) rfl (by decide) rfl 0 5 rfl rfl rfl rfl hl.1 rfl (Nat.le_of_ble_eq_true rfl) dX7_does_105 ⟨Nat.zero_le _, Nat.zero_le _⟩ (fun H locs hz9 hP hD hS => ?_)
      have hP : va_P D vwCl (ModC mo sa pa ha ta cJ cI (sM n b fl me st lk cm v nu) pt hd tx ps true ty 1 lks lo1 hi1 sp (nI k9) pl gv) H := hP
      have hD : va_D _ (ModC mo sa pa ha ta cJ cI (sM n b fl me st lk cm v nu) pt hd tx ps true ty 1 lks lo1 hi1 sp (nI k9) pl gv) := hD
      refine lv_pop hx hb dX7_does_108 rfl ?_
      refine lv_goto (tgt := 129) hx hb dX7_does_109 (by decide) ?_
      have ew0_n : ((dmS k9 pl gv (n, b, fl, me, st, lk, cm, v, nu)).2.1) = n := by first | (rw [hk]; simp [dmS, enM, hv, etn]; done) | (rw [hk]; simp [dmS, enM, hv]; done) | (rw [hk]; simp [dmS, enM, hv, hv2, etn]; done) | (rw [hk]; rfl)
      have ew0_b : ((dmS k9 pl gv (n, b, fl, me, st, lk, cm, v, nu)).2.2.1) = b := by first | (rw [hk]; simp [dmS, enM, hv, etn]; done) | (rw [hk]; simp [dmS, enM, hv]; done) | (rw [hk]; simp [dmS, enM, hv, hv2, etn]; done) | (rw [hk]; rfl)
      have ew0_fl : ((dmS k9 pl gv (n, b, fl, me, st, lk, cm, v, nu)).2.2.2.1) = fl := by first | (rw [hk]; simp [dmS, enM, hv, etn]; done) | (rw [hk]; simp [dmS, enM, hv]; done) | (rw [hk]; simp [dmS, enM, hv, hv2, etn]; done) | (rw [hk]; rfl)
      have ew0_me : ((dmS k9 pl gv (n, b, fl, me, st, lk, cm, v, nu)).2.2.2.2.1) = me := by first | (rw [hk]; simp [dmS, enM, hv, etn]; done) | (rw [hk]; simp [dmS, enM, hv]; done) | (rw [hk]; simp [dmS, enM, hv, hv2, etn]; done) | (rw [hk]; rfl)
      have ew0_st : ((dmS k9 pl gv (n, b, fl, me, st, lk, cm, v, nu)).2.2.2.2.2.1) = st := by first | (rw [hk]; simp [dmS, enM, hv, etn]; done) | (rw [hk]; simp [dmS, enM, hv]; done) | (rw [hk]; simp [dmS, enM, hv, hv2, etn]; done) | (rw [hk]; rfl)
      have ew0_lk : ((dmS k9 pl gv (n, b, fl, me, st, lk, cm, v, nu)).2.2.2.2.2.2.1) = lk := by first | (rw [hk]; simp [dmS, enM, hv, etn]; done) | (rw [hk]; simp [dmS, enM, hv]; done) | (rw [hk]; simp [dmS, enM, hv, hv2, etn]; done) | (rw [hk]; rfl)
      have ew0_cm : ((dmS k9 pl gv (n, b, fl, me, st, lk, cm, v, nu)).2.2.2.2.2.2.2.1) = cm := by first | (rw [hk]; simp [dmS, enM, hv, etn]; done) | (rw [hk]; simp [dmS, enM, hv]; done) | (rw [hk]; simp [dmS, enM, hv, hv2, etn]; done) | (rw [hk]; rfl)
      have ew0_v : ((dmS k9 pl gv (n, b, fl, me, st, lk, cm, v, nu)).2.2.2.2.2.2.2.2.1) = v := by first | (rw [hk]; simp [dmS, enM, hv, etn]; done) | (rw [hk]; simp [dmS, enM, hv]; done) | (rw [hk]; simp [dmS, enM, hv, hv2, etn]; done) | (rw [hk]; rfl)
      have ew0_nu : ((dmS k9 pl gv (n, b, fl, me, st, lk, cm, v, nu)).2.2.2.2.2.2.2.2.2) = nu := by first | (rw [hk]; simp [dmS, enM, hv, etn]; done) | (rw [hk]; simp [dmS, enM, hv]; done) | (rw [hk]; simp [dmS, enM, hv, hv2, etn]; done) | (rw [hk]; rfl)
      have ew0_rf : (dmS k9 pl gv (n, b, fl, me, st, lk, cm, v, nu)).1 = 1 := by first | (rw [hk]; simp [dmS, enM, hv, etn]; done) | (rw [hk]; simp [dmS, enM, hv]; done) | (rw [hk]; simp [dmS, enM, hv, hv2, etn]; done) | (rw [hk]; rfl)
      exact wv_vretM hx hb hr hlocks hP hD hS (by rw [ew0_nu, ew0_v, ew0_cm, ew0_lk, ew0_st, ew0_me, ew0_fl, ew0_b, ew0_n, ew0_rf]) dX7_does_129
    · skip
      refine lv_aload_n hx hb dX7_does_100 rfl (lv_at hl 0 rfl) ?_
      refine lv_aload_n hx hb dX7_does_101 rfl (lv_at hl 0 rfl) ?_
      refine va_get (D := D) (ci := 5) (C := RX7) (T := TX7) (N := 15) hx hb hts hinX7 hown hK hP 0 rfl rfl 13 (by decide) (hts (.fieldLink RX7 186 "NearRanksModel" "place" "I") (by decide +kernel)) (fun _ h9 => h9) rfl dX7_does_102 ?_
      refine wv_ti (y := nI j) ej ?_
      refine wv_callMi (As := [.int (nI j)]) (rest := []) (wr := []) (ws1 := ModC mo sa pa ha ta cJ cI (sM n b fl me st lk cm v nu) pt hd tx ps true ty 1 lks lo1 hi1 sp (nI k9) pl gv) ⟨hx, hb, hml, hown, hts⟩ (kX7_swap_last l D mo sa pa ha ta cJ cI n b fl me st lk cm v nu pt hd tx ps true ty rf lks lo1 hi1 sp (nI k9) pl gv j (by first | assumption | omega) (by first | assumption | omega)) (cwV 1 hts gX7_does_X7_swap rfl rfl rfl (by decide +kernel) ⟨Nat.le_of_ble_eq_true rfl, Nat.le_of_ble_eq_true rfl⟩) hK hN hP hD hS hA [0, 1, 2, 3, 4] [] [0, 1] [0, 1, 2, 3, 4] rfl rfl (by decide) rfl (by decide) (by decide) rfl (by decide) rfl 0 5 rfl rfl rfl rfl hl.1 rfl (Nat.le_of_ble_eq_true rfl) dX7_does_105 ⟨Nat.zero_le _, Nat.zero_le _⟩ (fun H locs hz9 hP hD hS => ?_)
      have hP : va_P D vwCl (ModC mo sa pa ha ta cJ cI (sM n b fl me st lk cm v nu) pt hd tx ps true ty 1 lks lo1 hi1 sp (nI k9) pl gv) H := hP
      have hD : va_D _ (ModC mo sa pa ha ta cJ cI (sM n b fl me st lk cm v nu) pt hd tx ps true ty 1 lks lo1 hi1 sp (nI k9) pl gv) := hD
      refine lv_pop hx hb dX7_does_108 rfl ?_
      refine lv_goto (tgt := 129) hx hb dX7_does_109 (by decide) ?_
      have ew0_n : ((dmS k9 pl gv (n, b, fl, me, st, lk, cm, v, nu)).2.1) = n := by first | (rw [hk]; simp [dmS, enM, hv, etn]; done) | (rw [hk]; simp [dmS, enM, hv]; done) | (rw [hk]; simp [dmS, enM, hv, hv2, etn]; done) | (rw [hk]; rfl)
      have ew0_b : ((dmS k9 pl gv (n, b, fl, me, st, lk, cm, v, nu)).2.2.1) = b := by first | (rw [hk]; simp [dmS, enM, hv, etn]; done) | (rw [hk]; simp [dmS, enM, hv]; done) | (rw [hk]; simp [dmS, enM, hv, hv2, etn]; done) | (rw [hk]; rfl)
      have ew0_fl : ((dmS k9 pl gv (n, b, fl, me, st, lk, cm, v, nu)).2.2.2.1) = fl := by first | (rw [hk]; simp [dmS, enM, hv, etn]; done) | (rw [hk]; simp [dmS, enM, hv]; done) | (rw [hk]; simp [dmS, enM, hv, hv2, etn]; done) | (rw [hk]; rfl)
      have ew0_me : ((dmS k9 pl gv (n, b, fl, me, st, lk, cm, v, nu)).2.2.2.2.1) = me := by first | (rw [hk]; simp [dmS, enM, hv, etn]; done) | (rw [hk]; simp [dmS, enM, hv]; done) | (rw [hk]; simp [dmS, enM, hv, hv2, etn]; done) | (rw [hk]; rfl)
      have ew0_st : ((dmS k9 pl gv (n, b, fl, me, st, lk, cm, v, nu)).2.2.2.2.2.1) = st := by first | (rw [hk]; simp [dmS, enM, hv, etn]; done) | (rw [hk]; simp [dmS, enM, hv]; done) | (rw [hk]; simp [dmS, enM, hv, hv2, etn]; done) | (rw [hk]; rfl)
      have ew0_lk : ((dmS k9 pl gv (n, b, fl, me, st, lk, cm, v, nu)).2.2.2.2.2.2.1) = lk := by first | (rw [hk]; simp [dmS, enM, hv, etn]; done) | (rw [hk]; simp [dmS, enM, hv]; done) | (rw [hk]; simp [dmS, enM, hv, hv2, etn]; done) | (rw [hk]; rfl)
      have ew0_cm : ((dmS k9 pl gv (n, b, fl, me, st, lk, cm, v, nu)).2.2.2.2.2.2.2.1) = cm := by first | (rw [hk]; simp [dmS, enM, hv, etn]; done) | (rw [hk]; simp [dmS, enM, hv]; done) | (rw [hk]; simp [dmS, enM, hv, hv2, etn]; done) | (rw [hk]; rfl)
      have ew0_v : ((dmS k9 pl gv (n, b, fl, me, st, lk, cm, v, nu)).2.2.2.2.2.2.2.2.1) = v := by first | (rw [hk]; simp [dmS, enM, hv, etn]; done) | (rw [hk]; simp [dmS, enM, hv]; done) | (rw [hk]; simp [dmS, enM, hv, hv2, etn]; done) | (rw [hk]; rfl)
      have ew0_nu : ((dmS k9 pl gv (n, b, fl, me, st, lk, cm, v, nu)).2.2.2.2.2.2.2.2.2) = nu := by first | (rw [hk]; simp [dmS, enM, hv, etn]; done) | (rw [hk]; simp [dmS, enM, hv]; done) | (rw [hk]; simp [dmS, enM, hv, hv2, etn]; done) | (rw [hk]; rfl)
      have ew0_rf : (dmS k9 pl gv (n, b, fl, me, st, lk, cm, v, nu)).1 = 1 := by first | (rw [hk]; simp [dmS, enM, hv, etn]; done) | (rw [hk]; simp [dmS, enM, hv]; done) | (rw [hk]; simp [dmS, enM, hv, hv2, etn]; done) | (rw [hk]; rfl)
      exact wv_vretM hx hb hr hlocks hP hD hS (by rw [ew0_nu, ew0_v, ew0_cm, ew0_lk, ew0_st, ew0_me, ew0_fl, ew0_b, ew0_n, ew0_rf]) dX7_does_129
  · skip
    refine lv_aload_n hx hb dX7_does_0 rfl (lv_at hl 0 rfl) ?_
    refine va_get (D := D) (ci := 5) (C := RX7) (T := TX7) (N := 15) hx hb hts hinX7 hown hK hP 0 rfl rfl 12 (by decide) (hts (.fieldLink RX7 196 "NearRanksModel" "command" "I") (by decide +kernel)) (fun _ h9 => h9) rfl dX7_does_1 ?_
    refine wv_ti (y := nI 5) (by rw [hk]) ?_
    refine lv_tableIn (tgt := 112) hx hb dX7_does_4 (by decide) (by decide) rfl (by decide) ?_
    rcases Bool.eq_false_or_eq_true (inB pl) with hv | hv
    · skip
      obtain ⟨j, hj, ej⟩ := inB_k hv
      have etn : pl.toNatClampNeg = j := by rw [ej]; exact nI_clamp (by omega)
      refine lv_aload_n hx hb dX7_does_112 rfl (lv_at hl 0 rfl) ?_
      refine lv_aload_n hx hb dX7_does_113 rfl (lv_at hl 0 rfl) ?_
      refine va_get (D := D) (ci := 5) (C := RX7) (T := TX7) (N := 15) hx hb hts hinX7 hown hK hP 0 rfl rfl 13 (by decide) (hts (.fieldLink RX7 186 "NearRanksModel" "place" "I") (by decide +kernel)) (fun _ h9 => h9) rfl dX7_does_114 ?_
      refine wv_ti (y := nI j) ej ?_
      refine wv_callMi (As := [.int (nI j)]) (rest := []) (wr := []) (ws1 := ModC mo sa pa ha ta cJ cI (sM n j fl me (st + (lN (eL me fl n j v).length)) lk cm (sws v (eL me fl n j v)) (sws nu (eL me fl n j v))) (svP true pt ps (sM n b fl me st lk cm v nu)) hd tx (svN true ps) true ty 0 lks lo1 hi1 sp (nI k9) pl gv) ⟨hx, hb, hml, hown, hts⟩ (kX7_setBound l D mo sa pa ha ta cJ cI n b fl me st lk cm v nu pt hd tx ps true ty rf lks lo1 hi1 sp (nI k9) pl gv j (by first | assumption | omega) (by first | assumption | omega) (by first | assumption | omega)) (cwV 1 hts gX7_does_X7_setBound rfl rfl rfl (by decide +kernel) ⟨Nat.le_of_ble_eq_true rfl, Nat.le_of_ble_eq_true rfl⟩) hK hN hP hD hS hA [0, 1, 2, 3, 4] [] [0, 1] [0, 1, 2, 3, 4] rfl rfl (by decide) rfl (by decide) (by decide) rfl (by decide) rfl 0 5 rfl rfl rfl rfl hl.1 rfl (Nat.le_of_ble_eq_true rfl) dX7_does_117 ⟨Nat.zero_le _, Nat.zero_le _⟩ (fun H locs hz9 hP hD hS => ?_)
      have hP : va_P D vwCl (ModC mo sa pa ha ta cJ cI (sM n j fl me (st + (lN (eL me fl n j v).length)) lk cm (sws v (eL me fl n j v)) (sws nu (eL me fl n j v))) (svP true pt ps (sM n b fl me st lk cm v nu)) hd tx (svN true ps) true ty 0 lks lo1 hi1 sp (nI k9) pl gv) H := hP
      have hD : va_D _ (ModC mo sa pa ha ta cJ cI (sM n j fl me (st + (lN (eL me fl n j v).length)) lk cm (sws v (eL me fl n j v)) (sws nu (eL me fl n j v))) (svP true pt ps (sM n b fl me st lk cm v nu)) hd tx (svN true ps) true ty 0 lks lo1 hi1 sp (nI k9) pl gv) := hD
      have er : svP true pt ps (sM n b fl me st lk cm v nu) = pt := rfl
      rw [er] at hP hD
      clear er
      have er : svN true ps = ps := rfl
      rw [er] at hP hD
      clear er
      refine lv_pop hx hb dX7_does_120 rfl ?_
      refine lv_goto (tgt := 129) hx hb dX7_does_121 (by decide) ?_
      have ew0_n : ((dmS k9 pl gv (n, b, fl, me, st, lk, cm, v, nu)).2.1) = n := by first | (rw [hk]; simp [dmS, enM, hv, etn]; done) | (rw [hk]; simp [dmS, enM, hv]; done) | (rw [hk]; simp [dmS, enM, hv, hv2, etn]; done) | (rw [hk]; rfl)
      have ew0_b : ((dmS k9 pl gv (n, b, fl, me, st, lk, cm, v, nu)).2.2.1) = j := by first | (rw [hk]; simp [dmS, enM, hv, etn]; done) | (rw [hk]; simp [dmS, enM, hv]; done) | (rw [hk]; simp [dmS, enM, hv, hv2, etn]; done) | (rw [hk]; rfl)
      have ew0_fl : ((dmS k9 pl gv (n, b, fl, me, st, lk, cm, v, nu)).2.2.2.1) = fl := by first | (rw [hk]; simp [dmS, enM, hv, etn]; done) | (rw [hk]; simp [dmS, enM, hv]; done) | (rw [hk]; simp [dmS, enM, hv, hv2, etn]; done) | (rw [hk]; rfl)
      have ew0_me : ((dmS k9 pl gv (n, b, fl, me, st, lk, cm, v, nu)).2.2.2.2.1) = me := by first | (rw [hk]; simp [dmS, enM, hv, etn]; done) | (rw [hk]; simp [dmS, enM, hv]; done) | (rw [hk]; simp [dmS, enM, hv, hv2, etn]; done) | (rw [hk]; rfl)
      have ew0_st : ((dmS k9 pl gv (n, b, fl, me, st, lk, cm, v, nu)).2.2.2.2.2.1) = (st + (lN (eL me fl n j v).length)) := by first | (rw [hk]; simp [dmS, enM, hv, etn]; done) | (rw [hk]; simp [dmS, enM, hv]; done) | (rw [hk]; simp [dmS, enM, hv, hv2, etn]; done) | (rw [hk]; rfl)
      have ew0_lk : ((dmS k9 pl gv (n, b, fl, me, st, lk, cm, v, nu)).2.2.2.2.2.2.1) = lk := by first | (rw [hk]; simp [dmS, enM, hv, etn]; done) | (rw [hk]; simp [dmS, enM, hv]; done) | (rw [hk]; simp [dmS, enM, hv, hv2, etn]; done) | (rw [hk]; rfl)
      have ew0_cm : ((dmS k9 pl gv (n, b, fl, me, st, lk, cm, v, nu)).2.2.2.2.2.2.2.1) = cm := by first | (rw [hk]; simp [dmS, enM, hv, etn]; done) | (rw [hk]; simp [dmS, enM, hv]; done) | (rw [hk]; simp [dmS, enM, hv, hv2, etn]; done) | (rw [hk]; rfl)
      have ew0_v : ((dmS k9 pl gv (n, b, fl, me, st, lk, cm, v, nu)).2.2.2.2.2.2.2.2.1) = (sws v (eL me fl n j v)) := by first | (rw [hk]; simp [dmS, enM, hv, etn]; done) | (rw [hk]; simp [dmS, enM, hv]; done) | (rw [hk]; simp [dmS, enM, hv, hv2, etn]; done) | (rw [hk]; rfl)
      have ew0_nu : ((dmS k9 pl gv (n, b, fl, me, st, lk, cm, v, nu)).2.2.2.2.2.2.2.2.2) = (sws nu (eL me fl n j v)) := by first | (rw [hk]; simp [dmS, enM, hv, etn]; done) | (rw [hk]; simp [dmS, enM, hv]; done) | (rw [hk]; simp [dmS, enM, hv, hv2, etn]; done) | (rw [hk]; rfl)
      have ew0_rf : (dmS k9 pl gv (n, b, fl, me, st, lk, cm, v, nu)).1 = 0 := by first | (rw [hk]; simp [dmS, enM, hv, etn]; done) | (rw [hk]; simp [dmS, enM, hv]; done) | (rw [hk]; simp [dmS, enM, hv, hv2, etn]; done) | (rw [hk]; rfl)
      exact wv_vretM hx hb hr hlocks hP hD hS (by rw [ew0_nu, ew0_v, ew0_cm, ew0_lk, ew0_st, ew0_me, ew0_fl, ew0_b, ew0_n, ew0_rf]) dX7_does_129
    · skip
      refine lv_aload_n hx hb dX7_does_112 rfl (lv_at hl 0 rfl) ?_
      refine lv_aload_n hx hb dX7_does_113 rfl (lv_at hl 0 rfl) ?_
      refine va_get (D := D) (ci := 5) (C := RX7) (T := TX7) (N := 15) hx hb hts hinX7 hown hK hP 0 rfl rfl 13 (by decide) (hts (.fieldLink RX7 186 "NearRanksModel" "place" "I") (by decide +kernel)) (fun _ h9 => h9) rfl dX7_does_114 ?_
      refine wv_callMi (As := [.int pl]) (rest := []) (wr := []) (ws1 := ModC mo sa pa ha ta cJ cI (sM n b fl me st lk cm v nu) pt hd tx ps true ty 1 lks lo1 hi1 sp (nI k9) pl gv) ⟨hx, hb, hml, hown, hts⟩ (kX7_setBound_bad l D mo sa pa ha ta cJ cI n b fl me st lk cm v nu pt hd tx ps true ty rf lks lo1 hi1 sp (nI k9) pl gv pl (by first | assumption | omega) hv) (cwV 1 hts gX7_does_X7_setBound rfl rfl rfl (by decide +kernel) ⟨Nat.le_of_ble_eq_true rfl, Nat.le_of_ble_eq_true rfl⟩) hK hN hP hD hS hA [0, 1, 2, 3, 4] [] [0, 1] [0, 1, 2, 3, 4] rfl rfl (by decide) rfl (by decide) (by decide) rfl (by decide) rfl 0 5 rfl rfl rfl rfl hl.1 rfl (Nat.le_of_ble_eq_true rfl) dX7_does_117 ⟨Nat.zero_le _, Nat.zero_le _⟩ (fun H locs hz9 hP hD hS => ?_)
      have hP : va_P D vwCl (ModC mo sa pa ha ta cJ cI (sM n b fl me st lk cm v nu) pt hd tx ps true ty 1 lks lo1 hi1 sp (nI k9) pl gv) H := hP
      have hD : va_D _ (ModC mo sa pa ha ta cJ cI (sM n b fl me st lk cm v nu) pt hd tx ps true ty 1 lks lo1 hi1 sp (nI k9) pl gv) := hD
      refine lv_pop hx hb dX7_does_120 rfl ?_
      refine lv_goto (tgt := 129) hx hb dX7_does_121 (by decide) ?_
      have ew0_n : ((dmS k9 pl gv (n, b, fl, me, st, lk, cm, v, nu)).2.1) = n := by first | (rw [hk]; simp [dmS, enM, hv, etn]; done) | (rw [hk]; simp [dmS, enM, hv]; done) | (rw [hk]; simp [dmS, enM, hv, hv2, etn]; done) | (rw [hk]; rfl)
      have ew0_b : ((dmS k9 pl gv (n, b, fl, me, st, lk, cm, v, nu)).2.2.1) = b := by first | (rw [hk]; simp [dmS, enM, hv, etn]; done) | (rw [hk]; simp [dmS, enM, hv]; done) | (rw [hk]; simp [dmS, enM, hv, hv2, etn]; done) | (rw [hk]; rfl)
      have ew0_fl : ((dmS k9 pl gv (n, b, fl, me, st, lk, cm, v, nu)).2.2.2.1) = fl := by first | (rw [hk]; simp [dmS, enM, hv, etn]; done) | (rw [hk]; simp [dmS, enM, hv]; done) | (rw [hk]; simp [dmS, enM, hv, hv2, etn]; done) | (rw [hk]; rfl)
      have ew0_me : ((dmS k9 pl gv (n, b, fl, me, st, lk, cm, v, nu)).2.2.2.2.1) = me := by first | (rw [hk]; simp [dmS, enM, hv, etn]; done) | (rw [hk]; simp [dmS, enM, hv]; done) | (rw [hk]; simp [dmS, enM, hv, hv2, etn]; done) | (rw [hk]; rfl)
      have ew0_st : ((dmS k9 pl gv (n, b, fl, me, st, lk, cm, v, nu)).2.2.2.2.2.1) = st := by first | (rw [hk]; simp [dmS, enM, hv, etn]; done) | (rw [hk]; simp [dmS, enM, hv]; done) | (rw [hk]; simp [dmS, enM, hv, hv2, etn]; done) | (rw [hk]; rfl)
      have ew0_lk : ((dmS k9 pl gv (n, b, fl, me, st, lk, cm, v, nu)).2.2.2.2.2.2.1) = lk := by first | (rw [hk]; simp [dmS, enM, hv, etn]; done) | (rw [hk]; simp [dmS, enM, hv]; done) | (rw [hk]; simp [dmS, enM, hv, hv2, etn]; done) | (rw [hk]; rfl)
      have ew0_cm : ((dmS k9 pl gv (n, b, fl, me, st, lk, cm, v, nu)).2.2.2.2.2.2.2.1) = cm := by first | (rw [hk]; simp [dmS, enM, hv, etn]; done) | (rw [hk]; simp [dmS, enM, hv]; done) | (rw [hk]; simp [dmS, enM, hv, hv2, etn]; done) | (rw [hk]; rfl)
      have ew0_v : ((dmS k9 pl gv (n, b, fl, me, st, lk, cm, v, nu)).2.2.2.2.2.2.2.2.1) = v := by first | (rw [hk]; simp [dmS, enM, hv, etn]; done) | (rw [hk]; simp [dmS, enM, hv]; done) | (rw [hk]; simp [dmS, enM, hv, hv2, etn]; done) | (rw [hk]; rfl)
      have ew0_nu : ((dmS k9 pl gv (n, b, fl, me, st, lk, cm, v, nu)).2.2.2.2.2.2.2.2.2) = nu := by first | (rw [hk]; simp [dmS, enM, hv, etn]; done) | (rw [hk]; simp [dmS, enM, hv]; done) | (rw [hk]; simp [dmS, enM, hv, hv2, etn]; done) | (rw [hk]; rfl)
      have ew0_rf : (dmS k9 pl gv (n, b, fl, me, st, lk, cm, v, nu)).1 = 1 := by first | (rw [hk]; simp [dmS, enM, hv, etn]; done) | (rw [hk]; simp [dmS, enM, hv]; done) | (rw [hk]; simp [dmS, enM, hv, hv2, etn]; done) | (rw [hk]; rfl)
      exact wv_vretM hx hb hr hlocks hP hD hS (by rw [ew0_nu, ew0_v, ew0_cm, ew0_lk, ew0_st, ew0_me, ew0_fl, ew0_b, ew0_n, ew0_rf]) dX7_does_129
  · skip
    refine lv_aload_n hx hb dX7_does_0 rfl (lv_at hl 0 rfl) ?_
    refine va_get (D := D) (ci := 5) (C := RX7) (T := TX7) (N := 15) hx hb hts hinX7 hown hK hP 0 rfl rfl 12 (by decide) (hts (.fieldLink RX7 196 "NearRanksModel" "command" "I") (by decide +kernel)) (fun _ h9 => h9) rfl dX7_does_1 ?_
    refine wv_ti (y := nI 6) (by rw [hk]) ?_
    refine lv_tableOut (tgt := 124) hx hb dX7_does_4 (by decide) (by decide) ?_
    refine lv_aload_n hx hb dX7_does_124 rfl (lv_at hl 0 rfl) ?_
    refine wv_callMi (As := []) (rest := []) (wr := []) (ws1 := ModC mo sa pa ha ta cJ cI (sM n b fl me (st + (lN (mL fl n b 1000 v).length)) lk cm (sws v (mL fl n b 1000 v)) (sws nu (mL fl n b 1000 v))) (svP true pt ps (sM n b fl me st lk cm v nu)) hd tx (svN true ps) true ty 0 lks lo1 hi1 sp (nI k9) pl gv) ⟨hx, hb, hml, hown, hts⟩ (kX7_mend l D mo sa pa ha ta cJ cI n b fl me st lk cm v nu pt hd tx ps true ty rf lks lo1 hi1 sp (nI k9) pl gv (by first | assumption | omega) (by first | assumption | omega) (by first | assumption | omega)) (cwV 0 hts gX7_does_X7_mend rfl rfl rfl (by decide +kernel) ⟨Nat.le_of_ble_eq_true rfl, Nat.le_of_ble_eq_true rfl⟩) hK hN hP hD hS hA [0, 1, 2, 3, 4] [] [0, 1] [0, 1, 2, 3, 4] rfl rfl (by decide) rfl (by decide) (by decide) rfl (by decide) rfl 0 5 rfl rfl rfl rfl hl.1 rfl (Nat.le_of_ble_eq_true rfl) dX7_does_125 ⟨Nat.zero_le _, Nat.zero_le _⟩ (fun H locs hz9 hP hD hS => ?_)
    have hP : va_P D vwCl (ModC mo sa pa ha ta cJ cI (sM n b fl me (st + (lN (mL fl n b 1000 v).length)) lk cm (sws v (mL fl n b 1000 v)) (sws nu (mL fl n b 1000 v))) (svP true pt ps (sM n b fl me st lk cm v nu)) hd tx (svN true ps) true ty 0 lks lo1 hi1 sp (nI k9) pl gv) H := hP
    have hD : va_D _ (ModC mo sa pa ha ta cJ cI (sM n b fl me (st + (lN (mL fl n b 1000 v).length)) lk cm (sws v (mL fl n b 1000 v)) (sws nu (mL fl n b 1000 v))) (svP true pt ps (sM n b fl me st lk cm v nu)) hd tx (svN true ps) true ty 0 lks lo1 hi1 sp (nI k9) pl gv) := hD
    have er : svP true pt ps (sM n b fl me st lk cm v nu) = pt := rfl
    rw [er] at hP hD
    clear er
    have er : svN true ps = ps := rfl
    rw [er] at hP hD
    clear er
    refine lv_pop hx hb dX7_does_128 rfl ?_
    have ew0_n : ((dmS k9 pl gv (n, b, fl, me, st, lk, cm, v, nu)).2.1) = n := by first | (rw [hk]; simp [dmS, enM, hv, etn]; done) | (rw [hk]; simp [dmS, enM, hv]; done) | (rw [hk]; simp [dmS, enM, hv, hv2, etn]; done) | (rw [hk]; rfl)
    have ew0_b : ((dmS k9 pl gv (n, b, fl, me, st, lk, cm, v, nu)).2.2.1) = b := by first | (rw [hk]; simp [dmS, enM, hv, etn]; done) | (rw [hk]; simp [dmS, enM, hv]; done) | (rw [hk]; simp [dmS, enM, hv, hv2, etn]; done) | (rw [hk]; rfl)
    have ew0_fl : ((dmS k9 pl gv (n, b, fl, me, st, lk, cm, v, nu)).2.2.2.1) = fl := by first | (rw [hk]; simp [dmS, enM, hv, etn]; done) | (rw [hk]; simp [dmS, enM, hv]; done) | (rw [hk]; simp [dmS, enM, hv, hv2, etn]; done) | (rw [hk]; rfl)
    have ew0_me : ((dmS k9 pl gv (n, b, fl, me, st, lk, cm, v, nu)).2.2.2.2.1) = me := by first | (rw [hk]; simp [dmS, enM, hv, etn]; done) | (rw [hk]; simp [dmS, enM, hv]; done) | (rw [hk]; simp [dmS, enM, hv, hv2, etn]; done) | (rw [hk]; rfl)
    have ew0_st : ((dmS k9 pl gv (n, b, fl, me, st, lk, cm, v, nu)).2.2.2.2.2.1) = (st + (lN (mL fl n b 1000 v).length)) := by first | (rw [hk]; simp [dmS, enM, hv, etn]; done) | (rw [hk]; simp [dmS, enM, hv]; done) | (rw [hk]; simp [dmS, enM, hv, hv2, etn]; done) | (rw [hk]; rfl)
    have ew0_lk : ((dmS k9 pl gv (n, b, fl, me, st, lk, cm, v, nu)).2.2.2.2.2.2.1) = lk := by first | (rw [hk]; simp [dmS, enM, hv, etn]; done) | (rw [hk]; simp [dmS, enM, hv]; done) | (rw [hk]; simp [dmS, enM, hv, hv2, etn]; done) | (rw [hk]; rfl)
    have ew0_cm : ((dmS k9 pl gv (n, b, fl, me, st, lk, cm, v, nu)).2.2.2.2.2.2.2.1) = cm := by first | (rw [hk]; simp [dmS, enM, hv, etn]; done) | (rw [hk]; simp [dmS, enM, hv]; done) | (rw [hk]; simp [dmS, enM, hv, hv2, etn]; done) | (rw [hk]; rfl)
    have ew0_v : ((dmS k9 pl gv (n, b, fl, me, st, lk, cm, v, nu)).2.2.2.2.2.2.2.2.1) = (sws v (mL fl n b 1000 v)) := by first | (rw [hk]; simp [dmS, enM, hv, etn]; done) | (rw [hk]; simp [dmS, enM, hv]; done) | (rw [hk]; simp [dmS, enM, hv, hv2, etn]; done) | (rw [hk]; rfl)
    have ew0_nu : ((dmS k9 pl gv (n, b, fl, me, st, lk, cm, v, nu)).2.2.2.2.2.2.2.2.2) = (sws nu (mL fl n b 1000 v)) := by first | (rw [hk]; simp [dmS, enM, hv, etn]; done) | (rw [hk]; simp [dmS, enM, hv]; done) | (rw [hk]; simp [dmS, enM, hv, hv2, etn]; done) | (rw [hk]; rfl)
    have ew0_rf : (dmS k9 pl gv (n, b, fl, me, st, lk, cm, v, nu)).1 = 0 := by first | (rw [hk]; simp [dmS, enM, hv, etn]; done) | (rw [hk]; simp [dmS, enM, hv]; done) | (rw [hk]; simp [dmS, enM, hv, hv2, etn]; done) | (rw [hk]; rfl)
    exact wv_vretM hx hb hr hlocks hP hD hS (by rw [ew0_nu, ew0_v, ew0_cm, ew0_lk, ew0_st, ew0_me, ew0_fl, ew0_b, ew0_n, ew0_rf]) dX7_does_129

set_option maxHeartbeats 4000000 in
set_option maxRecDepth 100000 in
theorem kX7_runCommands_fault (l : Launch) (D : va_G) (mo : Nat) (sa : Nat) (pa : Nat) (ha : Nat) (ta : Nat) (cJ : ClassId) (cI : ClassId) (n : Nat) (b : Nat) (fl : Bool) (me : Bool) (st : Int64) (lk : Int64) (cm : Int64) (v : Nat → Int64) (nu : Nat → Int64) (pt : Nat → Int64) (hd : Nat → Int64) (t9 : Nat → Nat) (ps : Nat) (ty : Nat) (rf : Nat) (lks : Nat) (lo1 : Int32) (hi1 : Int32) (sp : Nat) (cd : Int32) (pl : Int32) (gv : Int64) (f1 : Nat) (htx : ∀ k, t9 k < 128) (hty : ty ≤ 150) (hff : (ffM t9 ty 151 (skS t9 ty 0, cd, pl, gv)).1 = some f1) (hf1 : f1 ≤ 150) : MMi l yX7_runCommands wsX7_runCommands ({ frames := 6, cells := 0, slots := 0, locals := 136 } : Room) [.ref mo] D (ModC mo sa pa ha ta cJ cI (sM n b fl me st lk cm v nu) pt hd (tN t9) ps false ty rf lks lo1 hi1 sp cd pl gv) [(cJ, .long), (cI, .int)] ((-10) - nI f1) (ModC mo sa pa ha ta cJ cI (sM n b fl me st lk cm v nu) pt hd (tN t9) ps false ty 0 lks lo1 hi1 ((ffM t9 ty 151 (skS t9 ty 0, cd, pl, gv)).2.1) ((ffM t9 ty 151 (skS t9 ty 0, cd, pl, gv)).2.2.1) ((ffM t9 ty 151 (skS t9 ty 0, cd, pl, gv)).2.2.2.1) ((ffM t9 ty 151 (skS t9 ty 0, cd, pl, gv)).2.2.2.2)) := by
  refine MMi_of (cc := cX7_runCommands) (maxL := 4) (ret := some .int) (by decide +kernel) rfl (Nat.le_of_ble_eq_true rfl) ?_
  intro p e s m args below meth c hx hb hr hts hown hlocks hml hP hK hN hD ls hl
  have hown : s.vm.findClass RX7 = some m.cls := hown
  have hl : lv_has ls 4 [(0, .ref mo)] := hl
  have hS : va_S (va_A (ModC mo sa pa ha ta cJ cI (sM n b fl me st lk cm v nu) pt hd (tN t9) ps false ty rf lks lo1 hi1 sp cd pl gv) s.heap.size) s.heap s.heap [] := va_S.rf
  have hA := wk_hA (ModC mo sa pa ha ta cJ cI (sM n b fl me st lk cm v nu) pt hd (tN t9) ps false ty rf lks lo1 hi1 sp cd pl gv) s.heap.size
  have hD9 : True := trivial
  have hinX7 : ∀ w ∈ wsX70, w ∈ wsX7_runCommands := by decide +kernel
  refine lv_aload_n hx hb dX7_runCommands_0 rfl (lv_at hl 0 rfl) ?_
  refine lv_iconst (v := nI 0) hx hb dX7_runCommands_1 (by decide) ?_
  refine va_put (D := D) (ci := 5) (v := .int (nI 0)) (ty := .int) (C := RX7) (T := TX7) (N := 15) hx hb hts hinX7 tyX7 tyX7_ok nmX7 hown hK hP hD hS 0 rfl rfl 7 (by decide) (hts (.fieldLink RX7 25 "NearRanksModel" "refused" "I") (by decide +kernel)) (fun _ h9 => h9) rfl (by decide +kernel) rfl rfl (Nat.le_of_ble_eq_true rfl) dX7_runCommands_2 (fun H locs hP hD hS => ?_)
  have hP : va_P D vwCl (ModC mo sa pa ha ta cJ cI (sM n b fl me st lk cm v nu) pt hd (tN t9) ps false ty 0 lks lo1 hi1 sp cd pl gv) H := hP
  have hD : va_D _ (ModC mo sa pa ha ta cJ cI (sM n b fl me st lk cm v nu) pt hd (tN t9) ps false ty 0 lks lo1 hi1 sp cd pl gv) := hD
  refine lv_aload_n hx hb dX7_runCommands_5 rfl (lv_at hl 0 rfl) ?_
  refine wv_callMi (As := []) (rest := []) (wr := []) (ws1 := ModC mo sa pa ha ta cJ cI (sM n b fl me st lk cm v nu) pt hd (tN t9) ps false ty 0 lks lo1 hi1 ((ffM t9 ty 151 (skS t9 ty 0, cd, pl, gv)).2.1) ((ffM t9 ty 151 (skS t9 ty 0, cd, pl, gv)).2.2.1) ((ffM t9 ty 151 (skS t9 ty 0, cd, pl, gv)).2.2.2.1) ((ffM t9 ty 151 (skS t9 ty 0, cd, pl, gv)).2.2.2.2)) ⟨hx, hb, hml, hown, hts⟩ (kX7_fault l D mo sa pa ha ta cJ cI n b fl me st lk cm v nu pt hd t9 ps false ty 0 lks lo1 hi1 sp cd pl gv (by first | assumption | omega) (by first | assumption | omega)) (cwV 0 hts gX7_runCommands_X7_fault rfl rfl rfl (by decide +kernel) ⟨Nat.le_of_ble_eq_true rfl, Nat.le_of_ble_eq_true rfl⟩) hK hN hP hD hS hA [0, 1, 2, 3, 4] [] [0, 1] [0, 1, 2, 3, 4] rfl rfl (by decide) rfl (by decide) (by decide) rfl (by decide) rfl 0 5 rfl rfl rfl rfl hl.1 rfl (Nat.le_of_ble_eq_true rfl) dX7_runCommands_6 ⟨Nat.zero_le _, Nat.zero_le _⟩ (fun H locs hz9 hP hD hS => ?_)
  refine wv_ti (y := nI f1) (by rw [hff]; rfl) ?_
  refine lv_istore_n (lv' := [(1, .int (nI f1)), (0, .ref mo)]) hx hb dX7_runCommands_9 rfl hl (by decide) rfl (fun ls hl => ?_)
  refine lv_iload_n hx hb dX7_runCommands_10 rfl (lv_at hl 0 rfl) ?_
  refine lv_sipush (v := (-1000)) hx hb dX7_runCommands_11 (by decide) ?_
  refine lv_icmp_eq (tgt := 22) hx hb dX7_runCommands_14 (by decide) (fun c14 => by exfalso; exact nk_ne (by omega) c14) (fun c14 => ?_)
  refine lv_bipush (v := (-10)) hx hb dX7_runCommands_17 (by decide) ?_
  refine lv_iload_n hx hb dX7_runCommands_19 rfl (lv_at hl 0 rfl) ?_
  refine lv_isub hx hb dX7_runCommands_20 ?_
  exact wv_iretM hx hb hr hlocks hP hD hS (by first | rfl | (simp [bI, *]; done) | (simp_all [bI]; done)) rfl dX7_runCommands_21

set_option maxHeartbeats 4000000 in
set_option maxRecDepth 100000 in
theorem kX7_runCommands (l : Launch) (D : va_G) (mo : Nat) (sa : Nat) (pa : Nat) (ha : Nat) (ta : Nat) (cJ : ClassId) (cI : ClassId) (n : Nat) (b : Nat) (fl : Bool) (me : Bool) (st : Int64) (lk : Int64) (cm : Int64) (v : Nat → Int64) (nu : Nat → Int64) (pt : Nat → Int64) (hd : Nat → Int64) (t9 : Nat → Nat) (ps : Nat) (ty : Nat) (rf : Nat) (lks : Nat) (lo1 : Int32) (hi1 : Int32) (sp : Nat) (cd : Int32) (pl : Int32) (gv : Int64) (htx : ∀ k, t9 k < 128) (hty : ty ≤ 150) (hn : n ≤ 32) (hb : b ≤ 31) (hps : ps ≤ 4) (hff : (ffM t9 ty 151 (skS t9 ty 0, cd, pl, gv)).1 = none) : MMi l yX7_runCommands wsX7_runCommands ({ frames := 9, cells := 0, slots := 0, locals := 201 } : Room) [.ref mo] D (ModC mo sa pa ha ta cJ cI (sM n b fl me st lk cm v nu) pt hd (tN t9) ps false ty rf lks lo1 hi1 sp cd pl gv) [(cJ, .long), (cI, .int)] (nI ((rmS t9 ty 151 (skS t9 ty 0, (ffM t9 ty 151 (skS t9 ty 0, cd, pl, gv)).2.2) (n, b, fl, me, st, lk, cm, v, nu)).1)) (ModC mo sa pa ha ta cJ cI (sM ((rmS t9 ty 151 (skS t9 ty 0, (ffM t9 ty 151 (skS t9 ty 0, cd, pl, gv)).2.2) (n, b, fl, me, st, lk, cm, v, nu)).2.2.1) ((rmS t9 ty 151 (skS t9 ty 0, (ffM t9 ty 151 (skS t9 ty 0, cd, pl, gv)).2.2) (n, b, fl, me, st, lk, cm, v, nu)).2.2.2.1) ((rmS t9 ty 151 (skS t9 ty 0, (ffM t9 ty 151 (skS t9 ty 0, cd, pl, gv)).2.2) (n, b, fl, me, st, lk, cm, v, nu)).2.2.2.2.1) ((rmS t9 ty 151 (skS t9 ty 0, (ffM t9 ty 151 (skS t9 ty 0, cd, pl, gv)).2.2) (n, b, fl, me, st, lk, cm, v, nu)).2.2.2.2.2.1) ((rmS t9 ty 151 (skS t9 ty 0, (ffM t9 ty 151 (skS t9 ty 0, cd, pl, gv)).2.2) (n, b, fl, me, st, lk, cm, v, nu)).2.2.2.2.2.2.1) ((rmS t9 ty 151 (skS t9 ty 0, (ffM t9 ty 151 (skS t9 ty 0, cd, pl, gv)).2.2) (n, b, fl, me, st, lk, cm, v, nu)).2.2.2.2.2.2.2.1) ((rmS t9 ty 151 (skS t9 ty 0, (ffM t9 ty 151 (skS t9 ty 0, cd, pl, gv)).2.2) (n, b, fl, me, st, lk, cm, v, nu)).2.2.2.2.2.2.2.2.1) ((rmS t9 ty 151 (skS t9 ty 0, (ffM t9 ty 151 (skS t9 ty 0, cd, pl, gv)).2.2) (n, b, fl, me, st, lk, cm, v, nu)).2.2.2.2.2.2.2.2.2.1) ((rmS t9 ty 151 (skS t9 ty 0, (ffM t9 ty 151 (skS t9 ty 0, cd, pl, gv)).2.2) (n, b, fl, me, st, lk, cm, v, nu)).2.2.2.2.2.2.2.2.2.2)) (svP false pt ps (sM n b fl me st lk cm v nu)) hd (tN t9) (svN false ps) false ty 0 lks lo1 hi1 ((rmS t9 ty 151 (skS t9 ty 0, (ffM t9 ty 151 (skS t9 ty 0, cd, pl, gv)).2.2) (n, b, fl, me, st, lk, cm, v, nu)).2.1.1) ((rmS t9 ty 151 (skS t9 ty 0, (ffM t9 ty 151 (skS t9 ty 0, cd, pl, gv)).2.2) (n, b, fl, me, st, lk, cm, v, nu)).2.1.2.1) ((rmS t9 ty 151 (skS t9 ty 0, (ffM t9 ty 151 (skS t9 ty 0, cd, pl, gv)).2.2) (n, b, fl, me, st, lk, cm, v, nu)).2.1.2.2.1) ((rmS t9 ty 151 (skS t9 ty 0, (ffM t9 ty 151 (skS t9 ty 0, cd, pl, gv)).2.2) (n, b, fl, me, st, lk, cm, v, nu)).2.1.2.2.2)) := by
  refine MMi_of (cc := cX7_runCommands) (maxL := 4) (ret := some .int) (by decide +kernel) rfl (Nat.le_of_ble_eq_true rfl) ?_
  intro p e s m args below meth c hx hb hr hts hown hlocks hml hP hK hN hD ls hl
  have hown : s.vm.findClass RX7 = some m.cls := hown
  have hl : lv_has ls 4 [(0, .ref mo)] := hl
  have hS : va_S (va_A (ModC mo sa pa ha ta cJ cI (sM n b fl me st lk cm v nu) pt hd (tN t9) ps false ty rf lks lo1 hi1 sp cd pl gv) s.heap.size) s.heap s.heap [] := va_S.rf
  have hA := wk_hA (ModC mo sa pa ha ta cJ cI (sM n b fl me st lk cm v nu) pt hd (tN t9) ps false ty rf lks lo1 hi1 sp cd pl gv) s.heap.size
  have hD9 : True := trivial
  have hinX7 : ∀ w ∈ wsX70, w ∈ wsX7_runCommands := by decide +kernel
  have hs9 := skS_le (c := t9) (Nat.zero_le ty)
  refine lv_aload_n hx hb dX7_runCommands_0 rfl (lv_at hl 0 rfl) ?_
  refine lv_iconst (v := nI 0) hx hb dX7_runCommands_1 (by decide) ?_
  refine va_put (D := D) (ci := 5) (v := .int (nI 0)) (ty := .int) (C := RX7) (T := TX7) (N := 15) hx hb hts hinX7 tyX7 tyX7_ok nmX7 hown hK hP hD hS 0 rfl rfl 7 (by decide) (hts (.fieldLink RX7 25 "NearRanksModel" "refused" "I") (by decide +kernel)) (fun _ h9 => h9) rfl (by decide +kernel) rfl rfl (Nat.le_of_ble_eq_true rfl) dX7_runCommands_2 (fun H locs hP hD hS => ?_)
  have hP : va_P D vwCl (ModC mo sa pa ha ta cJ cI (sM n b fl me st lk cm v nu) pt hd (tN t9) ps false ty 0 lks lo1 hi1 sp cd pl gv) H := hP
  have hD : va_D _ (ModC mo sa pa ha ta cJ cI (sM n b fl me st lk cm v nu) pt hd (tN t9) ps false ty 0 lks lo1 hi1 sp cd pl gv) := hD
  refine lv_aload_n hx hb dX7_runCommands_5 rfl (lv_at hl 0 rfl) ?_
  refine wv_callMi (As := []) (rest := []) (wr := []) (ws1 := ModC mo sa pa ha ta cJ cI (sM n b fl me st lk cm v nu) pt hd (tN t9) ps false ty 0 lks lo1 hi1 ((ffM t9 ty 151 (skS t9 ty 0, cd, pl, gv)).2.1) ((ffM t9 ty 151 (skS t9 ty 0, cd, pl, gv)).2.2.1) ((ffM t9 ty 151 (skS t9 ty 0, cd, pl, gv)).2.2.2.1) ((ffM t9 ty 151 (skS t9 ty 0, cd, pl, gv)).2.2.2.2)) ⟨hx, hb, hml, hown, hts⟩ (kX7_fault l D mo sa pa ha ta cJ cI n b fl me st lk cm v nu pt hd t9 ps false ty 0 lks lo1 hi1 sp cd pl gv (by first | assumption | omega) (by first | assumption | omega)) (cwV 0 hts gX7_runCommands_X7_fault rfl rfl rfl (by decide +kernel) ⟨Nat.le_of_ble_eq_true rfl, Nat.le_of_ble_eq_true rfl⟩) hK hN hP hD hS hA [0, 1, 2, 3, 4] [] [0, 1] [0, 1, 2, 3, 4] rfl rfl (by decide) rfl (by decide) (by decide) rfl (by decide) rfl 0 5 rfl rfl rfl rfl hl.1 rfl (Nat.le_of_ble_eq_true rfl) dX7_runCommands_6 ⟨Nat.zero_le _, Nat.zero_le _⟩ (fun H locs hz9 hP hD hS => ?_)
  refine wv_ti (y := (-1000)) (by rw [hff]; rfl) ?_
  refine lv_istore_n (lv' := [(1, .int (-1000)), (0, .ref mo)]) hx hb dX7_runCommands_9 rfl hl (by decide) rfl (fun ls hl => ?_)
  refine lv_iload_n hx hb dX7_runCommands_10 rfl (lv_at hl 0 rfl) ?_
  refine lv_sipush (v := (-1000)) hx hb dX7_runCommands_11 (by decide) ?_
  refine lv_icmp_eq (tgt := 22) hx hb dX7_runCommands_14 (by decide) (fun c14 => ?_) (fun c14 => by exfalso; exact c14 rfl)
  refine lv_aload_n hx hb dX7_runCommands_22 rfl (lv_at hl 1 rfl) ?_
  refine wv_callMv (As := []) (rest := []) (wr := []) (ws1 := ModC mo sa pa ha ta cJ cI (sM n b fl me st lk cm v nu) (svP false pt ps (sM n b fl me st lk cm v nu)) hd (tN t9) (svN false ps) false ty 0 lks lo1 hi1 ((ffM t9 ty 151 (skS t9 ty 0, cd, pl, gv)).2.1) ((ffM t9 ty 151 (skS t9 ty 0, cd, pl, gv)).2.2.1) ((ffM t9 ty 151 (skS t9 ty 0, cd, pl, gv)).2.2.2.1) ((ffM t9 ty 151 (skS t9 ty 0, cd, pl, gv)).2.2.2.2)) ⟨hx, hb, hml, hown, hts⟩ (kX7_saves l D mo sa pa ha ta cJ cI n b fl me st lk cm v nu pt hd (tN t9) ps false ty 0 lks lo1 hi1 ((ffM t9 ty 151 (skS t9 ty 0, cd, pl, gv)).2.1) ((ffM t9 ty 151 (skS t9 ty 0, cd, pl, gv)).2.2.1) ((ffM t9 ty 151 (skS t9 ty 0, cd, pl, gv)).2.2.2.1) ((ffM t9 ty 151 (skS t9 ty 0, cd, pl, gv)).2.2.2.2) (by first | assumption | omega)) (cwV 0 hts gX7_runCommands_X7_saves rfl rfl rfl (by decide +kernel) ⟨Nat.le_of_ble_eq_true rfl, Nat.le_of_ble_eq_true rfl⟩) hK hN hP hD hS hA [0, 1, 2, 3, 4] [] [0, 1] [0, 1, 2, 3, 4] rfl rfl (by decide) rfl (by decide) (by decide) rfl (by decide) rfl 0 5 rfl rfl rfl rfl hl.1 rfl (Nat.le_of_ble_eq_true rfl) dX7_runCommands_23 ⟨Nat.zero_le _, Nat.zero_le _⟩ (fun H locs hz9 hP hD hS => ?_)
  refine lv_aload_n hx hb dX7_runCommands_26 rfl (lv_at hl 1 rfl) ?_
  refine lv_iconst (v := nI 1) hx hb dX7_runCommands_27 (by decide) ?_
  refine va_put (D := D) (ci := 5) (v := .int (bI true)) (ty := .boolean) (C := RX7) (T := TX7) (N := 15) hx hb hts hinX7 tyX7 tyX7_ok nmX7 hown hK hP hD hS 0 rfl rfl 4 (by decide) (hts (.fieldLink RX7 29 "NearRanksModel" "runs" "Z") (by decide +kernel)) (fun _ h9 => h9) rfl (by decide +kernel) (bI_nar _) (bI_fit _) (Nat.le_of_ble_eq_true rfl) dX7_runCommands_28 (fun H locs hP hD hS => ?_)
  have hP : va_P D vwCl (ModC mo sa pa ha ta cJ cI (sM n b fl me st lk cm v nu) (svP false pt ps (sM n b fl me st lk cm v nu)) hd (tN t9) (svN false ps) true ty 0 lks lo1 hi1 ((ffM t9 ty 151 (skS t9 ty 0, cd, pl, gv)).2.1) ((ffM t9 ty 151 (skS t9 ty 0, cd, pl, gv)).2.2.1) ((ffM t9 ty 151 (skS t9 ty 0, cd, pl, gv)).2.2.2.1) ((ffM t9 ty 151 (skS t9 ty 0, cd, pl, gv)).2.2.2.2)) H := hP
  have hD : va_D _ (ModC mo sa pa ha ta cJ cI (sM n b fl me st lk cm v nu) (svP false pt ps (sM n b fl me st lk cm v nu)) hd (tN t9) (svN false ps) true ty 0 lks lo1 hi1 ((ffM t9 ty 151 (skS t9 ty 0, cd, pl, gv)).2.1) ((ffM t9 ty 151 (skS t9 ty 0, cd, pl, gv)).2.2.1) ((ffM t9 ty 151 (skS t9 ty 0, cd, pl, gv)).2.2.2.1) ((ffM t9 ty 151 (skS t9 ty 0, cd, pl, gv)).2.2.2.2)) := hD
  refine lv_iconst (v := nI 0) hx hb dX7_runCommands_31 (by decide) ?_
  refine lv_istore_n (lv' := [(2, .int (nI 0)), (1, .int (-1000)), (0, .ref mo)]) hx hb dX7_runCommands_32 rfl hl (by decide) rfl (fun ls hl => ?_)
  refine lv_iconst (v := nI 1) hx hb dX7_runCommands_33 (by decide) ?_
  refine lv_istore_n (lv' := [(3, .int (nI 1)), (2, .int (nI 0)), (1, .int (-1000)), (0, .ref mo)]) hx hb dX7_runCommands_34 rfl hl (by decide) rfl (fun ls hl => ?_)
  refine lv_aload_n hx hb dX7_runCommands_35 rfl (lv_at hl 3 rfl) ?_
  refine lv_iconst (v := nI 0) hx hb dX7_runCommands_36 (by decide) ?_
  refine va_put (D := D) (ci := 5) (v := .int (nI 0)) (ty := .int) (C := RX7) (T := TX7) (N := 15) hx hb hts hinX7 tyX7 tyX7_ok nmX7 hown hK hP hD hS 0 rfl rfl 11 (by decide) (hts (.fieldLink RX7 160 "NearRanksModel" "spot" "I") (by decide +kernel)) (fun _ h9 => h9) rfl (by decide +kernel) rfl rfl (Nat.le_of_ble_eq_true rfl) dX7_runCommands_37 (fun H locs hP hD hS => ?_)
  have hP : va_P D vwCl (ModC mo sa pa ha ta cJ cI (sM n b fl me st lk cm v nu) (svP false pt ps (sM n b fl me st lk cm v nu)) hd (tN t9) (svN false ps) true ty 0 lks lo1 hi1 0 ((ffM t9 ty 151 (skS t9 ty 0, cd, pl, gv)).2.2.1) ((ffM t9 ty 151 (skS t9 ty 0, cd, pl, gv)).2.2.2.1) ((ffM t9 ty 151 (skS t9 ty 0, cd, pl, gv)).2.2.2.2)) H := hP
  have hD : va_D _ (ModC mo sa pa ha ta cJ cI (sM n b fl me st lk cm v nu) (svP false pt ps (sM n b fl me st lk cm v nu)) hd (tN t9) (svN false ps) true ty 0 lks lo1 hi1 0 ((ffM t9 ty 151 (skS t9 ty 0, cd, pl, gv)).2.2.1) ((ffM t9 ty 151 (skS t9 ty 0, cd, pl, gv)).2.2.2.1) ((ffM t9 ty 151 (skS t9 ty 0, cd, pl, gv)).2.2.2.2)) := hD
  refine lv_aload_n hx hb dX7_runCommands_40 rfl (lv_at hl 3 rfl) ?_
  refine wv_callMv (As := []) (rest := []) (wr := []) (ws1 := ModC mo sa pa ha ta cJ cI (sM n b fl me st lk cm v nu) (svP false pt ps (sM n b fl me st lk cm v nu)) hd (tN t9) (svN false ps) true ty 0 lks lo1 hi1 (skS t9 ty 0) ((ffM t9 ty 151 (skS t9 ty 0, cd, pl, gv)).2.2.1) ((ffM t9 ty 151 (skS t9 ty 0, cd, pl, gv)).2.2.2.1) ((ffM t9 ty 151 (skS t9 ty 0, cd, pl, gv)).2.2.2.2)) ⟨hx, hb, hml, hown, hts⟩ (kX7_skips l D mo sa pa ha ta cJ cI n b fl me st lk cm v nu (svP false pt ps (sM n b fl me st lk cm v nu)) hd t9 (svN false ps) true ty 0 lks lo1 hi1 0 ((ffM t9 ty 151 (skS t9 ty 0, cd, pl, gv)).2.2.1) ((ffM t9 ty 151 (skS t9 ty 0, cd, pl, gv)).2.2.2.1) ((ffM t9 ty 151 (skS t9 ty 0, cd, pl, gv)).2.2.2.2) (by first | assumption | omega) (by first | assumption | omega) (by first | assumption | omega)) (cwV 0 hts gX7_runCommands_X7_skips rfl rfl rfl (by decide +kernel) ⟨Nat.le_of_ble_eq_true rfl, Nat.le_of_ble_eq_true rfl⟩) hK hN hP hD hS hA [0, 1, 2, 3, 4] [] [0, 1] [0, 1, 2, 3, 4] rfl rfl (by decide) rfl (by decide) (by decide) rfl (by decide) rfl 0 5 rfl rfl rfl rfl hl.1 rfl (Nat.le_of_ble_eq_true rfl) dX7_runCommands_41 ⟨Nat.zero_le _, Nat.zero_le _⟩ (fun H locs hz9 hP hD hS => ?_)
  have el_w0_n : (n, b, fl, me, st, lk, cm, v, nu).1 = n := by first | rfl | omega | (simp [*]; done)
  have el_w0_b : (n, b, fl, me, st, lk, cm, v, nu).2.1 = b := by first | rfl | omega | (simp [*]; done)
  have el_w0_fl : (n, b, fl, me, st, lk, cm, v, nu).2.2.1 = fl := by first | rfl | omega | (simp [*]; done)
  have el_w0_me : (n, b, fl, me, st, lk, cm, v, nu).2.2.2.1 = me := by first | rfl | omega | (simp [*]; done)
  have el_w0_st : (n, b, fl, me, st, lk, cm, v, nu).2.2.2.2.1 = st := by first | rfl | omega | (simp [*]; done)
  have el_w0_lk : (n, b, fl, me, st, lk, cm, v, nu).2.2.2.2.2.1 = lk := by first | rfl | omega | (simp [*]; done)
  have el_w0_cm : (n, b, fl, me, st, lk, cm, v, nu).2.2.2.2.2.2.1 = cm := by first | rfl | omega | (simp [*]; done)
  have el_w0_v : (n, b, fl, me, st, lk, cm, v, nu).2.2.2.2.2.2.2.1 = v := by first | rfl | omega | (simp [*]; done)
  have el_w0_nu : (n, b, fl, me, st, lk, cm, v, nu).2.2.2.2.2.2.2.2 = nu := by first | rfl | omega | (simp [*]; done)
  have el_w0_sp : (skS t9 ty 0, (ffM t9 ty 151 (skS t9 ty 0, cd, pl, gv)).2.2).1 = skS t9 ty 0 := by first | rfl | omega | (simp [*]; done)
  have el_w0_cd : (skS t9 ty 0, (ffM t9 ty 151 (skS t9 ty 0, cd, pl, gv)).2.2).2.1 = (ffM t9 ty 151 (skS t9 ty 0, cd, pl, gv)).2.2.1 := by rfl
  have el_w0_pl : (skS t9 ty 0, (ffM t9 ty 151 (skS t9 ty 0, cd, pl, gv)).2.2).2.2.1 = (ffM t9 ty 151 (skS t9 ty 0, cd, pl, gv)).2.2.2.1 := by first | rfl | omega | (simp [*]; done)
  have el_w0_gv : (skS t9 ty 0, (ffM t9 ty 151 (skS t9 ty 0, cd, pl, gv)).2.2).2.2.2 = (ffM t9 ty 151 (skS t9 ty 0, cd, pl, gv)).2.2.2.2 := by first | rfl | omega | (simp [*]; done)
  have loop44 : ∀ (K : Nat) (i : Nat) (w9 : MS) (z9 : MT) (rf9 : Nat), ty - w9.1 < K → i ≤ w9.1 → w9.1 ≤ ty → okM z9 → (ffM t9 ty (151 - i) w9).1 = none → (rmS t9 ty 151 (skS t9 ty 0, (ffM t9 ty 151 (skS t9 ty 0, cd, pl, gv)).2.2) (n, b, fl, me, st, lk, cm, v, nu)) = ((rmS t9 ty (151 - i) w9 z9).1 + i, (rmS t9 ty (151 - i) w9 z9).2) → ∀ (H : Heap) (locs : List Loc), va_P D vwCl (ModC mo sa pa ha ta cJ cI (sM z9.1 z9.2.1 z9.2.2.1 z9.2.2.2.1 z9.2.2.2.2.1 z9.2.2.2.2.2.1 z9.2.2.2.2.2.2.1 z9.2.2.2.2.2.2.2.1 z9.2.2.2.2.2.2.2.2) (svP false pt ps (sM n b fl me st lk cm v nu)) hd (tN t9) (svN false ps) true ty rf9 lks lo1 hi1 w9.1 w9.2.1 w9.2.2.1 w9.2.2.2) H → va_D (va_A (ModC mo sa pa ha ta cJ cI (sM n b fl me st lk cm v nu) pt hd (tN t9) ps false ty rf lks lo1 hi1 sp cd pl gv) s.heap.size) (ModC mo sa pa ha ta cJ cI (sM z9.1 z9.2.1 z9.2.2.1 z9.2.2.2.1 z9.2.2.2.2.1 z9.2.2.2.2.2.1 z9.2.2.2.2.2.2.1 z9.2.2.2.2.2.2.2.1 z9.2.2.2.2.2.2.2.2) (svP false pt ps (sM n b fl me st lk cm v nu)) hd (tN t9) (svN false ps) true ty rf9 lks lo1 hi1 w9.1 w9.2.1 w9.2.2.1 w9.2.2.2) → va_S (va_A (ModC mo sa pa ha ta cJ cI (sM n b fl me st lk cm v nu) pt hd (tN t9) ps false ty rf lks lo1 hi1 sp cd pl gv) s.heap.size) s.heap H locs → ∀ ls : Array Slot, lv_has ls 4 [(0, .ref mo), (2, .int (nI i)), (3, .int (nI 1))] → W p l e ({ frames := 9, cells := 0, slots := 0, locals := 201 } : Room) s m args below meth c H locs 0 0 (ZMi below args s D (ModC mo sa pa ha ta cJ cI (sM n b fl me st lk cm v nu) pt hd (tN t9) ps false ty rf lks lo1 hi1 sp cd pl gv) (nI ((rmS t9 ty 151 (skS t9 ty 0, (ffM t9 ty 151 (skS t9 ty 0, cd, pl, gv)).2.2) (n, b, fl, me, st, lk, cm, v, nu)).1)) (ModC mo sa pa ha ta cJ cI (sM ((rmS t9 ty 151 (skS t9 ty 0, (ffM t9 ty 151 (skS t9 ty 0, cd, pl, gv)).2.2) (n, b, fl, me, st, lk, cm, v, nu)).2.2.1) ((rmS t9 ty 151 (skS t9 ty 0, (ffM t9 ty 151 (skS t9 ty 0, cd, pl, gv)).2.2) (n, b, fl, me, st, lk, cm, v, nu)).2.2.2.1) ((rmS t9 ty 151 (skS t9 ty 0, (ffM t9 ty 151 (skS t9 ty 0, cd, pl, gv)).2.2) (n, b, fl, me, st, lk, cm, v, nu)).2.2.2.2.1) ((rmS t9 ty 151 (skS t9 ty 0, (ffM t9 ty 151 (skS t9 ty 0, cd, pl, gv)).2.2) (n, b, fl, me, st, lk, cm, v, nu)).2.2.2.2.2.1) ((rmS t9 ty 151 (skS t9 ty 0, (ffM t9 ty 151 (skS t9 ty 0, cd, pl, gv)).2.2) (n, b, fl, me, st, lk, cm, v, nu)).2.2.2.2.2.2.1) ((rmS t9 ty 151 (skS t9 ty 0, (ffM t9 ty 151 (skS t9 ty 0, cd, pl, gv)).2.2) (n, b, fl, me, st, lk, cm, v, nu)).2.2.2.2.2.2.2.1) ((rmS t9 ty 151 (skS t9 ty 0, (ffM t9 ty 151 (skS t9 ty 0, cd, pl, gv)).2.2) (n, b, fl, me, st, lk, cm, v, nu)).2.2.2.2.2.2.2.2.1) ((rmS t9 ty 151 (skS t9 ty 0, (ffM t9 ty 151 (skS t9 ty 0, cd, pl, gv)).2.2) (n, b, fl, me, st, lk, cm, v, nu)).2.2.2.2.2.2.2.2.2.1) ((rmS t9 ty 151 (skS t9 ty 0, (ffM t9 ty 151 (skS t9 ty 0, cd, pl, gv)).2.2) (n, b, fl, me, st, lk, cm, v, nu)).2.2.2.2.2.2.2.2.2.2)) (svP false pt ps (sM n b fl me st lk cm v nu)) hd (tN t9) (svN false ps) false ty 0 lks lo1 hi1 ((rmS t9 ty 151 (skS t9 ty 0, (ffM t9 ty 151 (skS t9 ty 0, cd, pl, gv)).2.2) (n, b, fl, me, st, lk, cm, v, nu)).2.1.1) ((rmS t9 ty 151 (skS t9 ty 0, (ffM t9 ty 151 (skS t9 ty 0, cd, pl, gv)).2.2) (n, b, fl, me, st, lk, cm, v, nu)).2.1.2.1) ((rmS t9 ty 151 (skS t9 ty 0, (ffM t9 ty 151 (skS t9 ty 0, cd, pl, gv)).2.2) (n, b, fl, me, st, lk, cm, v, nu)).2.1.2.2.1) ((rmS t9 ty 151 (skS t9 ty 0, (ffM t9 ty 151 (skS t9 ty 0, cd, pl, gv)).2.2) (n, b, fl, me, st, lk, cm, v, nu)).2.1.2.2.2))) (F0 m 44 ls []) := by
    intro K
    induction K with
    | zero => intro i w9 z9 rf9 hK0; exact absurd hK0 (Nat.not_lt_zero _)
    | succ K ih44 =>
      intro i w9 z9 rf9 hKm hi hq hz hnf hrc H locs hP hD hS ls hl
      refine lv_iload_n hx hb dX7_runCommands_44 rfl (lv_at hl 2 rfl) ?_
      refine lv_if_eq (tgt := 100) hx hb dX7_runCommands_45 (by decide) (fun h => absurd h (by decide)) (fun _ => ?_)
      refine lv_aload_n hx hb dX7_runCommands_48 rfl (lv_at hl 0 rfl) ?_
      refine va_get (D := D) (ci := 5) (C := RX7) (T := TX7) (N := 15) hx hb hts hinX7 hown hK hP 0 rfl rfl 11 (by decide) (hts (.fieldLink RX7 160 "NearRanksModel" "spot" "I") (by decide +kernel)) (fun _ h9 => h9) rfl dX7_runCommands_49 ?_
      refine lv_aload_n hx hb dX7_runCommands_52 rfl (lv_at hl 0 rfl) ?_
      refine va_get (D := D) (ci := 5) (C := RX7) (T := TX7) (N := 15) hx hb hts hinX7 hown hK hP 0 rfl rfl 6 (by decide) (hts (.fieldLink RX7 136 "NearRanksModel" "typed" "I") (by decide +kernel)) (fun _ h9 => h9) rfl dX7_runCommands_53 ?_
      refine wv_icmp_ge (tgt := 100) hx hb (by omega) (by omega) dX7_runCommands_56 (by decide) (fun c56 => ?_) (fun c56 => ?_)
      · skip
        refine lv_aload_n hx hb dX7_runCommands_100 rfl (lv_at hl 0 rfl) ?_
        refine lv_iconst (v := nI 0) hx hb dX7_runCommands_101 (by decide) ?_
        refine va_put (D := D) (ci := 5) (v := .int (bI false)) (ty := .boolean) (C := RX7) (T := TX7) (N := 15) hx hb hts hinX7 tyX7 tyX7_ok nmX7 hown hK hP hD hS 0 rfl rfl 4 (by decide) (hts (.fieldLink RX7 29 "NearRanksModel" "runs" "Z") (by decide +kernel)) (fun _ h9 => h9) rfl (by decide +kernel) (bI_nar _) (bI_fit _) (Nat.le_of_ble_eq_true rfl) dX7_runCommands_102 (fun H locs hP hD hS => ?_)
        have hP : va_P D vwCl (ModC mo sa pa ha ta cJ cI (sM z9.1 z9.2.1 z9.2.2.1 z9.2.2.2.1 z9.2.2.2.2.1 z9.2.2.2.2.2.1 z9.2.2.2.2.2.2.1 z9.2.2.2.2.2.2.2.1 z9.2.2.2.2.2.2.2.2) (svP false pt ps (sM n b fl me st lk cm v nu)) hd (tN t9) (svN false ps) false ty rf9 lks lo1 hi1 w9.1 w9.2.1 w9.2.2.1 w9.2.2.2) H := hP
        have hD : va_D _ (ModC mo sa pa ha ta cJ cI (sM z9.1 z9.2.1 z9.2.2.1 z9.2.2.2.1 z9.2.2.2.2.1 z9.2.2.2.2.2.1 z9.2.2.2.2.2.2.1 z9.2.2.2.2.2.2.2.1 z9.2.2.2.2.2.2.2.2) (svP false pt ps (sM n b fl me st lk cm v nu)) hd (tN t9) (svN false ps) false ty rf9 lks lo1 hi1 w9.1 w9.2.1 w9.2.2.1 w9.2.2.2) := hD
        refine lv_aload_n hx hb dX7_runCommands_105 rfl (lv_at hl 0 rfl) ?_
        refine lv_iconst (v := nI 0) hx hb dX7_runCommands_106 (by decide) ?_
        refine va_put (D := D) (ci := 5) (v := .int (nI 0)) (ty := .int) (C := RX7) (T := TX7) (N := 15) hx hb hts hinX7 tyX7 tyX7_ok nmX7 hown hK hP hD hS 0 rfl rfl 7 (by decide) (hts (.fieldLink RX7 25 "NearRanksModel" "refused" "I") (by decide +kernel)) (fun _ h9 => h9) rfl (by decide +kernel) rfl rfl (Nat.le_of_ble_eq_true rfl) dX7_runCommands_107 (fun H locs hP hD hS => ?_)
        have hP : va_P D vwCl (ModC mo sa pa ha ta cJ cI (sM z9.1 z9.2.1 z9.2.2.1 z9.2.2.2.1 z9.2.2.2.2.1 z9.2.2.2.2.2.1 z9.2.2.2.2.2.2.1 z9.2.2.2.2.2.2.2.1 z9.2.2.2.2.2.2.2.2) (svP false pt ps (sM n b fl me st lk cm v nu)) hd (tN t9) (svN false ps) false ty 0 lks lo1 hi1 w9.1 w9.2.1 w9.2.2.1 w9.2.2.2) H := hP
        have hD : va_D _ (ModC mo sa pa ha ta cJ cI (sM z9.1 z9.2.1 z9.2.2.1 z9.2.2.2.1 z9.2.2.2.2.1 z9.2.2.2.2.2.1 z9.2.2.2.2.2.2.1 z9.2.2.2.2.2.2.2.1 z9.2.2.2.2.2.2.2.2) (svP false pt ps (sM n b fl me st lk cm v nu)) hd (tN t9) (svN false ps) false ty 0 lks lo1 hi1 w9.1 w9.2.1 w9.2.2.1 w9.2.2.2) := hD
        refine lv_iload_n hx hb dX7_runCommands_110 rfl (lv_at hl 1 rfl) ?_
        have ew0_n : ((rmS t9 ty 151 (skS t9 ty 0, (ffM t9 ty 151 (skS t9 ty 0, cd, pl, gv)).2.2) (n, b, fl, me, st, lk, cm, v, nu)).2.2.1) = z9.1 := by rw [hrc, show 151 - i = (151 - (i + 1)) + 1 by omega, rmS_e (by omega)]; first | done | rfl | exact congrArg nI (Nat.zero_add i).symm
        have ew0_b : ((rmS t9 ty 151 (skS t9 ty 0, (ffM t9 ty 151 (skS t9 ty 0, cd, pl, gv)).2.2) (n, b, fl, me, st, lk, cm, v, nu)).2.2.2.1) = z9.2.1 := by rw [hrc, show 151 - i = (151 - (i + 1)) + 1 by omega, rmS_e (by omega)]; first | done | rfl | exact congrArg nI (Nat.zero_add i).symm
        have ew0_fl : ((rmS t9 ty 151 (skS t9 ty 0, (ffM t9 ty 151 (skS t9 ty 0, cd, pl, gv)).2.2) (n, b, fl, me, st, lk, cm, v, nu)).2.2.2.2.1) = z9.2.2.1 := by rw [hrc, show 151 - i = (151 - (i + 1)) + 1 by omega, rmS_e (by omega)]; first | done | rfl | exact congrArg nI (Nat.zero_add i).symm
        have ew0_me : ((rmS t9 ty 151 (skS t9 ty 0, (ffM t9 ty 151 (skS t9 ty 0, cd, pl, gv)).2.2) (n, b, fl, me, st, lk, cm, v, nu)).2.2.2.2.2.1) = z9.2.2.2.1 := by rw [hrc, show 151 - i = (151 - (i + 1)) + 1 by omega, rmS_e (by omega)]; first | done | rfl | exact congrArg nI (Nat.zero_add i).symm
        have ew0_st : ((rmS t9 ty 151 (skS t9 ty 0, (ffM t9 ty 151 (skS t9 ty 0, cd, pl, gv)).2.2) (n, b, fl, me, st, lk, cm, v, nu)).2.2.2.2.2.2.1) = z9.2.2.2.2.1 := by rw [hrc, show 151 - i = (151 - (i + 1)) + 1 by omega, rmS_e (by omega)]; first | done | rfl | exact congrArg nI (Nat.zero_add i).symm
        have ew0_lk : ((rmS t9 ty 151 (skS t9 ty 0, (ffM t9 ty 151 (skS t9 ty 0, cd, pl, gv)).2.2) (n, b, fl, me, st, lk, cm, v, nu)).2.2.2.2.2.2.2.1) = z9.2.2.2.2.2.1 := by rw [hrc, show 151 - i = (151 - (i + 1)) + 1 by omega, rmS_e (by omega)]; first | done | rfl | exact congrArg nI (Nat.zero_add i).symm
        have ew0_cm : ((rmS t9 ty 151 (skS t9 ty 0, (ffM t9 ty 151 (skS t9 ty 0, cd, pl, gv)).2.2) (n, b, fl, me, st, lk, cm, v, nu)).2.2.2.2.2.2.2.2.1) = z9.2.2.2.2.2.2.1 := by rw [hrc, show 151 - i = (151 - (i + 1)) + 1 by omega, rmS_e (by omega)]; first | done | rfl | exact congrArg nI (Nat.zero_add i).symm
        have ew0_v : ((rmS t9 ty 151 (skS t9 ty 0, (ffM t9 ty 151 (skS t9 ty 0, cd, pl, gv)).2.2) (n, b, fl, me, st, lk, cm, v, nu)).2.2.2.2.2.2.2.2.2.1) = z9.2.2.2.2.2.2.2.1 := by rw [hrc, show 151 - i = (151 - (i + 1)) + 1 by omega, rmS_e (by omega)]; first | done | rfl | exact congrArg nI (Nat.zero_add i).symm
        have ew0_nu : ((rmS t9 ty 151 (skS t9 ty 0, (ffM t9 ty 151 (skS t9 ty 0, cd, pl, gv)).2.2) (n, b, fl, me, st, lk, cm, v, nu)).2.2.2.2.2.2.2.2.2.2) = z9.2.2.2.2.2.2.2.2 := by rw [hrc, show 151 - i = (151 - (i + 1)) + 1 by omega, rmS_e (by omega)]; first | done | rfl | exact congrArg nI (Nat.zero_add i).symm
        have ew0_sp : (rmS t9 ty 151 (skS t9 ty 0, (ffM t9 ty 151 (skS t9 ty 0, cd, pl, gv)).2.2) (n, b, fl, me, st, lk, cm, v, nu)).2.1.1 = w9.1 := by rw [hrc, show 151 - i = (151 - (i + 1)) + 1 by omega, rmS_e (by omega)]; first | done | rfl | exact congrArg nI (Nat.zero_add i).symm
        have ew0_cd : (rmS t9 ty 151 (skS t9 ty 0, (ffM t9 ty 151 (skS t9 ty 0, cd, pl, gv)).2.2) (n, b, fl, me, st, lk, cm, v, nu)).2.1.2.1 = w9.2.1 := by rw [hrc, show 151 - i = (151 - (i + 1)) + 1 by omega, rmS_e (by omega)]; first | done | rfl | exact congrArg nI (Nat.zero_add i).symm
        have ew0_pl : (rmS t9 ty 151 (skS t9 ty 0, (ffM t9 ty 151 (skS t9 ty 0, cd, pl, gv)).2.2) (n, b, fl, me, st, lk, cm, v, nu)).2.1.2.2.1 = w9.2.2.1 := by rw [hrc, show 151 - i = (151 - (i + 1)) + 1 by omega, rmS_e (by omega)]; first | done | rfl | exact congrArg nI (Nat.zero_add i).symm
        have ew0_gv : (rmS t9 ty 151 (skS t9 ty 0, (ffM t9 ty 151 (skS t9 ty 0, cd, pl, gv)).2.2) (n, b, fl, me, st, lk, cm, v, nu)).2.1.2.2.2 = w9.2.2.2 := by rw [hrc, show 151 - i = (151 - (i + 1)) + 1 by omega, rmS_e (by omega)]; first | done | rfl | exact congrArg nI (Nat.zero_add i).symm
        exact wv_iretM hx hb hr hlocks hP hD hS (by rw [hrc, show 151 - i = (151 - (i + 1)) + 1 by omega, rmS_e (by omega)]; first | done | rfl | exact congrArg nI (Nat.zero_add i).symm) (by rw [ew0_nu, ew0_v, ew0_cm, ew0_lk, ew0_st, ew0_me, ew0_fl, ew0_b, ew0_gv, ew0_pl, ew0_cd, ew0_n, ew0_sp]) dX7_runCommands_111
      · skip
        have hmd : (mdS t9 ty w9).1 = true := by
            rcases Bool.eq_false_or_eq_true (mdS t9 ty w9).1 with h8 | h8
            · exact h8
            · rw [show 151 - i = (151 - (i + 1)) + 1 by omega, ffM_n c56 h8] at hnf; cases hnf
        refine lv_aload_n hx hb dX7_runCommands_59 rfl (lv_at hl 0 rfl) ?_
        refine wv_callMi (As := []) (rest := []) (wr := []) (ws1 := ModC mo sa pa ha ta cJ cI (sM z9.1 z9.2.1 z9.2.2.1 z9.2.2.2.1 z9.2.2.2.2.1 z9.2.2.2.2.2.1 z9.2.2.2.2.2.2.1 z9.2.2.2.2.2.2.2.1 z9.2.2.2.2.2.2.2.2) (svP false pt ps (sM n b fl me st lk cm v nu)) hd (tN t9) (svN false ps) true ty rf9 lks lo1 hi1 ((mdS t9 ty (w9.1, w9.2.1, w9.2.2.1, w9.2.2.2)).2.1) ((mdS t9 ty (w9.1, w9.2.1, w9.2.2.1, w9.2.2.2)).2.2.1) ((mdS t9 ty (w9.1, w9.2.1, w9.2.2.1, w9.2.2.2)).2.2.2.1) ((mdS t9 ty (w9.1, w9.2.1, w9.2.2.1, w9.2.2.2)).2.2.2.2)) ⟨hx, hb, hml, hown, hts⟩ (kX7_reads l D mo sa pa ha ta cJ cI z9.1 z9.2.1 z9.2.2.1 z9.2.2.2.1 z9.2.2.2.2.1 z9.2.2.2.2.2.1 z9.2.2.2.2.2.2.1 z9.2.2.2.2.2.2.2.1 z9.2.2.2.2.2.2.2.2 (svP false pt ps (sM n b fl me st lk cm v nu)) hd t9 (svN false ps) true ty rf9 lks lo1 hi1 w9.1 w9.2.1 w9.2.2.1 w9.2.2.2 (by first | assumption | omega) (by first | assumption | omega) (by first | assumption | omega)) (cwV 0 hts gX7_runCommands_X7_reads rfl rfl rfl (by decide +kernel) ⟨Nat.le_of_ble_eq_true rfl, Nat.le_of_ble_eq_true rfl⟩) hK hN hP hD hS hA [0, 1, 2, 3, 4] [] [0, 1] [0, 1, 2, 3, 4] rfl rfl (by decide) rfl (by decide) (by decide) rfl (by decide) rfl 0 5 rfl rfl rfl rfl hl.1 rfl (Nat.le_of_ble_eq_true rfl) dX7_runCommands_60 ⟨Nat.zero_le _, Nat.zero_le _⟩ (fun H locs hz9 hP hD hS => ?_)
        refine wv_ti (y := bI true) (by rw [hmd]) ?_
        refine lv_istore_n (lv' := [(3, .int (bI true)), (0, .ref mo), (2, .int (nI i))]) hx hb dX7_runCommands_63 rfl hl (by decide) rfl (fun ls hl => ?_)
        refine lv_aload_n hx hb dX7_runCommands_64 rfl (lv_at hl 1 rfl) ?_
        have hcd := mdS_cd hmd
        · skip
          have ecd : (mdS t9 ty (w9.1, w9.2.1, w9.2.2.1, w9.2.2.2)).2.2.1 = nI (kOf t9 ty w9) := hcd.2.1
          rw [ecd] at hP hD
          have hdo := dmS_ok (k := (kOf t9 ty w9)) (pl := (mdS t9 ty (w9.1, w9.2.1, w9.2.2.1, w9.2.2.2)).2.2.2.1) (gv := (mdS t9 ty (w9.1, w9.2.1, w9.2.2.1, w9.2.2.2)).2.2.2.2) hz
          have hP : va_P D vwCl (ModC mo sa pa ha ta cJ cI (sM z9.1 z9.2.1 z9.2.2.1 z9.2.2.2.1 z9.2.2.2.2.1 z9.2.2.2.2.2.1 z9.2.2.2.2.2.2.1 z9.2.2.2.2.2.2.2.1 z9.2.2.2.2.2.2.2.2) (svP false pt ps (sM n b fl me st lk cm v nu)) hd (tN t9) (svN false ps) true ty rf9 lks lo1 hi1 ((mdS t9 ty (w9.1, w9.2.1, w9.2.2.1, w9.2.2.2)).2.1) (nI (kOf t9 ty w9)) ((mdS t9 ty (w9.1, w9.2.1, w9.2.2.1, w9.2.2.2)).2.2.2.1) ((mdS t9 ty (w9.1, w9.2.1, w9.2.2.1, w9.2.2.2)).2.2.2.2)) _ := hP
          have hD : va_D _ (ModC mo sa pa ha ta cJ cI (sM z9.1 z9.2.1 z9.2.2.1 z9.2.2.2.1 z9.2.2.2.2.1 z9.2.2.2.2.2.1 z9.2.2.2.2.2.2.1 z9.2.2.2.2.2.2.2.1 z9.2.2.2.2.2.2.2.2) (svP false pt ps (sM n b fl me st lk cm v nu)) hd (tN t9) (svN false ps) true ty rf9 lks lo1 hi1 ((mdS t9 ty (w9.1, w9.2.1, w9.2.2.1, w9.2.2.2)).2.1) (nI (kOf t9 ty w9)) ((mdS t9 ty (w9.1, w9.2.1, w9.2.2.1, w9.2.2.2)).2.2.2.1) ((mdS t9 ty (w9.1, w9.2.1, w9.2.2.1, w9.2.2.2)).2.2.2.2)) := hD
          refine wv_callMv (As := []) (rest := []) (wr := []) (ws1 := ModC mo sa pa ha ta cJ cI (sM ((dmS (kOf t9 ty w9) ((mdS t9 ty (w9.1, w9.2.1, w9.2.2.1, w9.2.2.2)).2.2.2.1) ((mdS t9 ty (w9.1, w9.2.1, w9.2.2.1, w9.2.2.2)).2.2.2.2) (z9.1, z9.2.1, z9.2.2.1, z9.2.2.2.1, z9.2.2.2.2.1, z9.2.2.2.2.2.1, z9.2.2.2.2.2.2.1, z9.2.2.2.2.2.2.2.1, z9.2.2.2.2.2.2.2.2)).2.1) ((dmS (kOf t9 ty w9) ((mdS t9 ty (w9.1, w9.2.1, w9.2.2.1, w9.2.2.2)).2.2.2.1) ((mdS t9 ty (w9.1, w9.2.1, w9.2.2.1, w9.2.2.2)).2.2.2.2) (z9.1, z9.2.1, z9.2.2.1, z9.2.2.2.1, z9.2.2.2.2.1, z9.2.2.2.2.2.1, z9.2.2.2.2.2.2.1, z9.2.2.2.2.2.2.2.1, z9.2.2.2.2.2.2.2.2)).2.2.1) ((dmS (kOf t9 ty w9) ((mdS t9 ty (w9.1, w9.2.1, w9.2.2.1, w9.2.2.2)).2.2.2.1) ((mdS t9 ty (w9.1, w9.2.1, w9.2.2.1, w9.2.2.2)).2.2.2.2) (z9.1, z9.2.1, z9.2.2.1, z9.2.2.2.1, z9.2.2.2.2.1, z9.2.2.2.2.2.1, z9.2.2.2.2.2.2.1, z9.2.2.2.2.2.2.2.1, z9.2.2.2.2.2.2.2.2)).2.2.2.1) ((dmS (kOf t9 ty w9) ((mdS t9 ty (w9.1, w9.2.1, w9.2.2.1, w9.2.2.2)).2.2.2.1) ((mdS t9 ty (w9.1, w9.2.1, w9.2.2.1, w9.2.2.2)).2.2.2.2) (z9.1, z9.2.1, z9.2.2.1, z9.2.2.2.1, z9.2.2.2.2.1, z9.2.2.2.2.2.1, z9.2.2.2.2.2.2.1, z9.2.2.2.2.2.2.2.1, z9.2.2.2.2.2.2.2.2)).2.2.2.2.1) ((dmS (kOf t9 ty w9) ((mdS t9 ty (w9.1, w9.2.1, w9.2.2.1, w9.2.2.2)).2.2.2.1) ((mdS t9 ty (w9.1, w9.2.1, w9.2.2.1, w9.2.2.2)).2.2.2.2) (z9.1, z9.2.1, z9.2.2.1, z9.2.2.2.1, z9.2.2.2.2.1, z9.2.2.2.2.2.1, z9.2.2.2.2.2.2.1, z9.2.2.2.2.2.2.2.1, z9.2.2.2.2.2.2.2.2)).2.2.2.2.2.1) ((dmS (kOf t9 ty w9) ((mdS t9 ty (w9.1, w9.2.1, w9.2.2.1, w9.2.2.2)).2.2.2.1) ((mdS t9 ty (w9.1, w9.2.1, w9.2.2.1, w9.2.2.2)).2.2.2.2) (z9.1, z9.2.1, z9.2.2.1, z9.2.2.2.1, z9.2.2.2.2.1, z9.2.2.2.2.2.1, z9.2.2.2.2.2.2.1, z9.2.2.2.2.2.2.2.1, z9.2.2.2.2.2.2.2.2)).2.2.2.2.2.2.1) ((dmS (kOf t9 ty w9) ((mdS t9 ty (w9.1, w9.2.1, w9.2.2.1, w9.2.2.2)).2.2.2.1) ((mdS t9 ty (w9.1, w9.2.1, w9.2.2.1, w9.2.2.2)).2.2.2.2) (z9.1, z9.2.1, z9.2.2.1, z9.2.2.2.1, z9.2.2.2.2.1, z9.2.2.2.2.2.1, z9.2.2.2.2.2.2.1, z9.2.2.2.2.2.2.2.1, z9.2.2.2.2.2.2.2.2)).2.2.2.2.2.2.2.1) ((dmS (kOf t9 ty w9) ((mdS t9 ty (w9.1, w9.2.1, w9.2.2.1, w9.2.2.2)).2.2.2.1) ((mdS t9 ty (w9.1, w9.2.1, w9.2.2.1, w9.2.2.2)).2.2.2.2) (z9.1, z9.2.1, z9.2.2.1, z9.2.2.2.1, z9.2.2.2.2.1, z9.2.2.2.2.2.1, z9.2.2.2.2.2.2.1, z9.2.2.2.2.2.2.2.1, z9.2.2.2.2.2.2.2.2)).2.2.2.2.2.2.2.2.1) ((dmS (kOf t9 ty w9) ((mdS t9 ty (w9.1, w9.2.1, w9.2.2.1, w9.2.2.2)).2.2.2.1) ((mdS t9 ty (w9.1, w9.2.1, w9.2.2.1, w9.2.2.2)).2.2.2.2) (z9.1, z9.2.1, z9.2.2.1, z9.2.2.2.1, z9.2.2.2.2.1, z9.2.2.2.2.2.1, z9.2.2.2.2.2.2.1, z9.2.2.2.2.2.2.2.1, z9.2.2.2.2.2.2.2.2)).2.2.2.2.2.2.2.2.2)) (svP false pt ps (sM n b fl me st lk cm v nu)) hd (tN t9) (svN false ps) true ty ((dmS (kOf t9 ty w9) ((mdS t9 ty (w9.1, w9.2.1, w9.2.2.1, w9.2.2.2)).2.2.2.1) ((mdS t9 ty (w9.1, w9.2.1, w9.2.2.1, w9.2.2.2)).2.2.2.2) (z9.1, z9.2.1, z9.2.2.1, z9.2.2.2.1, z9.2.2.2.2.1, z9.2.2.2.2.2.1, z9.2.2.2.2.2.2.1, z9.2.2.2.2.2.2.2.1, z9.2.2.2.2.2.2.2.2)).1) lks lo1 hi1 ((mdS t9 ty (w9.1, w9.2.1, w9.2.2.1, w9.2.2.2)).2.1) (nI (kOf t9 ty w9)) ((mdS t9 ty (w9.1, w9.2.1, w9.2.2.1, w9.2.2.2)).2.2.2.1) ((mdS t9 ty (w9.1, w9.2.1, w9.2.2.1, w9.2.2.2)).2.2.2.2)) ⟨hx, hb, hml, hown, hts⟩ (kX7_does l D mo sa pa ha ta cJ cI z9.1 z9.2.1 z9.2.2.1 z9.2.2.2.1 z9.2.2.2.2.1 z9.2.2.2.2.2.1 z9.2.2.2.2.2.2.1 z9.2.2.2.2.2.2.2.1 z9.2.2.2.2.2.2.2.2 (svP false pt ps (sM n b fl me st lk cm v nu)) hd (tN t9) (svN false ps) ty rf9 lks lo1 hi1 ((mdS t9 ty (w9.1, w9.2.1, w9.2.2.1, w9.2.2.2)).2.1) ((mdS t9 ty (w9.1, w9.2.1, w9.2.2.1, w9.2.2.2)).2.2.2.1) ((mdS t9 ty (w9.1, w9.2.1, w9.2.2.1, w9.2.2.2)).2.2.2.2) (kOf t9 ty w9) hz.1 hz.2 (svN_le hps) hcd.1) (cwV 0 hts gX7_runCommands_X7_does rfl rfl rfl (by decide +kernel) ⟨Nat.le_of_ble_eq_true rfl, Nat.le_of_ble_eq_true rfl⟩) hK hN hP hD hS hA [0, 1, 2, 3, 4] [] [0, 1] [0, 1, 2, 3, 4] rfl rfl (by decide) rfl (by decide) (by decide) rfl (by decide) rfl 0 5 rfl rfl rfl rfl hl.1 rfl (Nat.le_of_ble_eq_true rfl) dX7_runCommands_65 ⟨Nat.zero_le _, Nat.zero_le _⟩ (fun H locs hz9 hP hD hS => ?_)
          refine lv_iload_n hx hb dX7_runCommands_68 rfl (lv_at hl 0 rfl) ?_
          refine wv_ifeqB (tgt := 83) hx hb dX7_runCommands_69 (by decide) (fun h => by cases h) (fun _ => ?_)
          refine lv_aload_n hx hb dX7_runCommands_72 rfl (lv_at hl 1 rfl) ?_
          refine va_get (D := D) (ci := 5) (C := RX7) (T := TX7) (N := 15) hx hb hts hinX7 hown hK hP 0 rfl rfl 7 (by decide) (hts (.fieldLink RX7 25 "NearRanksModel" "refused" "I") (by decide +kernel)) (fun _ h9 => h9) rfl dX7_runCommands_73 ?_
          obtain ⟨rf1, erf1⟩ : ∃ z : Nat, z = (dmS (kOf t9 ty w9) ((mdS t9 ty (w9.1, w9.2.1, w9.2.2.1, w9.2.2.2)).2.2.2.1) ((mdS t9 ty (w9.1, w9.2.1, w9.2.2.1, w9.2.2.2)).2.2.2.2) (z9.1, z9.2.1, z9.2.2.1, z9.2.2.2.1, z9.2.2.2.2.1, z9.2.2.2.2.2.1, z9.2.2.2.2.2.2.1, z9.2.2.2.2.2.2.2.1, z9.2.2.2.2.2.2.2.2)).1 := ⟨_, rfl⟩
          refine wv_ti (y := nI rf1) (by rw [erf1]) ?_
          have hrf1 : rf1 ≤ 2 := by rw [erf1]; exact (dmS_ok hz).2
          refine wv_if_ne (tgt := 83) hx hb (by omega) dX7_runCommands_76 (by decide) (fun c76 => ?_) (fun c76 => ?_)
          · skip
            refine lv_iconst (v := nI 0) hx hb dX7_runCommands_83 (by decide) ?_
            refine lv_istore_n (lv' := [(3, .int (nI 0)), (0, .ref mo), (2, .int (nI i))]) hx hb dX7_runCommands_84 rfl hl (by decide) rfl (fun ls hl => ?_)
            refine lv_iload_n hx hb dX7_runCommands_85 rfl (lv_at hl 2 rfl) ?_
            refine lv_iload_n hx hb dX7_runCommands_86 rfl (lv_at hl 0 rfl) ?_
            refine lv_if_eq (tgt := 94) hx hb dX7_runCommands_87 (by decide) (fun _ => ?_) (fun h => absurd h (by decide))
            refine lv_iconst (v := nI 0) hx hb dX7_runCommands_94 (by decide) ?_
            refine lv_iadd hx hb dX7_runCommands_95 ?_
            refine wv_ti (nI_add _ _) ?_
            refine lv_istore_n (lv' := [(2, .int (nI (i + 0))), (3, .int (nI 0)), (0, .ref mo)]) hx hb dX7_runCommands_96 rfl hl (by decide) rfl (fun ls hl => ?_)
            refine lv_goto (tgt := 44) hx hb dX7_runCommands_97 (by decide) ?_
            refine lv_iload_n hx hb dX7_runCommands_44 rfl (lv_at hl 1 rfl) ?_
            refine lv_if_eq (tgt := 100) hx hb dX7_runCommands_45 (by decide) (fun _ => ?_) (fun h => absurd h (by decide))
            refine lv_aload_n hx hb dX7_runCommands_100 rfl (lv_at hl 2 rfl) ?_
            refine lv_iconst (v := nI 0) hx hb dX7_runCommands_101 (by decide) ?_
            refine va_put (D := D) (ci := 5) (v := .int (bI false)) (ty := .boolean) (C := RX7) (T := TX7) (N := 15) hx hb hts hinX7 tyX7 tyX7_ok nmX7 hown hK hP hD hS 0 rfl rfl 4 (by decide) (hts (.fieldLink RX7 29 "NearRanksModel" "runs" "Z") (by decide +kernel)) (fun _ h9 => h9) rfl (by decide +kernel) (bI_nar _) (bI_fit _) (Nat.le_of_ble_eq_true rfl) dX7_runCommands_102 (fun H locs hP hD hS => ?_)
            have hP : va_P D vwCl (ModC mo sa pa ha ta cJ cI (sM ((dmS (kOf t9 ty w9) ((mdS t9 ty (w9.1, w9.2.1, w9.2.2.1, w9.2.2.2)).2.2.2.1) ((mdS t9 ty (w9.1, w9.2.1, w9.2.2.1, w9.2.2.2)).2.2.2.2) (z9.1, z9.2.1, z9.2.2.1, z9.2.2.2.1, z9.2.2.2.2.1, z9.2.2.2.2.2.1, z9.2.2.2.2.2.2.1, z9.2.2.2.2.2.2.2.1, z9.2.2.2.2.2.2.2.2)).2.1) ((dmS (kOf t9 ty w9) ((mdS t9 ty (w9.1, w9.2.1, w9.2.2.1, w9.2.2.2)).2.2.2.1) ((mdS t9 ty (w9.1, w9.2.1, w9.2.2.1, w9.2.2.2)).2.2.2.2) (z9.1, z9.2.1, z9.2.2.1, z9.2.2.2.1, z9.2.2.2.2.1, z9.2.2.2.2.2.1, z9.2.2.2.2.2.2.1, z9.2.2.2.2.2.2.2.1, z9.2.2.2.2.2.2.2.2)).2.2.1) ((dmS (kOf t9 ty w9) ((mdS t9 ty (w9.1, w9.2.1, w9.2.2.1, w9.2.2.2)).2.2.2.1) ((mdS t9 ty (w9.1, w9.2.1, w9.2.2.1, w9.2.2.2)).2.2.2.2) (z9.1, z9.2.1, z9.2.2.1, z9.2.2.2.1, z9.2.2.2.2.1, z9.2.2.2.2.2.1, z9.2.2.2.2.2.2.1, z9.2.2.2.2.2.2.2.1, z9.2.2.2.2.2.2.2.2)).2.2.2.1) ((dmS (kOf t9 ty w9) ((mdS t9 ty (w9.1, w9.2.1, w9.2.2.1, w9.2.2.2)).2.2.2.1) ((mdS t9 ty (w9.1, w9.2.1, w9.2.2.1, w9.2.2.2)).2.2.2.2) (z9.1, z9.2.1, z9.2.2.1, z9.2.2.2.1, z9.2.2.2.2.1, z9.2.2.2.2.2.1, z9.2.2.2.2.2.2.1, z9.2.2.2.2.2.2.2.1, z9.2.2.2.2.2.2.2.2)).2.2.2.2.1) ((dmS (kOf t9 ty w9) ((mdS t9 ty (w9.1, w9.2.1, w9.2.2.1, w9.2.2.2)).2.2.2.1) ((mdS t9 ty (w9.1, w9.2.1, w9.2.2.1, w9.2.2.2)).2.2.2.2) (z9.1, z9.2.1, z9.2.2.1, z9.2.2.2.1, z9.2.2.2.2.1, z9.2.2.2.2.2.1, z9.2.2.2.2.2.2.1, z9.2.2.2.2.2.2.2.1, z9.2.2.2.2.2.2.2.2)).2.2.2.2.2.1) ((dmS (kOf t9 ty w9) ((mdS t9 ty (w9.1, w9.2.1, w9.2.2.1, w9.2.2.2)).2.2.2.1) ((mdS t9 ty (w9.1, w9.2.1, w9.2.2.1, w9.2.2.2)).2.2.2.2) (z9.1, z9.2.1, z9.2.2.1, z9.2.2.2.1, z9.2.2.2.2.1, z9.2.2.2.2.2.1, z9.2.2.2.2.2.2.1, z9.2.2.2.2.2.2.2.1, z9.2.2.2.2.2.2.2.2)).2.2.2.2.2.2.1) ((dmS (kOf t9 ty w9) ((mdS t9 ty (w9.1, w9.2.1, w9.2.2.1, w9.2.2.2)).2.2.2.1) ((mdS t9 ty (w9.1, w9.2.1, w9.2.2.1, w9.2.2.2)).2.2.2.2) (z9.1, z9.2.1, z9.2.2.1, z9.2.2.2.1, z9.2.2.2.2.1, z9.2.2.2.2.2.1, z9.2.2.2.2.2.2.1, z9.2.2.2.2.2.2.2.1, z9.2.2.2.2.2.2.2.2)).2.2.2.2.2.2.2.1) ((dmS (kOf t9 ty w9) ((mdS t9 ty (w9.1, w9.2.1, w9.2.2.1, w9.2.2.2)).2.2.2.1) ((mdS t9 ty (w9.1, w9.2.1, w9.2.2.1, w9.2.2.2)).2.2.2.2) (z9.1, z9.2.1, z9.2.2.1, z9.2.2.2.1, z9.2.2.2.2.1, z9.2.2.2.2.2.1, z9.2.2.2.2.2.2.1, z9.2.2.2.2.2.2.2.1, z9.2.2.2.2.2.2.2.2)).2.2.2.2.2.2.2.2.1) ((dmS (kOf t9 ty w9) ((mdS t9 ty (w9.1, w9.2.1, w9.2.2.1, w9.2.2.2)).2.2.2.1) ((mdS t9 ty (w9.1, w9.2.1, w9.2.2.1, w9.2.2.2)).2.2.2.2) (z9.1, z9.2.1, z9.2.2.1, z9.2.2.2.1, z9.2.2.2.2.1, z9.2.2.2.2.2.1, z9.2.2.2.2.2.2.1, z9.2.2.2.2.2.2.2.1, z9.2.2.2.2.2.2.2.2)).2.2.2.2.2.2.2.2.2)) (svP false pt ps (sM n b fl me st lk cm v nu)) hd (tN t9) (svN false ps) false ty ((dmS (kOf t9 ty w9) ((mdS t9 ty (w9.1, w9.2.1, w9.2.2.1, w9.2.2.2)).2.2.2.1) ((mdS t9 ty (w9.1, w9.2.1, w9.2.2.1, w9.2.2.2)).2.2.2.2) (z9.1, z9.2.1, z9.2.2.1, z9.2.2.2.1, z9.2.2.2.2.1, z9.2.2.2.2.2.1, z9.2.2.2.2.2.2.1, z9.2.2.2.2.2.2.2.1, z9.2.2.2.2.2.2.2.2)).1) lks lo1 hi1 ((mdS t9 ty (w9.1, w9.2.1, w9.2.2.1, w9.2.2.2)).2.1) (nI (kOf t9 ty w9)) ((mdS t9 ty (w9.1, w9.2.1, w9.2.2.1, w9.2.2.2)).2.2.2.1) ((mdS t9 ty (w9.1, w9.2.1, w9.2.2.1, w9.2.2.2)).2.2.2.2)) H := hP
            have hD : va_D _ (ModC mo sa pa ha ta cJ cI (sM ((dmS (kOf t9 ty w9) ((mdS t9 ty (w9.1, w9.2.1, w9.2.2.1, w9.2.2.2)).2.2.2.1) ((mdS t9 ty (w9.1, w9.2.1, w9.2.2.1, w9.2.2.2)).2.2.2.2) (z9.1, z9.2.1, z9.2.2.1, z9.2.2.2.1, z9.2.2.2.2.1, z9.2.2.2.2.2.1, z9.2.2.2.2.2.2.1, z9.2.2.2.2.2.2.2.1, z9.2.2.2.2.2.2.2.2)).2.1) ((dmS (kOf t9 ty w9) ((mdS t9 ty (w9.1, w9.2.1, w9.2.2.1, w9.2.2.2)).2.2.2.1) ((mdS t9 ty (w9.1, w9.2.1, w9.2.2.1, w9.2.2.2)).2.2.2.2) (z9.1, z9.2.1, z9.2.2.1, z9.2.2.2.1, z9.2.2.2.2.1, z9.2.2.2.2.2.1, z9.2.2.2.2.2.2.1, z9.2.2.2.2.2.2.2.1, z9.2.2.2.2.2.2.2.2)).2.2.1) ((dmS (kOf t9 ty w9) ((mdS t9 ty (w9.1, w9.2.1, w9.2.2.1, w9.2.2.2)).2.2.2.1) ((mdS t9 ty (w9.1, w9.2.1, w9.2.2.1, w9.2.2.2)).2.2.2.2) (z9.1, z9.2.1, z9.2.2.1, z9.2.2.2.1, z9.2.2.2.2.1, z9.2.2.2.2.2.1, z9.2.2.2.2.2.2.1, z9.2.2.2.2.2.2.2.1, z9.2.2.2.2.2.2.2.2)).2.2.2.1) ((dmS (kOf t9 ty w9) ((mdS t9 ty (w9.1, w9.2.1, w9.2.2.1, w9.2.2.2)).2.2.2.1) ((mdS t9 ty (w9.1, w9.2.1, w9.2.2.1, w9.2.2.2)).2.2.2.2) (z9.1, z9.2.1, z9.2.2.1, z9.2.2.2.1, z9.2.2.2.2.1, z9.2.2.2.2.2.1, z9.2.2.2.2.2.2.1, z9.2.2.2.2.2.2.2.1, z9.2.2.2.2.2.2.2.2)).2.2.2.2.1) ((dmS (kOf t9 ty w9) ((mdS t9 ty (w9.1, w9.2.1, w9.2.2.1, w9.2.2.2)).2.2.2.1) ((mdS t9 ty (w9.1, w9.2.1, w9.2.2.1, w9.2.2.2)).2.2.2.2) (z9.1, z9.2.1, z9.2.2.1, z9.2.2.2.1, z9.2.2.2.2.1, z9.2.2.2.2.2.1, z9.2.2.2.2.2.2.1, z9.2.2.2.2.2.2.2.1, z9.2.2.2.2.2.2.2.2)).2.2.2.2.2.1) ((dmS (kOf t9 ty w9) ((mdS t9 ty (w9.1, w9.2.1, w9.2.2.1, w9.2.2.2)).2.2.2.1) ((mdS t9 ty (w9.1, w9.2.1, w9.2.2.1, w9.2.2.2)).2.2.2.2) (z9.1, z9.2.1, z9.2.2.1, z9.2.2.2.1, z9.2.2.2.2.1, z9.2.2.2.2.2.1, z9.2.2.2.2.2.2.1, z9.2.2.2.2.2.2.2.1, z9.2.2.2.2.2.2.2.2)).2.2.2.2.2.2.1) ((dmS (kOf t9 ty w9) ((mdS t9 ty (w9.1, w9.2.1, w9.2.2.1, w9.2.2.2)).2.2.2.1) ((mdS t9 ty (w9.1, w9.2.1, w9.2.2.1, w9.2.2.2)).2.2.2.2) (z9.1, z9.2.1, z9.2.2.1, z9.2.2.2.1, z9.2.2.2.2.1, z9.2.2.2.2.2.1, z9.2.2.2.2.2.2.1, z9.2.2.2.2.2.2.2.1, z9.2.2.2.2.2.2.2.2)).2.2.2.2.2.2.2.1) ((dmS (kOf t9 ty w9) ((mdS t9 ty (w9.1, w9.2.1, w9.2.2.1, w9.2.2.2)).2.2.2.1) ((mdS t9 ty (w9.1, w9.2.1, w9.2.2.1, w9.2.2.2)).2.2.2.2) (z9.1, z9.2.1, z9.2.2.1, z9.2.2.2.1, z9.2.2.2.2.1, z9.2.2.2.2.2.1, z9.2.2.2.2.2.2.1, z9.2.2.2.2.2.2.2.1, z9.2.2.2.2.2.2.2.2)).2.2.2.2.2.2.2.2.1) ((dmS (kOf t9 ty w9) ((mdS t9 ty (w9.1, w9.2.1, w9.2.2.1, w9.2.2.2)).2.2.2.1) ((mdS t9 ty (w9.1, w9.2.1, w9.2.2.1, w9.2.2.2)).2.2.2.2) (z9.1, z9.2.1, z9.2.2.1, z9.2.2.2.1, z9.2.2.2.2.1, z9.2.2.2.2.2.1, z9.2.2.2.2.2.2.1, z9.2.2.2.2.2.2.2.1, z9.2.2.2.2.2.2.2.2)).2.2.2.2.2.2.2.2.2)) (svP false pt ps (sM n b fl me st lk cm v nu)) hd (tN t9) (svN false ps) false ty ((dmS (kOf t9 ty w9) ((mdS t9 ty (w9.1, w9.2.1, w9.2.2.1, w9.2.2.2)).2.2.2.1) ((mdS t9 ty (w9.1, w9.2.1, w9.2.2.1, w9.2.2.2)).2.2.2.2) (z9.1, z9.2.1, z9.2.2.1, z9.2.2.2.1, z9.2.2.2.2.1, z9.2.2.2.2.2.1, z9.2.2.2.2.2.2.1, z9.2.2.2.2.2.2.2.1, z9.2.2.2.2.2.2.2.2)).1) lks lo1 hi1 ((mdS t9 ty (w9.1, w9.2.1, w9.2.2.1, w9.2.2.2)).2.1) (nI (kOf t9 ty w9)) ((mdS t9 ty (w9.1, w9.2.1, w9.2.2.1, w9.2.2.2)).2.2.2.1) ((mdS t9 ty (w9.1, w9.2.1, w9.2.2.1, w9.2.2.2)).2.2.2.2)) := hD
            refine lv_aload_n hx hb dX7_runCommands_105 rfl (lv_at hl 2 rfl) ?_
            refine lv_iconst (v := nI 0) hx hb dX7_runCommands_106 (by decide) ?_
            refine va_put (D := D) (ci := 5) (v := .int (nI 0)) (ty := .int) (C := RX7) (T := TX7) (N := 15) hx hb hts hinX7 tyX7 tyX7_ok nmX7 hown hK hP hD hS 0 rfl rfl 7 (by decide) (hts (.fieldLink RX7 25 "NearRanksModel" "refused" "I") (by decide +kernel)) (fun _ h9 => h9) rfl (by decide +kernel) rfl rfl (Nat.le_of_ble_eq_true rfl) dX7_runCommands_107 (fun H locs hP hD hS => ?_)
            have hP : va_P D vwCl (ModC mo sa pa ha ta cJ cI (sM ((dmS (kOf t9 ty w9) ((mdS t9 ty (w9.1, w9.2.1, w9.2.2.1, w9.2.2.2)).2.2.2.1) ((mdS t9 ty (w9.1, w9.2.1, w9.2.2.1, w9.2.2.2)).2.2.2.2) (z9.1, z9.2.1, z9.2.2.1, z9.2.2.2.1, z9.2.2.2.2.1, z9.2.2.2.2.2.1, z9.2.2.2.2.2.2.1, z9.2.2.2.2.2.2.2.1, z9.2.2.2.2.2.2.2.2)).2.1) ((dmS (kOf t9 ty w9) ((mdS t9 ty (w9.1, w9.2.1, w9.2.2.1, w9.2.2.2)).2.2.2.1) ((mdS t9 ty (w9.1, w9.2.1, w9.2.2.1, w9.2.2.2)).2.2.2.2) (z9.1, z9.2.1, z9.2.2.1, z9.2.2.2.1, z9.2.2.2.2.1, z9.2.2.2.2.2.1, z9.2.2.2.2.2.2.1, z9.2.2.2.2.2.2.2.1, z9.2.2.2.2.2.2.2.2)).2.2.1) ((dmS (kOf t9 ty w9) ((mdS t9 ty (w9.1, w9.2.1, w9.2.2.1, w9.2.2.2)).2.2.2.1) ((mdS t9 ty (w9.1, w9.2.1, w9.2.2.1, w9.2.2.2)).2.2.2.2) (z9.1, z9.2.1, z9.2.2.1, z9.2.2.2.1, z9.2.2.2.2.1, z9.2.2.2.2.2.1, z9.2.2.2.2.2.2.1, z9.2.2.2.2.2.2.2.1, z9.2.2.2.2.2.2.2.2)).2.2.2.1) ((dmS (kOf t9 ty w9) ((mdS t9 ty (w9.1, w9.2.1, w9.2.2.1, w9.2.2.2)).2.2.2.1) ((mdS t9 ty (w9.1, w9.2.1, w9.2.2.1, w9.2.2.2)).2.2.2.2) (z9.1, z9.2.1, z9.2.2.1, z9.2.2.2.1, z9.2.2.2.2.1, z9.2.2.2.2.2.1, z9.2.2.2.2.2.2.1, z9.2.2.2.2.2.2.2.1, z9.2.2.2.2.2.2.2.2)).2.2.2.2.1) ((dmS (kOf t9 ty w9) ((mdS t9 ty (w9.1, w9.2.1, w9.2.2.1, w9.2.2.2)).2.2.2.1) ((mdS t9 ty (w9.1, w9.2.1, w9.2.2.1, w9.2.2.2)).2.2.2.2) (z9.1, z9.2.1, z9.2.2.1, z9.2.2.2.1, z9.2.2.2.2.1, z9.2.2.2.2.2.1, z9.2.2.2.2.2.2.1, z9.2.2.2.2.2.2.2.1, z9.2.2.2.2.2.2.2.2)).2.2.2.2.2.1) ((dmS (kOf t9 ty w9) ((mdS t9 ty (w9.1, w9.2.1, w9.2.2.1, w9.2.2.2)).2.2.2.1) ((mdS t9 ty (w9.1, w9.2.1, w9.2.2.1, w9.2.2.2)).2.2.2.2) (z9.1, z9.2.1, z9.2.2.1, z9.2.2.2.1, z9.2.2.2.2.1, z9.2.2.2.2.2.1, z9.2.2.2.2.2.2.1, z9.2.2.2.2.2.2.2.1, z9.2.2.2.2.2.2.2.2)).2.2.2.2.2.2.1) ((dmS (kOf t9 ty w9) ((mdS t9 ty (w9.1, w9.2.1, w9.2.2.1, w9.2.2.2)).2.2.2.1) ((mdS t9 ty (w9.1, w9.2.1, w9.2.2.1, w9.2.2.2)).2.2.2.2) (z9.1, z9.2.1, z9.2.2.1, z9.2.2.2.1, z9.2.2.2.2.1, z9.2.2.2.2.2.1, z9.2.2.2.2.2.2.1, z9.2.2.2.2.2.2.2.1, z9.2.2.2.2.2.2.2.2)).2.2.2.2.2.2.2.1) ((dmS (kOf t9 ty w9) ((mdS t9 ty (w9.1, w9.2.1, w9.2.2.1, w9.2.2.2)).2.2.2.1) ((mdS t9 ty (w9.1, w9.2.1, w9.2.2.1, w9.2.2.2)).2.2.2.2) (z9.1, z9.2.1, z9.2.2.1, z9.2.2.2.1, z9.2.2.2.2.1, z9.2.2.2.2.2.1, z9.2.2.2.2.2.2.1, z9.2.2.2.2.2.2.2.1, z9.2.2.2.2.2.2.2.2)).2.2.2.2.2.2.2.2.1) ((dmS (kOf t9 ty w9) ((mdS t9 ty (w9.1, w9.2.1, w9.2.2.1, w9.2.2.2)).2.2.2.1) ((mdS t9 ty (w9.1, w9.2.1, w9.2.2.1, w9.2.2.2)).2.2.2.2) (z9.1, z9.2.1, z9.2.2.1, z9.2.2.2.1, z9.2.2.2.2.1, z9.2.2.2.2.2.1, z9.2.2.2.2.2.2.1, z9.2.2.2.2.2.2.2.1, z9.2.2.2.2.2.2.2.2)).2.2.2.2.2.2.2.2.2)) (svP false pt ps (sM n b fl me st lk cm v nu)) hd (tN t9) (svN false ps) false ty 0 lks lo1 hi1 ((mdS t9 ty (w9.1, w9.2.1, w9.2.2.1, w9.2.2.2)).2.1) (nI (kOf t9 ty w9)) ((mdS t9 ty (w9.1, w9.2.1, w9.2.2.1, w9.2.2.2)).2.2.2.1) ((mdS t9 ty (w9.1, w9.2.1, w9.2.2.1, w9.2.2.2)).2.2.2.2)) H := hP
            have hD : va_D _ (ModC mo sa pa ha ta cJ cI (sM ((dmS (kOf t9 ty w9) ((mdS t9 ty (w9.1, w9.2.1, w9.2.2.1, w9.2.2.2)).2.2.2.1) ((mdS t9 ty (w9.1, w9.2.1, w9.2.2.1, w9.2.2.2)).2.2.2.2) (z9.1, z9.2.1, z9.2.2.1, z9.2.2.2.1, z9.2.2.2.2.1, z9.2.2.2.2.2.1, z9.2.2.2.2.2.2.1, z9.2.2.2.2.2.2.2.1, z9.2.2.2.2.2.2.2.2)).2.1) ((dmS (kOf t9 ty w9) ((mdS t9 ty (w9.1, w9.2.1, w9.2.2.1, w9.2.2.2)).2.2.2.1) ((mdS t9 ty (w9.1, w9.2.1, w9.2.2.1, w9.2.2.2)).2.2.2.2) (z9.1, z9.2.1, z9.2.2.1, z9.2.2.2.1, z9.2.2.2.2.1, z9.2.2.2.2.2.1, z9.2.2.2.2.2.2.1, z9.2.2.2.2.2.2.2.1, z9.2.2.2.2.2.2.2.2)).2.2.1) ((dmS (kOf t9 ty w9) ((mdS t9 ty (w9.1, w9.2.1, w9.2.2.1, w9.2.2.2)).2.2.2.1) ((mdS t9 ty (w9.1, w9.2.1, w9.2.2.1, w9.2.2.2)).2.2.2.2) (z9.1, z9.2.1, z9.2.2.1, z9.2.2.2.1, z9.2.2.2.2.1, z9.2.2.2.2.2.1, z9.2.2.2.2.2.2.1, z9.2.2.2.2.2.2.2.1, z9.2.2.2.2.2.2.2.2)).2.2.2.1) ((dmS (kOf t9 ty w9) ((mdS t9 ty (w9.1, w9.2.1, w9.2.2.1, w9.2.2.2)).2.2.2.1) ((mdS t9 ty (w9.1, w9.2.1, w9.2.2.1, w9.2.2.2)).2.2.2.2) (z9.1, z9.2.1, z9.2.2.1, z9.2.2.2.1, z9.2.2.2.2.1, z9.2.2.2.2.2.1, z9.2.2.2.2.2.2.1, z9.2.2.2.2.2.2.2.1, z9.2.2.2.2.2.2.2.2)).2.2.2.2.1) ((dmS (kOf t9 ty w9) ((mdS t9 ty (w9.1, w9.2.1, w9.2.2.1, w9.2.2.2)).2.2.2.1) ((mdS t9 ty (w9.1, w9.2.1, w9.2.2.1, w9.2.2.2)).2.2.2.2) (z9.1, z9.2.1, z9.2.2.1, z9.2.2.2.1, z9.2.2.2.2.1, z9.2.2.2.2.2.1, z9.2.2.2.2.2.2.1, z9.2.2.2.2.2.2.2.1, z9.2.2.2.2.2.2.2.2)).2.2.2.2.2.1) ((dmS (kOf t9 ty w9) ((mdS t9 ty (w9.1, w9.2.1, w9.2.2.1, w9.2.2.2)).2.2.2.1) ((mdS t9 ty (w9.1, w9.2.1, w9.2.2.1, w9.2.2.2)).2.2.2.2) (z9.1, z9.2.1, z9.2.2.1, z9.2.2.2.1, z9.2.2.2.2.1, z9.2.2.2.2.2.1, z9.2.2.2.2.2.2.1, z9.2.2.2.2.2.2.2.1, z9.2.2.2.2.2.2.2.2)).2.2.2.2.2.2.1) ((dmS (kOf t9 ty w9) ((mdS t9 ty (w9.1, w9.2.1, w9.2.2.1, w9.2.2.2)).2.2.2.1) ((mdS t9 ty (w9.1, w9.2.1, w9.2.2.1, w9.2.2.2)).2.2.2.2) (z9.1, z9.2.1, z9.2.2.1, z9.2.2.2.1, z9.2.2.2.2.1, z9.2.2.2.2.2.1, z9.2.2.2.2.2.2.1, z9.2.2.2.2.2.2.2.1, z9.2.2.2.2.2.2.2.2)).2.2.2.2.2.2.2.1) ((dmS (kOf t9 ty w9) ((mdS t9 ty (w9.1, w9.2.1, w9.2.2.1, w9.2.2.2)).2.2.2.1) ((mdS t9 ty (w9.1, w9.2.1, w9.2.2.1, w9.2.2.2)).2.2.2.2) (z9.1, z9.2.1, z9.2.2.1, z9.2.2.2.1, z9.2.2.2.2.1, z9.2.2.2.2.2.1, z9.2.2.2.2.2.2.1, z9.2.2.2.2.2.2.2.1, z9.2.2.2.2.2.2.2.2)).2.2.2.2.2.2.2.2.1) ((dmS (kOf t9 ty w9) ((mdS t9 ty (w9.1, w9.2.1, w9.2.2.1, w9.2.2.2)).2.2.2.1) ((mdS t9 ty (w9.1, w9.2.1, w9.2.2.1, w9.2.2.2)).2.2.2.2) (z9.1, z9.2.1, z9.2.2.1, z9.2.2.2.1, z9.2.2.2.2.1, z9.2.2.2.2.2.1, z9.2.2.2.2.2.2.1, z9.2.2.2.2.2.2.2.1, z9.2.2.2.2.2.2.2.2)).2.2.2.2.2.2.2.2.2)) (svP false pt ps (sM n b fl me st lk cm v nu)) hd (tN t9) (svN false ps) false ty 0 lks lo1 hi1 ((mdS t9 ty (w9.1, w9.2.1, w9.2.2.1, w9.2.2.2)).2.1) (nI (kOf t9 ty w9)) ((mdS t9 ty (w9.1, w9.2.1, w9.2.2.1, w9.2.2.2)).2.2.2.1) ((mdS t9 ty (w9.1, w9.2.1, w9.2.2.1, w9.2.2.2)).2.2.2.2)) := hD
            refine lv_iload_n hx hb dX7_runCommands_110 rfl (lv_at hl 0 rfl) ?_
            have ew0_n : ((rmS t9 ty 151 (skS t9 ty 0, (ffM t9 ty 151 (skS t9 ty 0, cd, pl, gv)).2.2) (n, b, fl, me, st, lk, cm, v, nu)).2.2.1) = ((dmS (kOf t9 ty w9) ((mdS t9 ty (w9.1, w9.2.1, w9.2.2.1, w9.2.2.2)).2.2.2.1) ((mdS t9 ty (w9.1, w9.2.1, w9.2.2.1, w9.2.2.2)).2.2.2.2) (z9.1, z9.2.1, z9.2.2.1, z9.2.2.2.1, z9.2.2.2.2.1, z9.2.2.2.2.2.1, z9.2.2.2.2.2.2.1, z9.2.2.2.2.2.2.2.1, z9.2.2.2.2.2.2.2.2)).2.1) := by rw [hrc, show 151 - i = (151 - (i + 1)) + 1 by omega, rmS_c c56 (fun z => Nat.ne_of_gt c76 (erf1.trans z))]; first | done | rfl | exact congrArg nI (Nat.zero_add i).symm
            have ew0_b : ((rmS t9 ty 151 (skS t9 ty 0, (ffM t9 ty 151 (skS t9 ty 0, cd, pl, gv)).2.2) (n, b, fl, me, st, lk, cm, v, nu)).2.2.2.1) = ((dmS (kOf t9 ty w9) ((mdS t9 ty (w9.1, w9.2.1, w9.2.2.1, w9.2.2.2)).2.2.2.1) ((mdS t9 ty (w9.1, w9.2.1, w9.2.2.1, w9.2.2.2)).2.2.2.2) (z9.1, z9.2.1, z9.2.2.1, z9.2.2.2.1, z9.2.2.2.2.1, z9.2.2.2.2.2.1, z9.2.2.2.2.2.2.1, z9.2.2.2.2.2.2.2.1, z9.2.2.2.2.2.2.2.2)).2.2.1) := by rw [hrc, show 151 - i = (151 - (i + 1)) + 1 by omega, rmS_c c56 (fun z => Nat.ne_of_gt c76 (erf1.trans z))]; first | done | rfl | exact congrArg nI (Nat.zero_add i).symm
            have ew0_fl : ((rmS t9 ty 151 (skS t9 ty 0, (ffM t9 ty 151 (skS t9 ty 0, cd, pl, gv)).2.2) (n, b, fl, me, st, lk, cm, v, nu)).2.2.2.2.1) = ((dmS (kOf t9 ty w9) ((mdS t9 ty (w9.1, w9.2.1, w9.2.2.1, w9.2.2.2)).2.2.2.1) ((mdS t9 ty (w9.1, w9.2.1, w9.2.2.1, w9.2.2.2)).2.2.2.2) (z9.1, z9.2.1, z9.2.2.1, z9.2.2.2.1, z9.2.2.2.2.1, z9.2.2.2.2.2.1, z9.2.2.2.2.2.2.1, z9.2.2.2.2.2.2.2.1, z9.2.2.2.2.2.2.2.2)).2.2.2.1) := by rw [hrc, show 151 - i = (151 - (i + 1)) + 1 by omega, rmS_c c56 (fun z => Nat.ne_of_gt c76 (erf1.trans z))]; first | done | rfl | exact congrArg nI (Nat.zero_add i).symm
            have ew0_me : ((rmS t9 ty 151 (skS t9 ty 0, (ffM t9 ty 151 (skS t9 ty 0, cd, pl, gv)).2.2) (n, b, fl, me, st, lk, cm, v, nu)).2.2.2.2.2.1) = ((dmS (kOf t9 ty w9) ((mdS t9 ty (w9.1, w9.2.1, w9.2.2.1, w9.2.2.2)).2.2.2.1) ((mdS t9 ty (w9.1, w9.2.1, w9.2.2.1, w9.2.2.2)).2.2.2.2) (z9.1, z9.2.1, z9.2.2.1, z9.2.2.2.1, z9.2.2.2.2.1, z9.2.2.2.2.2.1, z9.2.2.2.2.2.2.1, z9.2.2.2.2.2.2.2.1, z9.2.2.2.2.2.2.2.2)).2.2.2.2.1) := by rw [hrc, show 151 - i = (151 - (i + 1)) + 1 by omega, rmS_c c56 (fun z => Nat.ne_of_gt c76 (erf1.trans z))]; first | done | rfl | exact congrArg nI (Nat.zero_add i).symm
            have ew0_st : ((rmS t9 ty 151 (skS t9 ty 0, (ffM t9 ty 151 (skS t9 ty 0, cd, pl, gv)).2.2) (n, b, fl, me, st, lk, cm, v, nu)).2.2.2.2.2.2.1) = ((dmS (kOf t9 ty w9) ((mdS t9 ty (w9.1, w9.2.1, w9.2.2.1, w9.2.2.2)).2.2.2.1) ((mdS t9 ty (w9.1, w9.2.1, w9.2.2.1, w9.2.2.2)).2.2.2.2) (z9.1, z9.2.1, z9.2.2.1, z9.2.2.2.1, z9.2.2.2.2.1, z9.2.2.2.2.2.1, z9.2.2.2.2.2.2.1, z9.2.2.2.2.2.2.2.1, z9.2.2.2.2.2.2.2.2)).2.2.2.2.2.1) := by rw [hrc, show 151 - i = (151 - (i + 1)) + 1 by omega, rmS_c c56 (fun z => Nat.ne_of_gt c76 (erf1.trans z))]; first | done | rfl | exact congrArg nI (Nat.zero_add i).symm
            have ew0_lk : ((rmS t9 ty 151 (skS t9 ty 0, (ffM t9 ty 151 (skS t9 ty 0, cd, pl, gv)).2.2) (n, b, fl, me, st, lk, cm, v, nu)).2.2.2.2.2.2.2.1) = ((dmS (kOf t9 ty w9) ((mdS t9 ty (w9.1, w9.2.1, w9.2.2.1, w9.2.2.2)).2.2.2.1) ((mdS t9 ty (w9.1, w9.2.1, w9.2.2.1, w9.2.2.2)).2.2.2.2) (z9.1, z9.2.1, z9.2.2.1, z9.2.2.2.1, z9.2.2.2.2.1, z9.2.2.2.2.2.1, z9.2.2.2.2.2.2.1, z9.2.2.2.2.2.2.2.1, z9.2.2.2.2.2.2.2.2)).2.2.2.2.2.2.1) := by rw [hrc, show 151 - i = (151 - (i + 1)) + 1 by omega, rmS_c c56 (fun z => Nat.ne_of_gt c76 (erf1.trans z))]; first | done | rfl | exact congrArg nI (Nat.zero_add i).symm
            have ew0_cm : ((rmS t9 ty 151 (skS t9 ty 0, (ffM t9 ty 151 (skS t9 ty 0, cd, pl, gv)).2.2) (n, b, fl, me, st, lk, cm, v, nu)).2.2.2.2.2.2.2.2.1) = ((dmS (kOf t9 ty w9) ((mdS t9 ty (w9.1, w9.2.1, w9.2.2.1, w9.2.2.2)).2.2.2.1) ((mdS t9 ty (w9.1, w9.2.1, w9.2.2.1, w9.2.2.2)).2.2.2.2) (z9.1, z9.2.1, z9.2.2.1, z9.2.2.2.1, z9.2.2.2.2.1, z9.2.2.2.2.2.1, z9.2.2.2.2.2.2.1, z9.2.2.2.2.2.2.2.1, z9.2.2.2.2.2.2.2.2)).2.2.2.2.2.2.2.1) := by rw [hrc, show 151 - i = (151 - (i + 1)) + 1 by omega, rmS_c c56 (fun z => Nat.ne_of_gt c76 (erf1.trans z))]; first | done | rfl | exact congrArg nI (Nat.zero_add i).symm
            have ew0_v : ((rmS t9 ty 151 (skS t9 ty 0, (ffM t9 ty 151 (skS t9 ty 0, cd, pl, gv)).2.2) (n, b, fl, me, st, lk, cm, v, nu)).2.2.2.2.2.2.2.2.2.1) = ((dmS (kOf t9 ty w9) ((mdS t9 ty (w9.1, w9.2.1, w9.2.2.1, w9.2.2.2)).2.2.2.1) ((mdS t9 ty (w9.1, w9.2.1, w9.2.2.1, w9.2.2.2)).2.2.2.2) (z9.1, z9.2.1, z9.2.2.1, z9.2.2.2.1, z9.2.2.2.2.1, z9.2.2.2.2.2.1, z9.2.2.2.2.2.2.1, z9.2.2.2.2.2.2.2.1, z9.2.2.2.2.2.2.2.2)).2.2.2.2.2.2.2.2.1) := by rw [hrc, show 151 - i = (151 - (i + 1)) + 1 by omega, rmS_c c56 (fun z => Nat.ne_of_gt c76 (erf1.trans z))]; first | done | rfl | exact congrArg nI (Nat.zero_add i).symm
            have ew0_nu : ((rmS t9 ty 151 (skS t9 ty 0, (ffM t9 ty 151 (skS t9 ty 0, cd, pl, gv)).2.2) (n, b, fl, me, st, lk, cm, v, nu)).2.2.2.2.2.2.2.2.2.2) = ((dmS (kOf t9 ty w9) ((mdS t9 ty (w9.1, w9.2.1, w9.2.2.1, w9.2.2.2)).2.2.2.1) ((mdS t9 ty (w9.1, w9.2.1, w9.2.2.1, w9.2.2.2)).2.2.2.2) (z9.1, z9.2.1, z9.2.2.1, z9.2.2.2.1, z9.2.2.2.2.1, z9.2.2.2.2.2.1, z9.2.2.2.2.2.2.1, z9.2.2.2.2.2.2.2.1, z9.2.2.2.2.2.2.2.2)).2.2.2.2.2.2.2.2.2) := by rw [hrc, show 151 - i = (151 - (i + 1)) + 1 by omega, rmS_c c56 (fun z => Nat.ne_of_gt c76 (erf1.trans z))]; first | done | rfl | exact congrArg nI (Nat.zero_add i).symm
            have ew0_sp : (rmS t9 ty 151 (skS t9 ty 0, (ffM t9 ty 151 (skS t9 ty 0, cd, pl, gv)).2.2) (n, b, fl, me, st, lk, cm, v, nu)).2.1.1 = (mdS t9 ty (w9.1, w9.2.1, w9.2.2.1, w9.2.2.2)).2.1 := by rw [hrc, show 151 - i = (151 - (i + 1)) + 1 by omega, rmS_c c56 (fun z => Nat.ne_of_gt c76 (erf1.trans z))]; first | done | rfl | exact congrArg nI (Nat.zero_add i).symm
            have ew0_cd : (rmS t9 ty 151 (skS t9 ty 0, (ffM t9 ty 151 (skS t9 ty 0, cd, pl, gv)).2.2) (n, b, fl, me, st, lk, cm, v, nu)).2.1.2.1 = nI (kOf t9 ty w9) := by rw [hrc, show 151 - i = (151 - (i + 1)) + 1 by omega, rmS_c c56 (fun z => Nat.ne_of_gt c76 (erf1.trans z))]; exact hcd.2.1
            have ew0_pl : (rmS t9 ty 151 (skS t9 ty 0, (ffM t9 ty 151 (skS t9 ty 0, cd, pl, gv)).2.2) (n, b, fl, me, st, lk, cm, v, nu)).2.1.2.2.1 = (mdS t9 ty (w9.1, w9.2.1, w9.2.2.1, w9.2.2.2)).2.2.2.1 := by rw [hrc, show 151 - i = (151 - (i + 1)) + 1 by omega, rmS_c c56 (fun z => Nat.ne_of_gt c76 (erf1.trans z))]; first | done | rfl | exact congrArg nI (Nat.zero_add i).symm
            have ew0_gv : (rmS t9 ty 151 (skS t9 ty 0, (ffM t9 ty 151 (skS t9 ty 0, cd, pl, gv)).2.2) (n, b, fl, me, st, lk, cm, v, nu)).2.1.2.2.2 = (mdS t9 ty (w9.1, w9.2.1, w9.2.2.1, w9.2.2.2)).2.2.2.2 := by rw [hrc, show 151 - i = (151 - (i + 1)) + 1 by omega, rmS_c c56 (fun z => Nat.ne_of_gt c76 (erf1.trans z))]; first | done | rfl | exact congrArg nI (Nat.zero_add i).symm
            exact wv_iretM hx hb hr hlocks hP hD hS (by rw [hrc, show 151 - i = (151 - (i + 1)) + 1 by omega, rmS_c c56 (fun z => Nat.ne_of_gt c76 (erf1.trans z))]; first | done | rfl | exact congrArg nI (Nat.zero_add i).symm) (by rw [ew0_nu, ew0_v, ew0_cm, ew0_lk, ew0_st, ew0_me, ew0_fl, ew0_b, ew0_gv, ew0_pl, ew0_cd, ew0_n, ew0_sp]) dX7_runCommands_111
          · skip
            refine lv_iconst (v := nI 1) hx hb dX7_runCommands_79 (by decide) ?_
            refine lv_goto (tgt := 84) hx hb dX7_runCommands_80 (by decide) ?_
            refine lv_istore_n (lv' := [(3, .int (nI 1)), (0, .ref mo), (2, .int (nI i))]) hx hb dX7_runCommands_84 rfl hl (by decide) rfl (fun ls hl => ?_)
            refine lv_iload_n hx hb dX7_runCommands_85 rfl (lv_at hl 2 rfl) ?_
            refine lv_iload_n hx hb dX7_runCommands_86 rfl (lv_at hl 0 rfl) ?_
            refine lv_if_eq (tgt := 94) hx hb dX7_runCommands_87 (by decide) (fun h => absurd h (by decide)) (fun _ => ?_)
            refine lv_iconst (v := nI 1) hx hb dX7_runCommands_90 (by decide) ?_
            refine lv_goto (tgt := 95) hx hb dX7_runCommands_91 (by decide) ?_
            refine lv_iadd hx hb dX7_runCommands_95 ?_
            refine wv_ti (nI_add _ _) ?_
            refine lv_istore_n (lv' := [(2, .int (nI (i + 1))), (3, .int (nI 1)), (0, .ref mo)]) hx hb dX7_runCommands_96 rfl hl (by decide) rfl (fun ls hl => ?_)
            refine lv_goto (tgt := 44) hx hb dX7_runCommands_97 (by decide) ?_
            have el_w0_n : ((dmS (kOf t9 ty w9) (mdS t9 ty (w9.1, w9.2.1, w9.2.2.1, w9.2.2.2)).2.2.2.1 (mdS t9 ty (w9.1, w9.2.1, w9.2.2.1, w9.2.2.2)).2.2.2.2 z9).2).1 = ((dmS (kOf t9 ty w9) ((mdS t9 ty (w9.1, w9.2.1, w9.2.2.1, w9.2.2.2)).2.2.2.1) ((mdS t9 ty (w9.1, w9.2.1, w9.2.2.1, w9.2.2.2)).2.2.2.2) (z9.1, z9.2.1, z9.2.2.1, z9.2.2.2.1, z9.2.2.2.2.1, z9.2.2.2.2.2.1, z9.2.2.2.2.2.2.1, z9.2.2.2.2.2.2.2.1, z9.2.2.2.2.2.2.2.2)).2.1) := by first | rfl | omega | (simp [*]; done)
            have el_w0_b : ((dmS (kOf t9 ty w9) (mdS t9 ty (w9.1, w9.2.1, w9.2.2.1, w9.2.2.2)).2.2.2.1 (mdS t9 ty (w9.1, w9.2.1, w9.2.2.1, w9.2.2.2)).2.2.2.2 z9).2).2.1 = ((dmS (kOf t9 ty w9) ((mdS t9 ty (w9.1, w9.2.1, w9.2.2.1, w9.2.2.2)).2.2.2.1) ((mdS t9 ty (w9.1, w9.2.1, w9.2.2.1, w9.2.2.2)).2.2.2.2) (z9.1, z9.2.1, z9.2.2.1, z9.2.2.2.1, z9.2.2.2.2.1, z9.2.2.2.2.2.1, z9.2.2.2.2.2.2.1, z9.2.2.2.2.2.2.2.1, z9.2.2.2.2.2.2.2.2)).2.2.1) := by first | rfl | omega | (simp [*]; done)
            have el_w0_fl : ((dmS (kOf t9 ty w9) (mdS t9 ty (w9.1, w9.2.1, w9.2.2.1, w9.2.2.2)).2.2.2.1 (mdS t9 ty (w9.1, w9.2.1, w9.2.2.1, w9.2.2.2)).2.2.2.2 z9).2).2.2.1 = ((dmS (kOf t9 ty w9) ((mdS t9 ty (w9.1, w9.2.1, w9.2.2.1, w9.2.2.2)).2.2.2.1) ((mdS t9 ty (w9.1, w9.2.1, w9.2.2.1, w9.2.2.2)).2.2.2.2) (z9.1, z9.2.1, z9.2.2.1, z9.2.2.2.1, z9.2.2.2.2.1, z9.2.2.2.2.2.1, z9.2.2.2.2.2.2.1, z9.2.2.2.2.2.2.2.1, z9.2.2.2.2.2.2.2.2)).2.2.2.1) := by first | rfl | omega | (simp [*]; done)
            have el_w0_me : ((dmS (kOf t9 ty w9) (mdS t9 ty (w9.1, w9.2.1, w9.2.2.1, w9.2.2.2)).2.2.2.1 (mdS t9 ty (w9.1, w9.2.1, w9.2.2.1, w9.2.2.2)).2.2.2.2 z9).2).2.2.2.1 = ((dmS (kOf t9 ty w9) ((mdS t9 ty (w9.1, w9.2.1, w9.2.2.1, w9.2.2.2)).2.2.2.1) ((mdS t9 ty (w9.1, w9.2.1, w9.2.2.1, w9.2.2.2)).2.2.2.2) (z9.1, z9.2.1, z9.2.2.1, z9.2.2.2.1, z9.2.2.2.2.1, z9.2.2.2.2.2.1, z9.2.2.2.2.2.2.1, z9.2.2.2.2.2.2.2.1, z9.2.2.2.2.2.2.2.2)).2.2.2.2.1) := by first | rfl | omega | (simp [*]; done)
            have el_w0_st : ((dmS (kOf t9 ty w9) (mdS t9 ty (w9.1, w9.2.1, w9.2.2.1, w9.2.2.2)).2.2.2.1 (mdS t9 ty (w9.1, w9.2.1, w9.2.2.1, w9.2.2.2)).2.2.2.2 z9).2).2.2.2.2.1 = ((dmS (kOf t9 ty w9) ((mdS t9 ty (w9.1, w9.2.1, w9.2.2.1, w9.2.2.2)).2.2.2.1) ((mdS t9 ty (w9.1, w9.2.1, w9.2.2.1, w9.2.2.2)).2.2.2.2) (z9.1, z9.2.1, z9.2.2.1, z9.2.2.2.1, z9.2.2.2.2.1, z9.2.2.2.2.2.1, z9.2.2.2.2.2.2.1, z9.2.2.2.2.2.2.2.1, z9.2.2.2.2.2.2.2.2)).2.2.2.2.2.1) := by first | rfl | omega | (simp [*]; done)
            have el_w0_lk : ((dmS (kOf t9 ty w9) (mdS t9 ty (w9.1, w9.2.1, w9.2.2.1, w9.2.2.2)).2.2.2.1 (mdS t9 ty (w9.1, w9.2.1, w9.2.2.1, w9.2.2.2)).2.2.2.2 z9).2).2.2.2.2.2.1 = ((dmS (kOf t9 ty w9) ((mdS t9 ty (w9.1, w9.2.1, w9.2.2.1, w9.2.2.2)).2.2.2.1) ((mdS t9 ty (w9.1, w9.2.1, w9.2.2.1, w9.2.2.2)).2.2.2.2) (z9.1, z9.2.1, z9.2.2.1, z9.2.2.2.1, z9.2.2.2.2.1, z9.2.2.2.2.2.1, z9.2.2.2.2.2.2.1, z9.2.2.2.2.2.2.2.1, z9.2.2.2.2.2.2.2.2)).2.2.2.2.2.2.1) := by first | rfl | omega | (simp [*]; done)
            have el_w0_cm : ((dmS (kOf t9 ty w9) (mdS t9 ty (w9.1, w9.2.1, w9.2.2.1, w9.2.2.2)).2.2.2.1 (mdS t9 ty (w9.1, w9.2.1, w9.2.2.1, w9.2.2.2)).2.2.2.2 z9).2).2.2.2.2.2.2.1 = ((dmS (kOf t9 ty w9) ((mdS t9 ty (w9.1, w9.2.1, w9.2.2.1, w9.2.2.2)).2.2.2.1) ((mdS t9 ty (w9.1, w9.2.1, w9.2.2.1, w9.2.2.2)).2.2.2.2) (z9.1, z9.2.1, z9.2.2.1, z9.2.2.2.1, z9.2.2.2.2.1, z9.2.2.2.2.2.1, z9.2.2.2.2.2.2.1, z9.2.2.2.2.2.2.2.1, z9.2.2.2.2.2.2.2.2)).2.2.2.2.2.2.2.1) := by first | rfl | omega | (simp [*]; done)
            have el_w0_v : ((dmS (kOf t9 ty w9) (mdS t9 ty (w9.1, w9.2.1, w9.2.2.1, w9.2.2.2)).2.2.2.1 (mdS t9 ty (w9.1, w9.2.1, w9.2.2.1, w9.2.2.2)).2.2.2.2 z9).2).2.2.2.2.2.2.2.1 = ((dmS (kOf t9 ty w9) ((mdS t9 ty (w9.1, w9.2.1, w9.2.2.1, w9.2.2.2)).2.2.2.1) ((mdS t9 ty (w9.1, w9.2.1, w9.2.2.1, w9.2.2.2)).2.2.2.2) (z9.1, z9.2.1, z9.2.2.1, z9.2.2.2.1, z9.2.2.2.2.1, z9.2.2.2.2.2.1, z9.2.2.2.2.2.2.1, z9.2.2.2.2.2.2.2.1, z9.2.2.2.2.2.2.2.2)).2.2.2.2.2.2.2.2.1) := by first | rfl | omega | (simp [*]; done)
            have el_w0_nu : ((dmS (kOf t9 ty w9) (mdS t9 ty (w9.1, w9.2.1, w9.2.2.1, w9.2.2.2)).2.2.2.1 (mdS t9 ty (w9.1, w9.2.1, w9.2.2.1, w9.2.2.2)).2.2.2.2 z9).2).2.2.2.2.2.2.2.2 = ((dmS (kOf t9 ty w9) ((mdS t9 ty (w9.1, w9.2.1, w9.2.2.1, w9.2.2.2)).2.2.2.1) ((mdS t9 ty (w9.1, w9.2.1, w9.2.2.1, w9.2.2.2)).2.2.2.2) (z9.1, z9.2.1, z9.2.2.1, z9.2.2.2.1, z9.2.2.2.2.1, z9.2.2.2.2.2.1, z9.2.2.2.2.2.2.1, z9.2.2.2.2.2.2.2.1, z9.2.2.2.2.2.2.2.2)).2.2.2.2.2.2.2.2.2) := by first | rfl | omega | (simp [*]; done)
            have el_w0_rf : ((dmS (kOf t9 ty w9) (mdS t9 ty (w9.1, w9.2.1, w9.2.2.1, w9.2.2.2)).2.2.2.1 (mdS t9 ty (w9.1, w9.2.1, w9.2.2.1, w9.2.2.2)).2.2.2.2 z9).1) = (dmS (kOf t9 ty w9) ((mdS t9 ty (w9.1, w9.2.1, w9.2.2.1, w9.2.2.2)).2.2.2.1) ((mdS t9 ty (w9.1, w9.2.1, w9.2.2.1, w9.2.2.2)).2.2.2.2) (z9.1, z9.2.1, z9.2.2.1, z9.2.2.2.1, z9.2.2.2.2.1, z9.2.2.2.2.2.1, z9.2.2.2.2.2.2.1, z9.2.2.2.2.2.2.2.1, z9.2.2.2.2.2.2.2.2)).1 := by first | rfl | omega | (simp [*]; done)
            have el_w0_sp : ((mdS t9 ty (w9.1, w9.2.1, w9.2.2.1, w9.2.2.2)).2).1 = (mdS t9 ty (w9.1, w9.2.1, w9.2.2.1, w9.2.2.2)).2.1 := by first | rfl | omega | (simp [*]; done)
            have el_w0_cd : ((mdS t9 ty (w9.1, w9.2.1, w9.2.2.1, w9.2.2.2)).2).2.1 = nI (kOf t9 ty w9) := by exact hcd.2.1
            have el_w0_pl : ((mdS t9 ty (w9.1, w9.2.1, w9.2.2.1, w9.2.2.2)).2).2.2.1 = (mdS t9 ty (w9.1, w9.2.1, w9.2.2.1, w9.2.2.2)).2.2.2.1 := by first | rfl | omega | (simp [*]; done)
            have el_w0_gv : ((mdS t9 ty (w9.1, w9.2.1, w9.2.2.1, w9.2.2.2)).2).2.2.2 = (mdS t9 ty (w9.1, w9.2.1, w9.2.2.1, w9.2.2.2)).2.2.2.2 := by first | rfl | omega | (simp [*]; done)
            exact ih44 (i + 1) ((mdS t9 ty (w9.1, w9.2.1, w9.2.2.1, w9.2.2.2)).2) ((dmS (kOf t9 ty w9) (mdS t9 ty (w9.1, w9.2.1, w9.2.2.1, w9.2.2.2)).2.2.2.1 (mdS t9 ty (w9.1, w9.2.1, w9.2.2.1, w9.2.2.2)).2.2.2.2 z9).2) ((dmS (kOf t9 ty w9) (mdS t9 ty (w9.1, w9.2.1, w9.2.2.1, w9.2.2.2)).2.2.2.1 (mdS t9 ty (w9.1, w9.2.1, w9.2.2.1, w9.2.2.2)).2.2.2.2 z9).1) (by have h8 := (mdS_le (c := t9) (n := ty) (s := w9) hq).2 hmd; show ty - (mdS t9 ty w9).2.1 < K; omega) (by have h8 := (mdS_le (c := t9) (n := ty) (s := w9) hq).2 hmd; show i + 1 ≤ (mdS t9 ty w9).2.1; omega) (by exact (mdS_le (c := t9) (n := ty) (s := w9) hq).1) (by exact (dmS_ok hz).1) (by rw [show 151 - i = (151 - (i + 1)) + 1 by omega, ffM_t c56 hmd] at hnf; exact hnf) (by rw [hrc, show 151 - i = (151 - (i + 1)) + 1 by omega, rmS_t c56 (erf1.symm.trans c76)]; exact Prod.ext (by show (_ + 1) + i = _; rw [Nat.add_assoc, Nat.add_comm 1 i]) rfl) _ _ (by first | (rw [el_w0_nu, el_w0_v, el_w0_cm, el_w0_lk, el_w0_st, el_w0_me, el_w0_fl, el_w0_b, el_w0_n, el_w0_rf, el_w0_gv, el_w0_pl, el_w0_cd, el_w0_sp]; exact hP) | (simp only [el_w0_nu, el_w0_v, el_w0_cm, el_w0_lk, el_w0_st, el_w0_me, el_w0_fl, el_w0_b, el_w0_n, el_w0_rf, el_w0_gv, el_w0_pl, el_w0_cd, el_w0_sp]; exact hP) | exact hP) (by first | (rw [el_w0_nu, el_w0_v, el_w0_cm, el_w0_lk, el_w0_st, el_w0_me, el_w0_fl, el_w0_b, el_w0_n, el_w0_rf, el_w0_gv, el_w0_pl, el_w0_cd, el_w0_sp]; exact hD) | (simp only [el_w0_nu, el_w0_v, el_w0_cm, el_w0_lk, el_w0_st, el_w0_me, el_w0_fl, el_w0_b, el_w0_n, el_w0_rf, el_w0_gv, el_w0_pl, el_w0_cd, el_w0_sp]; exact hD) | exact hD) hS ls (by first | (rw [el_w0_nu, el_w0_v, el_w0_cm, el_w0_lk, el_w0_st, el_w0_me, el_w0_fl, el_w0_b, el_w0_n, el_w0_rf, el_w0_gv, el_w0_pl, el_w0_cd, el_w0_sp]; exact lv_sub hl [2, 0, 1] rfl) | (simp only [el_w0_nu, el_w0_v, el_w0_cm, el_w0_lk, el_w0_st, el_w0_me, el_w0_fl, el_w0_b, el_w0_n, el_w0_rf, el_w0_gv, el_w0_pl, el_w0_cd, el_w0_sp]; exact lv_sub hl [2, 0, 1] rfl) | exact lv_sub hl [2, 0, 1] rfl)
  exact loop44 (ty - (skS t9 ty 0, (ffM t9 ty 151 (skS t9 ty 0, cd, pl, gv)).2.2).1 + 1) 0 (skS t9 ty 0, (ffM t9 ty 151 (skS t9 ty 0, cd, pl, gv)).2.2) (n, b, fl, me, st, lk, cm, v, nu) 0 (by omega) (by exact Nat.zero_le _) (by exact hs9.2) (by exact ⟨by assumption, by assumption⟩) (by exact (ffM_ind (s := (skS t9 ty 0, (ffM t9 ty 151 (skS t9 ty 0, cd, pl, gv)).2.2)) (s' := (skS t9 ty 0, cd, pl, gv)) rfl).trans hff) (by rfl) _ _ (by first | (rw [el_w0_gv, el_w0_pl, el_w0_cd, el_w0_sp, el_w0_nu, el_w0_v, el_w0_cm, el_w0_lk, el_w0_st, el_w0_me, el_w0_fl, el_w0_b, el_w0_n]; exact hP) | (simp only [el_w0_gv, el_w0_pl, el_w0_cd, el_w0_sp, el_w0_nu, el_w0_v, el_w0_cm, el_w0_lk, el_w0_st, el_w0_me, el_w0_fl, el_w0_b, el_w0_n]; exact hP) | exact hP) (by first | (rw [el_w0_gv, el_w0_pl, el_w0_cd, el_w0_sp, el_w0_nu, el_w0_v, el_w0_cm, el_w0_lk, el_w0_st, el_w0_me, el_w0_fl, el_w0_b, el_w0_n]; exact hD) | (simp only [el_w0_gv, el_w0_pl, el_w0_cd, el_w0_sp, el_w0_nu, el_w0_v, el_w0_cm, el_w0_lk, el_w0_st, el_w0_me, el_w0_fl, el_w0_b, el_w0_n]; exact hD) | exact hD) hS ls (by first | (rw [el_w0_gv, el_w0_pl, el_w0_cd, el_w0_sp, el_w0_nu, el_w0_v, el_w0_cm, el_w0_lk, el_w0_st, el_w0_me, el_w0_fl, el_w0_b, el_w0_n]; exact lv_sub hl [3, 1, 0] rfl) | (simp only [el_w0_gv, el_w0_pl, el_w0_cd, el_w0_sp, el_w0_nu, el_w0_v, el_w0_cm, el_w0_lk, el_w0_st, el_w0_me, el_w0_fl, el_w0_b, el_w0_n]; exact lv_sub hl [3, 1, 0] rfl) | exact lv_sub hl [3, 1, 0] rfl)
