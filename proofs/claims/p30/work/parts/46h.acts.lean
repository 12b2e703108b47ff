/-! The law: a call of its script, whichever it is. -/
set_option maxHeartbeats 4000000 in
set_option maxRecDepth 100000 in
theorem kL_acts (l : Launch) (D : va_G) (x9 : Nat) (r : Nat) (r2 : Nat) (q : Nat) (co : Nat) (h : Nat) (va : Nat) (na : Nat) (ra : Nat) (cJ : ClassId) (cI : ClassId) (sta : Nat) (cR : ClassId) (a0 : RA) (a1 : RA) (a2 : RA) (a3 : RA) (g : Nat) (vv : Nat) (nn : Nat) (v : Nat → Int64) (nu : Nat → Int32) (rk : Nat → Int32) (n : Nat) (b : Nat) (fl : Bool) (me : Bool) (st : Int32) (lk : Int32) (cm : Int32) (s0 : RT) (s1 : RT) (s2 : RT) (s3 : RT) (ol : Nat) (ct : Nat) (pc1 : Int32) (lk1 : Nat) (lw : Int32) (hg : Int32) (zz : Int32) (hlst : l.stackTraces = false) (hn : n ≤ 32) (hb31 : b ≤ 31) (hrk : ∀ i, i < n → rk i = nI (rk0 fl v n i)) (hol : ol ≤ 3) (hct : ct ≤ 4) : EMi l yL_acts wsL_acts ({ frames := 9, cells := 4, slots := 24, locals := 179 } : Room) [.ref x9, .ref g, .ref vv, .ref nn, .int zz] D (aW x9 r r2 q co h va na ra cJ cI sta cR a0 a1 a2 a3 g vv nn ((v, nu, rk, n, b, fl, me, st, lk, cm), s0, s1, s2, s3, ol, ct, pc1, lk1, lw, hg)) [(cJ, .long), (cI, .int), (cR, .object "NearRanks$Row")] (aW x9 r r2 q co h va na ra cJ cI sta cR a0 a1 a2 a3 g vv nn) C1 4 24 := by
  refine EMi_of (cc := cL_acts) (maxL := 12) (ret := some .boolean) (by decide +kernel) rfl (Nat.le_of_ble_eq_true rfl) ?_
  intro p e s m args below meth c hx hb hr hts hown hlocks hml hP hK hN hD hX ls hl
  have hown : s.vm.findClass RL = some m.cls := hown
  have hl : lv_has ls 12 [(0, .ref x9), (1, .ref g), (2, .ref vv), (3, .ref nn), (4, .int zz)] := hl
  have hS : va_S (va_A (aW x9 r r2 q co h va na ra cJ cI sta cR a0 a1 a2 a3 g vv nn ((v, nu, rk, n, b, fl, me, st, lk, cm), s0, s1, s2, s3, ol, ct, pc1, lk1, lw, hg)) s.heap.size) s.heap s.heap [] := va_S.rf
  have hA := wk_hA (aW x9 r r2 q co h va na ra cJ cI sta cR a0 a1 a2 a3 g vv nn ((v, nu, rk, n, b, fl, me, st, lk, cm), s0, s1, s2, s3, ol, ct, pc1, lk1, lw, hg)) s.heap.size
  have C : AC p l s m args meth c (va_A (aW x9 r r2 q co h va na ra cJ cI sta cR a0 a1 a2 a3 g vv nn ((v, nu, rk, n, b, fl, me, st, lk, cm), s0, s1, s2, s3, ol, ct, pc1, lk1, lw, hg)) s.heap.size) D cJ cI cR := ⟨hlst, hx, hb, hr, hts, hown, hlocks, hml, hK, hN, hX, hA⟩
  generalize va_A (aW x9 r r2 q co h va na ra cJ cI sta cR a0 a1 a2 a3 g vv nn ((v, nu, rk, n, b, fl, me, st, lk, cm), s0, s1, s2, s3, ol, ct, pc1, lk1, lw, hg)) s.heap.size = A at hD hS hA hX C ⊢
  have hP : va_P D vwCl ([(x9, .inr (4, [.ref r, .ref r2, .ref q, .ref co, .ref h])), (r, .inr (2, [.ref va, .ref na, .ref ra, .int (nI n), .int (nI b), .int (bI fl), .int (bI me), .int st, .int lk, .int cm])), (va, .inl (cJ, 32, .inr (.inl v))), (na, .inl (cI, 32, .inl nu)), (ra, .inl (cI, 32, .inl rk)), (h, .inr (1, [.ref sta, .int (nI ol), .int (nI ct)])), (sta, .inl (cR, 4, .inr (.inr (.inr (.inr (rf4 a0.1 a1.1 a2.1 a3.1)))))), (a0.1, .inr (2, [.ref a0.2.1, .ref a0.2.2.1, .ref a0.2.2.2, .int (nI s0.2.2.2.1), .int (nI s0.2.2.2.2.1), .int (bI s0.2.2.2.2.2.1), .int (bI s0.2.2.2.2.2.2.1), .int s0.2.2.2.2.2.2.2.1, .int s0.2.2.2.2.2.2.2.2.1, .int s0.2.2.2.2.2.2.2.2.2])), (a0.2.1, .inl (cJ, 32, .inr (.inl s0.1))), (a0.2.2.1, .inl (cI, 32, .inl s0.2.1)), (a0.2.2.2, .inl (cI, 32, .inl s0.2.2.1)), (a1.1, .inr (2, [.ref a1.2.1, .ref a1.2.2.1, .ref a1.2.2.2, .int (nI s1.2.2.2.1), .int (nI s1.2.2.2.2.1), .int (bI s1.2.2.2.2.2.1), .int (bI s1.2.2.2.2.2.2.1), .int s1.2.2.2.2.2.2.2.1, .int s1.2.2.2.2.2.2.2.2.1, .int s1.2.2.2.2.2.2.2.2.2])), (a1.2.1, .inl (cJ, 32, .inr (.inl s1.1))), (a1.2.2.1, .inl (cI, 32, .inl s1.2.1)), (a1.2.2.2, .inl (cI, 32, .inl s1.2.2.1)), (a2.1, .inr (2, [.ref a2.2.1, .ref a2.2.2.1, .ref a2.2.2.2, .int (nI s2.2.2.2.1), .int (nI s2.2.2.2.2.1), .int (bI s2.2.2.2.2.2.1), .int (bI s2.2.2.2.2.2.2.1), .int s2.2.2.2.2.2.2.2.1, .int s2.2.2.2.2.2.2.2.2.1, .int s2.2.2.2.2.2.2.2.2.2])), (a2.2.1, .inl (cJ, 32, .inr (.inl s2.1))), (a2.2.2.1, .inl (cI, 32, .inl s2.2.1)), (a2.2.2.2, .inl (cI, 32, .inl s2.2.2.1)), (a3.1, .inr (2, [.ref a3.2.1, .ref a3.2.2.1, .ref a3.2.2.2, .int (nI s3.2.2.2.1), .int (nI s3.2.2.2.2.1), .int (bI s3.2.2.2.2.2.1), .int (bI s3.2.2.2.2.2.2.1), .int s3.2.2.2.2.2.2.2.1, .int s3.2.2.2.2.2.2.2.2.1, .int s3.2.2.2.2.2.2.2.2.2])), (a3.2.1, .inl (cJ, 32, .inr (.inl s3.1))), (a3.2.2.1, .inl (cI, 32, .inl s3.2.1)), (a3.2.2.2, .inl (cI, 32, .inl s3.2.2.1)), (q, .inr (3, [.int pc1, .int (nI lk1), .int lw, .int hg])), (g, .inl (cI, 7, .inl (gM n b fl me st lk cm))), (vv, .inl (cJ, 32, .inr (.inl v))), (nn, .inl (cI, 32, .inl nu))]) s.heap := hP
  have hD : va_D A ([(x9, .inr (4, [.ref r, .ref r2, .ref q, .ref co, .ref h])), (r, .inr (2, [.ref va, .ref na, .ref ra, .int (nI n), .int (nI b), .int (bI fl), .int (bI me), .int st, .int lk, .int cm])), (va, .inl (cJ, 32, .inr (.inl v))), (na, .inl (cI, 32, .inl nu)), (ra, .inl (cI, 32, .inl rk)), (h, .inr (1, [.ref sta, .int (nI ol), .int (nI ct)])), (sta, .inl (cR, 4, .inr (.inr (.inr (.inr (rf4 a0.1 a1.1 a2.1 a3.1)))))), (a0.1, .inr (2, [.ref a0.2.1, .ref a0.2.2.1, .ref a0.2.2.2, .int (nI s0.2.2.2.1), .int (nI s0.2.2.2.2.1), .int (bI s0.2.2.2.2.2.1), .int (bI s0.2.2.2.2.2.2.1), .int s0.2.2.2.2.2.2.2.1, .int s0.2.2.2.2.2.2.2.2.1, .int s0.2.2.2.2.2.2.2.2.2])), (a0.2.1, .inl (cJ, 32, .inr (.inl s0.1))), (a0.2.2.1, .inl (cI, 32, .inl s0.2.1)), (a0.2.2.2, .inl (cI, 32, .inl s0.2.2.1)), (a1.1, .inr (2, [.ref a1.2.1, .ref a1.2.2.1, .ref a1.2.2.2, .int (nI s1.2.2.2.1), .int (nI s1.2.2.2.2.1), .int (bI s1.2.2.2.2.2.1), .int (bI s1.2.2.2.2.2.2.1), .int s1.2.2.2.2.2.2.2.1, .int s1.2.2.2.2.2.2.2.2.1, .int s1.2.2.2.2.2.2.2.2.2])), (a1.2.1, .inl (cJ, 32, .inr (.inl s1.1))), (a1.2.2.1, .inl (cI, 32, .inl s1.2.1)), (a1.2.2.2, .inl (cI, 32, .inl s1.2.2.1)), (a2.1, .inr (2, [.ref a2.2.1, .ref a2.2.2.1, .ref a2.2.2.2, .int (nI s2.2.2.2.1), .int (nI s2.2.2.2.2.1), .int (bI s2.2.2.2.2.2.1), .int (bI s2.2.2.2.2.2.2.1), .int s2.2.2.2.2.2.2.2.1, .int s2.2.2.2.2.2.2.2.2.1, .int s2.2.2.2.2.2.2.2.2.2])), (a2.2.1, .inl (cJ, 32, .inr (.inl s2.1))), (a2.2.2.1, .inl (cI, 32, .inl s2.2.1)), (a2.2.2.2, .inl (cI, 32, .inl s2.2.2.1)), (a3.1, .inr (2, [.ref a3.2.1, .ref a3.2.2.1, .ref a3.2.2.2, .int (nI s3.2.2.2.1), .int (nI s3.2.2.2.2.1), .int (bI s3.2.2.2.2.2.1), .int (bI s3.2.2.2.2.2.2.1), .int s3.2.2.2.2.2.2.2.1, .int s3.2.2.2.2.2.2.2.2.1, .int s3.2.2.2.2.2.2.2.2.2])), (a3.2.1, .inl (cJ, 32, .inr (.inl s3.1))), (a3.2.2.1, .inl (cI, 32, .inl s3.2.1)), (a3.2.2.2, .inl (cI, 32, .inl s3.2.2.1)), (q, .inr (3, [.int pc1, .int (nI lk1), .int lw, .int hg])), (g, .inl (cI, 7, .inl (gM n b fl me st lk cm))), (vv, .inl (cJ, 32, .inr (.inl v))), (nn, .inl (cI, 32, .inl nu))]) := hD
  refine lv_iload hx hb dL_acts_0 (lv_at hl 4 rfl) ?_
  refine lv_iconst (v := nI 5) hx hb dL_acts_2 (by decide) ?_
  refine lv_ishr hx hb dL_acts_3 ?_
  refine lv_ldc (v := nI 100000000) hx hb hown (hts (.constant RL 73 (100000000)) (by decide +kernel)) dL_acts_4 ?_
  refine wv_callSi (As := [.int (zz >>> ((nI 5) &&& 31)), .int (nI 100000000)]) (rest := []) ⟨hx, hb, hml, hown, hts⟩ (kL_low l D (zz >>> ((nI 5) &&& 31)) 100000000 (by first | assumption | omega) (by first | assumption | omega)) (va_cwS 2 hts gL_acts_L_low rfl rfl rfl (by decide +kernel) ⟨Nat.le_of_ble_eq_true rfl, Nat.le_of_ble_eq_true rfl⟩) hK hN hP hS hA [] [] rfl rfl rfl hl.1 rfl (Nat.le_of_ble_eq_true rfl) dL_acts_6 ⟨Nat.le_of_ble_eq_true rfl, Nat.le_of_ble_eq_true rfl⟩ (fun H locs hz9 hP hS => ?_)
  obtain ⟨y, ey⟩ : ∃ z : Nat, z = lo31 (zz >>> ((nI 5) &&& 31)) % 100000000 := ⟨_, rfl⟩
  refine wv_ti (y := nI y) (by rw [ey]) ?_
  have hy : y < 100000000 := by rw [ey]; exact Nat.mod_lt _ (by decide)
  refine lv_istore (lv' := [(5, .int (nI y)), (0, .ref x9), (1, .ref g), (2, .ref vv), (3, .ref nn), (4, .int zz)]) hx hb dL_acts_9 hl (by decide) rfl (fun ls hl => ?_)
  refine lv_iload hx hb dL_acts_11 (lv_at hl 5 rfl) ?_
  refine lv_bipush (v := nI 25) hx hb dL_acts_13 (by decide) ?_
  refine wv_callSi (As := [.int zz, .int (nI 25)]) (rest := []) ⟨hx, hb, hml, hown, hts⟩ (kL_low l D zz 25 (by first | assumption | omega) (by first | assumption | omega)) (va_cwS 2 hts gL_acts_L_low rfl rfl rfl (by decide +kernel) ⟨Nat.le_of_ble_eq_true rfl, Nat.le_of_ble_eq_true rfl⟩) hK hN hP hS hA [] [] rfl rfl rfl hl.1 rfl (Nat.le_of_ble_eq_true rfl) dL_acts_15 ⟨Nat.le_of_ble_eq_true rfl, Nat.le_of_ble_eq_true rfl⟩ (fun H locs hz9 hP hS => ?_)
  obtain ⟨way, eway⟩ : ∃ z : Nat, z = lo31 zz % 25 := ⟨_, rfl⟩
  refine wv_ti (y := nI way) (by rw [eway]) ?_
  have hway : way < 25 := by rw [eway]; exact Nat.mod_lt _ (by decide)
  refine lv_istore (lv' := [(6, .int (nI way)), (5, .int (nI y)), (0, .ref x9), (1, .ref g), (2, .ref vv), (3, .ref nn), (4, .int zz)]) hx hb dL_acts_18 hl (by decide) rfl (fun ls hl => ?_)
  refine lv_iload hx hb dL_acts_20 (lv_at hl 1 rfl) ?_
  refine lv_bipush (v := nI 33) hx hb dL_acts_22 (by decide) ?_
  refine lv_idiv hx hb dL_acts_24 (by decide) ?_
  refine wv_ti (pk_div (by omega) (by omega) (by omega)) ?_
  refine wv_callSl (As := [.int (nI (y / 33))]) (rest := []) ⟨hx, hb, hml, hown, hts⟩ (kL_value l D (y / 33) (by first | assumption | omega)) (va_cwS 1 hts gL_acts_L_value rfl rfl rfl (by decide +kernel) ⟨Nat.le_of_ble_eq_true rfl, Nat.le_of_ble_eq_true rfl⟩) hK hN hP hS hA [] [] rfl rfl rfl hl.1 rfl (Nat.le_of_ble_eq_true rfl) dL_acts_25 ⟨Nat.le_of_ble_eq_true rfl, Nat.le_of_ble_eq_true rfl⟩ (fun H locs hz9 hP hS => ?_)
  obtain ⟨x, ex⟩ : ∃ x : Int64, x = valL (y / 33) := ⟨_, rfl⟩
  refine wv_tl (y := x) (by rw [ex]) ?_
  refine lv_lstore (lv' := [(7, .long x), (6, .int (nI way)), (5, .int (nI y)), (0, .ref x9), (1, .ref g), (2, .ref vv), (3, .ref nn), (4, .int zz)]) hx hb dL_acts_28 hl (by decide) rfl (fun ls hl => ?_)
  refine lv_iload hx hb dL_acts_30 (lv_at hl 1 rfl) ?_
  refine lv_bipush (v := nI 9) hx hb dL_acts_32 (by decide) ?_
  refine wv_icmp_ge (tgt := 108) hx hb (by omega) (by omega) dL_acts_34 (by decide) (fun c34 => ?_) (fun c34 => ?_)
  · skip
    refine lv_iload hx hb dL_acts_108 (lv_at hl 1 rfl) ?_
    refine lv_bipush (v := nI 12) hx hb dL_acts_110 (by decide) ?_
    refine wv_icmp_ge (tgt := 209) hx hb (by omega) (by omega) dL_acts_112 (by decide) (fun c112 => ?_) (fun c112 => ?_)
    · skip
      refine lv_iload hx hb dL_acts_209 (lv_at hl 1 rfl) ?_
      refine lv_bipush (v := nI 16) hx hb dL_acts_211 (by decide) ?_
      refine wv_icmp_ge (tgt := 421) hx hb (by omega) (by omega) dL_acts_213 (by decide) (fun c213 => ?_) (fun c213 => ?_)
      · skip
        refine lv_iload hx hb dL_acts_421 (lv_at hl 1 rfl) ?_
        refine lv_bipush (v := nI 18) hx hb dL_acts_423 (by decide) ?_
        refine wv_icmp_ge (tgt := 508) hx hb (by omega) (by omega) dL_acts_425 (by decide) (fun c425 => ?_) (fun c425 => ?_)
        · skip
          refine lv_iload hx hb dL_acts_508 (lv_at hl 1 rfl) ?_
          refine lv_bipush (v := nI 18) hx hb dL_acts_510 (by decide) ?_
          refine wv_icmp_ne (tgt := 565) hx hb (by omega) (by omega) dL_acts_512 (by decide) (fun c512 => ?_) (fun c512 => ?_)
          · skip
            refine lv_iload hx hb dL_acts_565 (lv_at hl 1 rfl) ?_
            refine lv_bipush (v := nI 19) hx hb dL_acts_567 (by decide) ?_
            refine wv_icmp_ne (tgt := 620) hx hb (by omega) (by omega) dL_acts_569 (by decide) (fun c569 => ?_) (fun c569 => ?_)
            · skip
              refine lv_iload hx hb dL_acts_620 (lv_at hl 1 rfl) ?_
              refine lv_bipush (v := nI 20) hx hb dL_acts_622 (by decide) ?_
              refine wv_icmp_ne (tgt := 677) hx hb (by omega) (by omega) dL_acts_624 (by decide) (fun c624 => ?_) (fun c624 => ?_)
              · skip
                refine lv_iload hx hb dL_acts_677 (lv_at hl 1 rfl) ?_
                refine lv_bipush (v := nI 21) hx hb dL_acts_679 (by decide) ?_
                refine wv_icmp_ne (tgt := 703) hx hb (by omega) (by omega) dL_acts_681 (by decide) (fun c681 => ?_) (fun c681 => ?_)
                · skip
                  refine lv_iload hx hb dL_acts_703 (lv_at hl 1 rfl) ?_
                  refine lv_bipush (v := nI 22) hx hb dL_acts_705 (by decide) ?_
                  refine wv_icmp_ne (tgt := 736) hx hb (by omega) (by omega) dL_acts_707 (by decide) (fun c707 => ?_) (fun c707 => ?_)
                  · skip
                    exact la_search C hP hD hS (lv_sub hl [3, 4, 5, 6, 7, 2, 1, 0] rfl) hn hb31 hrk hol hct hy hway
                  · skip
                    refine lv_iload hx hb dL_acts_710 (lv_at hl 2 rfl) ?_
                    refine lv_iconst (v := nI 3) hx hb dL_acts_712 (by decide) ?_
                    refine lv_irem hx hb dL_acts_713 (by decide) ?_
                    refine wv_ti (pk_rem (by omega) (by omega) (by omega)) ?_
                    refine wv_if_ne (tgt := 736) hx hb (by omega) dL_acts_714 (by decide) (fun c714 => ?_) (fun c714 => ?_)
                    · skip
                      exact la_search C hP hD hS (lv_sub hl [3, 4, 5, 6, 7, 2, 1, 0] rfl) hn hb31 hrk hol hct hy hway
                    · skip
                      exact la_mend C hP hD hS (lv_sub hl [3, 4, 5, 6, 7, 2, 1, 0] rfl) hn hb31 hrk hol hct hy hway
                · skip
                  exact la_step C hP hD hS (lv_sub hl [3, 4, 5, 6, 7, 2, 1, 0] rfl) hn hb31 hrk hol hct hy hway
              · skip
                exact la_self C hP hD hS (lv_sub hl [3, 4, 5, 6, 7, 2, 1, 0] rfl) hn hb31 hrk hol hct hy hway
            · skip
              exact la_order C hP hD hS (lv_sub hl [3, 4, 5, 6, 7, 2, 1, 0] rfl) hn hb31 hrk hol hct hy hway
          · skip
            exact la_bound C hP hD hS (lv_sub hl [3, 4, 5, 6, 7, 2, 1, 0] rfl) hn hb31 hrk hol hct hy hway
        · skip
          exact la_swap C hP hD hS (lv_sub hl [3, 4, 5, 6, 7, 2, 1, 0] rfl) hn hb31 hrk hol hct hy hway
      · skip
        exact la_remove C hP hD hS (lv_sub hl [3, 4, 5, 6, 7, 2, 1, 0] rfl) hn hb31 hrk hol hct hy hway
    · skip
      exact la_insert C hP hD hS (lv_sub hl [3, 4, 5, 6, 7, 2, 1, 0] rfl) hn hb31 hrk hol hct hy hway
  · skip
    exact la_append C hP hD hS (lv_sub hl [3, 4, 5, 6, 7, 2, 1, 0] rfl) hn hb31 hrk hol hct hy hway
