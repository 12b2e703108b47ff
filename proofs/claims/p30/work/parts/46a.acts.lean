/-! The law: a call of its script, by its kind. -/
theorem eL_hrk {me fl : Bool} {n b : Nat} {v : Nat → Int64} {rk : Nat → Int32} (h : ∀ i, i < n → rk i = nI (rk0 fl v n i)) : ∀ i, i < n → rks v rk (eL me fl n b v) i = nI (rk0 fl (sws v (eL me fl n b v)) n i) := by
  cases me with
  | false =>
    have e : eL false fl n b v = [] := rfl
    rw [e]
    exact h
  | true =>
    have e : eL true fl n b v = mL fl n b 1000 v := rfl
    rw [e]
    exact mL_hrk h
theorem svo_le {ol ct : Nat} (h : ol ≤ 3) : svo ol ct ≤ 3 := by unfold svo; split <;> omega
theorem svc_le {ct : Nat} (h : ct ≤ 4) : svc ct ≤ 4 := by unfold svc; split <;> omega
theorem opn_f {k n : Nat} (h : n < k) (hk : k < 2 ^ 31) : opn (nI k) n = false := by
  unfold opn
  rw [decide_eq_false (p := ¬ nI n < nI k) (fun z => z (nI_lt h hk)), Bool.and_false]
theorem hnx_f {k n : Nat} (hn : n ≤ 32) (h : n ≤ k + 1) (hk : k < 100) : hnx (nI k) n = false := by
  have e : nI n - nI 1 ≤ nI k := by
    rw [Int32.le_iff_toInt_le, pk_sub_toInt (by omega) (by decide), nI_toInt (n := k) (by omega)]
    omega
  unfold hnx
  rw [decide_eq_false (p := ¬ nI n - nI 1 ≤ nI k) (fun z => z e), Bool.and_false]
theorem hnx_m {n : Nat} (hn : n ≤ 32) : hnx (nI n - nI 1) n = false := by
  unfold hnx
  rw [decide_eq_false (p := ¬ nI n - nI 1 ≤ nI n - nI 1) (fun z => z (Int32.le_refl _)), Bool.and_false]
/-- the state that the law and the class are in -/
abbrev LB : Type := RT × RT × RT × RT × RT × Nat × Nat × Int32 × Nat × Int32 × Int32
abbrev aW (x9 : Nat) (r : Nat) (r2 : Nat) (q : Nat) (co : Nat) (h : Nat) (va : Nat) (na : Nat) (ra : Nat) (cJ : ClassId) (cI : ClassId) (sta : Nat) (cR : ClassId) (a0 : RA) (a1 : RA) (a2 : RA) (a3 : RA) (g : Nat) (vv : Nat) (nn : Nat) (u : LB) : va_W := [(x9, .inr (4, [.ref r, .ref r2, .ref q, .ref co, .ref h])), (r, .inr (2, [.ref va, .ref na, .ref ra, .int (nI (u.1.2.2.2.1)), .int (nI (u.1.2.2.2.2.1)), .int (bI (u.1.2.2.2.2.2.1)), .int (bI (u.1.2.2.2.2.2.2.1)), .int (u.1.2.2.2.2.2.2.2.1), .int (u.1.2.2.2.2.2.2.2.2.1), .int (u.1.2.2.2.2.2.2.2.2.2)])), (va, .inl (cJ, 32, .inr (.inl (u.1.1)))), (na, .inl (cI, 32, .inl (u.1.2.1))), (ra, .inl (cI, 32, .inl (u.1.2.2.1))), (h, .inr (1, [.ref sta, .int (nI (u.2.2.2.2.2.1)), .int (nI (u.2.2.2.2.2.2.1))])), (sta, .inl (cR, 4, .inr (.inr (.inr (.inr (rf4 a0.1 a1.1 a2.1 a3.1)))))), (a0.1, .inr (2, [.ref a0.2.1, .ref a0.2.2.1, .ref a0.2.2.2, .int (nI (u.2.1).2.2.2.1), .int (nI (u.2.1).2.2.2.2.1), .int (bI (u.2.1).2.2.2.2.2.1), .int (bI (u.2.1).2.2.2.2.2.2.1), .int (u.2.1).2.2.2.2.2.2.2.1, .int (u.2.1).2.2.2.2.2.2.2.2.1, .int (u.2.1).2.2.2.2.2.2.2.2.2])), (a0.2.1, .inl (cJ, 32, .inr (.inl (u.2.1).1))), (a0.2.2.1, .inl (cI, 32, .inl (u.2.1).2.1)), (a0.2.2.2, .inl (cI, 32, .inl (u.2.1).2.2.1)), (a1.1, .inr (2, [.ref a1.2.1, .ref a1.2.2.1, .ref a1.2.2.2, .int (nI (u.2.2.1).2.2.2.1), .int (nI (u.2.2.1).2.2.2.2.1), .int (bI (u.2.2.1).2.2.2.2.2.1), .int (bI (u.2.2.1).2.2.2.2.2.2.1), .int (u.2.2.1).2.2.2.2.2.2.2.1, .int (u.2.2.1).2.2.2.2.2.2.2.2.1, .int (u.2.2.1).2.2.2.2.2.2.2.2.2])), (a1.2.1, .inl (cJ, 32, .inr (.inl (u.2.2.1).1))), (a1.2.2.1, .inl (cI, 32, .inl (u.2.2.1).2.1)), (a1.2.2.2, .inl (cI, 32, .inl (u.2.2.1).2.2.1)), (a2.1, .inr (2, [.ref a2.2.1, .ref a2.2.2.1, .ref a2.2.2.2, .int (nI (u.2.2.2.1).2.2.2.1), .int (nI (u.2.2.2.1).2.2.2.2.1), .int (bI (u.2.2.2.1).2.2.2.2.2.1), .int (bI (u.2.2.2.1).2.2.2.2.2.2.1), .int (u.2.2.2.1).2.2.2.2.2.2.2.1, .int (u.2.2.2.1).2.2.2.2.2.2.2.2.1, .int (u.2.2.2.1).2.2.2.2.2.2.2.2.2])), (a2.2.1, .inl (cJ, 32, .inr (.inl (u.2.2.2.1).1))), (a2.2.2.1, .inl (cI, 32, .inl (u.2.2.2.1).2.1)), (a2.2.2.2, .inl (cI, 32, .inl (u.2.2.2.1).2.2.1)), (a3.1, .inr (2, [.ref a3.2.1, .ref a3.2.2.1, .ref a3.2.2.2, .int (nI (u.2.2.2.2.1).2.2.2.1), .int (nI (u.2.2.2.2.1).2.2.2.2.1), .int (bI (u.2.2.2.2.1).2.2.2.2.2.1), .int (bI (u.2.2.2.2.1).2.2.2.2.2.2.1), .int (u.2.2.2.2.1).2.2.2.2.2.2.2.1, .int (u.2.2.2.2.1).2.2.2.2.2.2.2.2.1, .int (u.2.2.2.2.1).2.2.2.2.2.2.2.2.2])), (a3.2.1, .inl (cJ, 32, .inr (.inl (u.2.2.2.2.1).1))), (a3.2.2.1, .inl (cI, 32, .inl (u.2.2.2.2.1).2.1)), (a3.2.2.2, .inl (cI, 32, .inl (u.2.2.2.2.1).2.2.1)), (q, .inr (3, [.int (u.2.2.2.2.2.2.2.1), .int (nI (u.2.2.2.2.2.2.2.2.1)), .int (u.2.2.2.2.2.2.2.2.2.1), .int (u.2.2.2.2.2.2.2.2.2.2)])), (g, .inl (cI, 7, .inl (gM (u.1.2.2.2.1) (u.1.2.2.2.2.1) (u.1.2.2.2.2.2.1) (u.1.2.2.2.2.2.2.1) (u.1.2.2.2.2.2.2.2.1) (u.1.2.2.2.2.2.2.2.2.1) (u.1.2.2.2.2.2.2.2.2.2)))), (vv, .inl (cJ, 32, .inr (.inl (u.1.1)))), (nn, .inl (cI, 32, .inl (u.1.2.1)))]
def C1 (u : LB) : Prop := u.1.2.2.2.1 ≤ 32 ∧ u.1.2.2.2.2.1 ≤ 31 ∧ (∀ i, i < u.1.2.2.2.1 → u.1.2.2.1 i = nI (rk0 u.1.2.2.2.2.2.1 u.1.1 u.1.2.2.2.1 i)) ∧ u.2.2.2.2.2.1 ≤ 3 ∧ u.2.2.2.2.2.2.1 ≤ 4
def AC (p : Program) (l : Launch) (s : State) (m : MethodId) (args : Array Value) (meth : Method) (c : Code) (A : Nat → Prop) (D : va_G) (cJ cI cR : ClassId) : Prop :=
  l.stackTraces = false ∧ p.tables.exec = Jvm.exec ∧ c.code = cL_acts ∧ meth.sig.returnType = some .boolean ∧ (∀ w ∈ wsL_acts, w.before args s = true) ∧ s.vm.findClass RL = some m.cls ∧ meth.locks = false ∧ c.maxLocals = 12 ∧ va_K D vwCl [(cJ, .long), (cI, .int), (cR, .object "NearRanks$Row")] s ∧ NWs s ∧ XEN A s s.heap ∧ ∀ q : Nat, s.heap.size ≤ q → A q
