/-! Methods of the law that catch: their contracts' starts, their ends, the handler, their calls. -/
def LXi (l : Launch) (y : MethodName) (ws : List Cond) (rm : Room) (As : List Value) (D : va_G) (wc : va_W) (tys : List (ClassId × FieldType)) (ans : Int32) : Prop :=
  ∀ sz : Nat, Met l y ws rm (va_Pc As (fun U => U.heap.size = sz ∧ va_P D vwCl wc U.heap ∧ va_K D vwCl tys U ∧ NWs U ∧ XEN (va_A [] sz) U U.heap)) (va_Qi (fun (r : Int32) (_ : Unit) => r = ans) (fun _ _ => True) (va_A [] sz)) 1 6 (va_A [] sz)
def ZLi (below : List Frame) (args : Array Value) (s : State) (ans : Int32) : State → Prop := MQ below (va_Qi (fun (r : Int32) (_ : Unit) => r = ans) (fun _ _ => True) (va_A [] s.heap.size)) args s 1 6 (va_A [] s.heap.size)
section LKS
variable {l : Launch} {y : MethodName} {ws ws' : List Cond} {rm : Room} {As : List Value} {D : va_G} {wc : va_W} {tys : List (ClassId × FieldType)} {cc : ByteArray} {maxL : Nat} {ret : Option FieldType} {hh : List (Nat × Nat × Nat × Nat)}
theorem MMi_ofH {ans : Int32} {w1 : va_W} (hy : plainName y.cls = true) (hw : ws = Cond.codeWith y cc maxL ret hh :: ws') (hlen : (lg_sl As).length ≤ maxL)
    (body : ∀ (p : Program) (e : Env) (s : State) (m : MethodId) (args : Array Value) (below : List Frame) (meth : Method) (c : Code), p.tables.exec = Jvm.exec → c.code = cc → meth.sig.returnType = ret → (∀ w ∈ ws, w.before args s = true) → s.vm.findClass y.cls = some m.cls → meth.locks = false → c.maxLocals = maxL → va_P D vwCl wc s.heap → va_K D vwCl tys s → NWs s → va_D (va_A wc s.heap.size) wc → ∀ ls : Array Slot, lv_has ls maxL (lv_args 0 As) → W p l e rm s m args below meth c s.heap [] 0 0 (ZMi below args s D wc ans w1) (F0 m 0 ls [])) : MMi l y ws rm As D wc tys ans w1 := by
  intro sz
  refine va_MetW (cc := cc) (maxL := maxL) (ret := ret) (hh := hh) hy hw ?_
  intro p e s m args below meth c s₁ B hml hv
  obtain ⟨rfl, hsz, hP, hK, hN, hD⟩ := hv
  subst hsz
  rw [lg_entry_eq]
  exact body p e s m As.toArray below meth c B.exec B.bytes B.returns (atoms_spec (ws := ws) B.pre) (findClass_of_methodNamed B.named) B.notSynchronized hml hP hK hN hD.self _ (lv_entry As hlen)
theorem LXi_of {ans : Int32} (hy : plainName y.cls = true) (hw : ws = Cond.codeWith y cc maxL ret hh :: ws') (hlen : (lg_sl As).length ≤ maxL)
    (body : ∀ (p : Program) (e : Env) (s : State) (m : MethodId) (args : Array Value) (below : List Frame) (meth : Method) (c : Code), p.tables.exec = Jvm.exec → c.code = cc → meth.sig.returnType = ret → (∀ w ∈ ws, w.before args s = true) → s.vm.findClass y.cls = some m.cls → meth.locks = false → c.maxLocals = maxL → c.exceptionTable.toList = tableOf hh → va_P D vwCl wc s.heap → va_K D vwCl tys s → NWs s → XEN (va_A [] s.heap.size) s s.heap → ∀ ls : Array Slot, lv_has ls maxL (lv_args 0 As) → W p l e rm s m args below meth c s.heap [] 0 0 (ZLi below args s ans) (F0 m 0 ls [])) : LXi l y ws rm As D wc tys ans := by
  intro sz
  refine va_MetW (cc := cc) (maxL := maxL) (ret := ret) (hh := hh) hy hw ?_
  intro p e s m args below meth c s₁ B hml hv
  obtain ⟨rfl, hsz, hP, hK, hN, hX⟩ := hv
  subst hsz
  have ht : c.exceptionTable.toList = tableOf hh := vx_table (x := y) B (atoms_spec (ws := ws) B.pre _ (by rw [hw]; exact List.mem_cons_self))
  rw [lg_entry_eq]
  exact body p e s m As.toArray below meth c B.exec B.bytes B.returns (atoms_spec (ws := ws) B.pre) (findClass_of_methodNamed B.named) B.notSynchronized hml ht hP hK hN hX _ (lv_entry As hlen)
end LKS
section LK
variable {p : Program} {l : Launch} {e : Env} {R : Room} {s : State} {m : MethodId} {args : Array Value} {below : List Frame} {meth : Method} {c : Code} {H : Heap} {locs : List Loc} {cells slots : Nat} {Q : State → Prop}
variable {cc : ByteArray} {pc : Nat} {ls : Array Slot} {rest st0 : List Value} {D : va_G} {cl : List vw_C} {A : Nat → Prop} {a : Nat} {tys : List (ClassId × FieldType)} {ws : va_W} {H0 : Heap}
theorem wv_iretL {ans v : Int32} (hexec : p.tables.exec = Jvm.exec) (hb : c.code = cc) (hr : meth.sig.returnType = some .int) (hlocks : meth.locks = false) (hS : va_S (va_A [] s.heap.size) s.heap H locs) (hans : v = ans) (hdg : decode cc pc = .ok (.ireturn, 1)) : W p l e R s m args below meth c H locs 1 6 (ZLi below args s ans) (F0 m pc ls [.int v]) :=
  W.iret hexec hb hr (fun t ht _ => ⟨⟨v, (), rfl, hans, trivial⟩, hS.F ht⟩) hS.2.2 hdg hlocks
/-- a handler: the first row of the table takes it -/
theorem wv_catch1 {own name : String} {E : String} {ce : Cell} {q9 : Addr} {a b h t : Nat} {hh : List (Nat × Nat × Nat × Nat)} (hown : s.vm.findClass own = some m.cls) (ht : c.exceptionTable.toList = tableOf ((a, b, h, t) :: hh)) (hpc : a ≤ pc ∧ pc < b) (h0 : t ≠ 0)
    (hlink : (Cond.classLink own t name).before args s = true) (hX : XEN A s s.heap) (hcast : Cond.castable E name ∈ XW) (hcell : H[q9]? = some ce) (hv : ce.vm = .none) (hcl : s.vm.findClass E = some ce.cls)
    (kk : W p l e R s m args below meth c H locs cells slots Q (F0 m h ls [.ref q9])) : vx_W p l e R s m args below meth c H locs cells slots Q (F0 m pc ls rest) q9 :=
  vx_catch hown [] ⟨a, b, h, t⟩ (tableOf hh) ht (fun z hz => by cases hz) (by simp [covers, hpc.1, hpc.2]) h0 hlink (va_Nw.use rfl (hX.2.2.1 _ hcast)) hcell hv hcl kk
/-- a handler: the second row of the table takes it -/
theorem wv_catch2 {own name n1 : String} {E : String} {ce : Cell} {q9 : Addr} {a b h t a1 b1 h1 t1 : Nat} {hh : List (Nat × Nat × Nat × Nat)} (hown : s.vm.findClass own = some m.cls) (ht : c.exceptionTable.toList = tableOf ((a1, b1, h1, t1) :: (a, b, h, t) :: hh)) (hpc : a ≤ pc ∧ pc < b) (h0 : t ≠ 0) (h01 : t1 ≠ 0)
    (hlink1 : (Cond.classLink own t1 n1).before args s = true) (hnc : va_Nc E n1 s)
    (hlink : (Cond.classLink own t name).before args s = true) (hX : XEN A s s.heap) (hcast : Cond.castable E name ∈ XW) (hcell : H[q9]? = some ce) (hv : ce.vm = .none) (hcl : s.vm.findClass E = some ce.cls)
    (kk : W p l e R s m args below meth c H locs cells slots Q (F0 m h ls [.ref q9])) : vx_W p l e R s m args below meth c H locs cells slots Q (F0 m pc ls rest) q9 :=
  vx_catch hown [⟨a1, b1, h1, t1⟩] ⟨a, b, h, t⟩ (tableOf hh) ht (fun z hz => by cases List.mem_singleton.mp hz; exact Or.inr ⟨h01, n1, hlink1, hnc⟩) (by simp [covers, hpc.1, hpc.2]) h0 hlink (va_Nw.use rfl (hX.2.2.1 _ hcast)) hcell hv hcl kk
/-- the law calls one of its own methods, which returns with the answer written -/
theorem wv_callSWi {y : MethodName} {bytes : ByteArray} {maxL nL n index : Nat} {ret : Option FieldType} {hh : List (Nat × Nat × Nat × Nat)} {wy : List Cond} {rm : Room} {Ts : List Cond} {own : String} {As : List Value} {wc wr w1 ws1 : va_W} {tc : List (ClassId × FieldType)} {ans : Int32} (S : CallFix p m c cc nL s args Ts own) (hM : MMi l y wy rm As D wc tc ans w1) (cw : vx_CSW R s args own index y bytes maxL ret hh wy rm 0 0 n)
    (hK : va_K D vwCl tys s) (hN : NWs s) (hP : va_P D vwCl ws H) (hD : va_D A ws) (hS : va_S A H0 H locs) (hA : ∀ q, H0.size ≤ q → A q) (isC isR isT pm : List Nat) (hC : isC.map (fun i => ws[i]?) = wc.map some) (hCf : isC.filterMap (fun i => ws[i]?) = wc) (hCn' : va_nd isC = true) (hR : isR.map (fun i => ws[i]?) = wr.map some) (hnR : va_nd isR = true) (hdis : ∀ i ∈ isR, i ∉ isC) (hT : isT.filterMap (fun i => tys[i]?) = tc) (hpn : va_nd pm = true) (hpm : pm.map (fun i => (wr ++ w1)[i]?) = ws1.map some)
    (hn : As.length = n) (hsize : ls.size = nL) (hst : st0 = As.reverse ++ rest) (hW : (rest.map fun v => v.category).sum ≤ 8) (hdg : decode cc pc = .ok (.invokestatic index, 3)) (hf : cells ≤ R.cells ∧ slots ≤ R.slots)
    (kk : ∀ (H1 : Heap) (locs1 : List Loc), H.size ≤ H1.size → va_P D vwCl ws1 H1 → va_D A ws1 → va_S A H0 H1 locs1 → W p l e R s m args below meth c H1 locs1 cells slots Q (F0 m (pc + 3) ls (.int ans :: rest))) : W p l e R s m args below meth c H locs cells slots Q (F0 m pc ls st0) := by
  have hfr := va_free (wc := wc) hD hS hA isC hC
  have hPc := hP.sub isC hCf
  have hKc := hK.sub isT hT
  have hDc := (hD.sub isC hCn' hC).weaken (B := fun _ => True) (fun _ _ _ _ => trivial)
  refine va_calli (vx_runSW (As := As) (rest := rest) (g := F0 m pc ls st0) S (hM H.size) cw ⟨wk_blM, fun U hU hW => ⟨rfl, by rw [hU], by rw [hU]; exact hPc, va_K.moved hW.alike hKc, hN.warm hW, hDc⟩⟩ rfl hn hsize hst (lv_room hW) hdg hf) hS (fun q _ h => hfr q h) hfr (fun r u t H1 locs1 ht _ hw hB hz hk hS1 => ?_)
  subst hw
  obtain ⟨hP1, hD1⟩ := hB
  rw [ht] at hP1
  obtain ⟨g1, g2⟩ := wk_joinO hP hD isC isR hC hR hnR hdis hk hfr hP1 hD1 pm hpn hpm
  exact kk H1 locs1 hz g1 g2 hS1
/-- the law calls one of its own methods, which catches -/
theorem wv_callSWX {y : MethodName} {bytes : ByteArray} {maxL nL n index : Nat} {ret : Option FieldType} {hh : List (Nat × Nat × Nat × Nat)} {wy : List Cond} {rm : Room} {Ts : List Cond} {own : String} {As : List Value} {wc : va_W} {tc : List (ClassId × FieldType)} {ans : Int32} (S : CallFix p m c cc nL s args Ts own) (hM : LXi l y wy rm As D wc tc ans) (cw : vx_CSW R s args own index y bytes maxL ret hh wy rm 1 6 n)
    (hK : va_K D vwCl tys s) (hN : NWs s) (hX : XEN A s s.heap) (hP : va_P D vwCl ws H) (hS : va_S A s.heap H locs) (hA : ∀ q, s.heap.size ≤ q → A q) (isC isT : List Nat) (hC : isC.filterMap (fun i => ws[i]?) = wc) (hT : isT.filterMap (fun i => tys[i]?) = tc)
    (hn : As.length = n) (hsize : ls.size = nL) (hst : st0 = As.reverse ++ rest) (hW : (rest.map fun v => v.category).sum ≤ 8) (hdg : decode cc pc = .ok (.invokestatic index, 3)) (hf : cells + 1 ≤ R.cells ∧ slots + 6 ≤ R.slots)
    (kk : ∀ (H1 : Heap) (locs1 : List Loc), H.size ≤ H1.size → va_P D vwCl ws H1 → va_S A s.heap H1 locs1 → W p l e R s m args below meth c H1 locs1 (cells + 1) (slots + 6) Q (F0 m (pc + 3) ls (.int ans :: rest))) : W p l e R s m args below meth c H locs cells slots Q (F0 m pc ls st0) := by
  have hfr : ∀ q, va_A [] H.size q → A q := fun q h => hA q (Nat.le_trans hS.1 (wk_ne h))
  have hPc := hP.sub isC hC
  have hKc := hK.sub isT hT
  have hXc := (hX.kept hS.2.1).narrow hfr
  refine va_calli (vx_runSW (As := As) (rest := rest) (g := F0 m pc ls st0) S (hM H.size) cw ⟨wk_blX, fun U hU hW => ⟨rfl, by rw [hU], by rw [hU]; exact hPc, va_K.moved hW.alike hKc, hN.warm hW, by rw [hU]; exact hXc.warm hW⟩⟩ rfl hn hsize hst (lv_room hW) hdg hf) hS (fun q _ h => hfr q h) hfr (fun r u t H1 locs1 _ _ hw _ hz hk hS1 => ?_)
  subst hw
  exact kk H1 locs1 hz (wk_keep hP hk) hS1
/-- the script's cell, its place counted -/
theorem wv_sld (hexec : p.tables.exec = Jvm.exec) (hb : c.code = cc) {bb L j : Nat} {xs : Nat → Int32} (hX : va_X bb L xs s s.heap) (hbl : bb < s.heap.size) (hbA : ¬ A bb) (hS : va_S A s.heap H locs) (hj : j < L) (hL : L ≤ 2048) (hdg : decode cc pc = .ok (.iaload, 1))
    (kk : W p l e R s m args below meth c H locs cells slots Q (F0 m (pc + 1) ls (.int (xs j) :: rest))) : W p l e R s m args below meth c H locs cells slots Q (F0 m pc ls (.int (nI j) :: .ref bb :: rest)) :=
  va_sld hexec hb hX hbl hbA hS (vp_in_nI hj (by omega)) hdg (by rw [nI_clamp (by omega)]; exact kk)
end LK
/-- a long out of two ints of the script -/
def sLg (xs : Nat → Int32) (j : Nat) : Int64 := ((xs j).toInt64 <<< ((nI 32).toInt64 &&& 63)) ||| ((xs (j + 1)).toInt64 &&& (lN 4294967295))
theorem and31 (x : Int32) : ∃ j, j < 32 ∧ (x &&& nI 31) = nI j := by
  refine ⟨(x &&& nI 31).toUInt32.toNat, ?_, ?_⟩
  · have h : (x &&& nI 31).toUInt32.toNat = x.toUInt32.toNat &&& 31 := rfl
    rw [h]
    exact Nat.lt_of_le_of_lt Nat.and_le_right (by decide)
  · have h : ∀ y : Int32, y = nI y.toUInt32.toNat := fun y => by
      unfold nI
      exact (Int32.toBitVec.inj (by simp [Int32.ofNat])).symm
    exact h _
