/-! The law's own kit: its counts, its rows, its searches' looks as cells; methods that catch and answer a long; methods of the law that change cells, that come to some state. -/
def gM (n b : Nat) (fl me : Bool) (st lk cm : Int32) : Nat → Int32 := fun i => match i with
  | 0 => nI n
  | 1 => nI b
  | 2 => bI fl
  | 3 => bI me
  | 4 => st
  | 5 => lk
  | 6 => cm
  | _ => 0
def tM (a : Nat) (lo hi : Int32) : Nat → Int32 := fun i => match i with
  | 0 => nI a
  | 1 => lo
  | 2 => hi
  | _ => 0
section GM
variable {n b : Nat} {fl me : Bool} {st lk cm : Int32}
theorem gM_u0 (x : Nat) : upd (gM n b fl me st lk cm) 0 (nI x) = gM x b fl me st lk cm := by
  funext j
  rcases j with _ | _ | _ | _ | _ | _ | _ | j <;> rfl
theorem gM_u1 (x : Nat) : upd (gM n b fl me st lk cm) 1 (nI x) = gM n x fl me st lk cm := by
  funext j
  rcases j with _ | _ | _ | _ | _ | _ | _ | j <;> rfl
theorem gM_u2 (x : Bool) : upd (gM n b fl me st lk cm) 2 (bI x) = gM n b x me st lk cm := by
  funext j
  rcases j with _ | _ | _ | _ | _ | _ | _ | j <;> rfl
theorem gM_u3 (x : Bool) : upd (gM n b fl me st lk cm) 3 (bI x) = gM n b fl x st lk cm := by
  funext j
  rcases j with _ | _ | _ | _ | _ | _ | _ | j <;> rfl
theorem gM_u4 (x : Int32) : upd (gM n b fl me st lk cm) 4 x = gM n b fl me x lk cm := by
  funext j
  rcases j with _ | _ | _ | _ | _ | _ | _ | j <;> rfl
theorem gM_u5 (x : Int32) : upd (gM n b fl me st lk cm) 5 x = gM n b fl me st x cm := by
  funext j
  rcases j with _ | _ | _ | _ | _ | _ | _ | j <;> rfl
theorem gM_u6 (x : Int32) : upd (gM n b fl me st lk cm) 6 x = gM n b fl me st lk x := by
  funext j
  rcases j with _ | _ | _ | _ | _ | _ | _ | j <;> rfl
end GM
theorem gM_new : gM 0 0 false false 0 0 0 = fun _ => 0 := by
  funext j
  rcases j with _ | _ | _ | _ | _ | _ | _ | j <;> rfl
theorem tM_new : tM 0 0 0 = fun _ => 0 := by
  funext j
  rcases j with _ | _ | _ | j <;> rfl
section TM
variable {a : Nat} {lo hi : Int32}
theorem tM_u0 (x : Nat) : upd (tM a lo hi) 0 (nI x) = tM x lo hi := by
  funext j
  rcases j with _ | _ | _ | j <;> rfl
theorem tM_u1 (x : Int32) : upd (tM a lo hi) 1 x = tM a x hi := by
  funext j
  rcases j with _ | _ | _ | j <;> rfl
theorem tM_u2 (x : Int32) : upd (tM a lo hi) 2 x = tM a lo x := by
  funext j
  rcases j with _ | _ | _ | j <;> rfl
end TM
abbrev GvC (g : Nat) (cI : ClassId) (n b : Nat) (fl me : Bool) (st lk cm : Int32) : va_W := [(g, .inl (cI, 7, .inl (gM n b fl me st lk cm)))]
abbrev VvC (vv : Nat) (cJ : ClassId) (v : Nat → Int64) : va_W := [(vv, .inl (cJ, 32, .inr (.inl v)))]
abbrev NnC (nn : Nat) (cI : ClassId) (nu : Nat → Int32) : va_W := [(nn, .inl (cI, 32, .inl nu))]
abbrev TtC (tt : Nat) (cI : ClassId) (ta : Nat) (tl th : Int32) : va_W := [(tt, .inl (cI, 3, .inl (tM ta tl th)))]
section LKT
variable {l : Launch} {y : MethodName} {ws ws' : List Cond} {rm : Room} {As : List Value} {D : va_G} {wc : va_W} {tys : List (ClassId × FieldType)} {cc : ByteArray} {maxL : Nat} {ret : Option FieldType} {hh : List (Nat × Nat × Nat × Nat)}
theorem MMl_ofH {ans : Int64} {w1 : va_W} (hy : plainName y.cls = true) (hw : ws = Cond.codeWith y cc maxL ret hh :: ws') (hlen : (lg_sl As).length ≤ maxL)
    (body : ∀ (p : Program) (e : Env) (s : State) (m : MethodId) (args : Array Value) (below : List Frame) (meth : Method) (c : Code), p.tables.exec = Jvm.exec → c.code = cc → meth.sig.returnType = ret → (∀ w ∈ ws, w.before args s = true) → s.vm.findClass y.cls = some m.cls → meth.locks = false → c.maxLocals = maxL → va_P D vwCl wc s.heap → va_K D vwCl tys s → NWs s → va_D (va_A wc s.heap.size) wc → ∀ ls : Array Slot, lv_has ls maxL (lv_args 0 As) → W p l e rm s m args below meth c s.heap [] 0 0 (ZMl below args s D wc ans w1) (F0 m 0 ls []))   : MMl l y ws rm As D wc tys ans w1 := by
  intro sz
  refine va_MetW (cc := cc) (maxL := maxL) (ret := ret) (hh := hh) hy hw ?_
  intro p e s m args below meth c s₁ B hml hv
  obtain ⟨rfl, hsz, hP, hK, hN, hD⟩ := hv
  subst hsz
  rw [lg_entry_eq]
  exact body p e s m As.toArray below meth c B.exec B.bytes B.returns (atoms_spec (ws := ws) B.pre) (findClass_of_methodNamed B.named) B.notSynchronized hml hP hK hN hD.self _ (lv_entry As hlen)
theorem PMi_ofH {ans : Int32} (hy : plainName y.cls = true) (hw : ws = Cond.codeWith y cc maxL ret hh :: ws') (hlen : (lg_sl As).length ≤ maxL)
    (body : ∀ (p : Program) (e : Env) (s : State) (m : MethodId) (args : Array Value) (below : List Frame) (meth : Method) (c : Code), p.tables.exec = Jvm.exec → c.code = cc → meth.sig.returnType = ret → (∀ w ∈ ws, w.before args s = true) → s.vm.findClass y.cls = some m.cls → meth.locks = false → c.maxLocals = maxL → va_P D vwCl wc s.heap → va_K D vwCl tys s → NWs s → ∀ ls : Array Slot, lv_has ls maxL (lv_args 0 As) → W p l e rm s m args below meth c s.heap [] 0 0 (ZPi below args s ans) (F0 m 0 ls [])) : PMi l y ws rm As D wc tys ans := by
  intro sz
  refine va_MetW (cc := cc) (maxL := maxL) (ret := ret) (hh := hh) hy hw ?_
  intro p e s m args below meth c s₁ B hml hv
  obtain ⟨rfl, hsz, hP, hK, hN⟩ := hv
  subst hsz
  rw [lg_entry_eq]
  exact body p e s m As.toArray below meth c B.exec B.bytes B.returns (atoms_spec (ws := ws) B.pre) (findClass_of_methodNamed B.named) B.notSynchronized hml hP hK hN _ (lv_entry As hlen)
theorem PMl_ofH {ans : Int64} (hy : plainName y.cls = true) (hw : ws = Cond.codeWith y cc maxL ret hh :: ws') (hlen : (lg_sl As).length ≤ maxL)
    (body : ∀ (p : Program) (e : Env) (s : State) (m : MethodId) (args : Array Value) (below : List Frame) (meth : Method) (c : Code), p.tables.exec = Jvm.exec → c.code = cc → meth.sig.returnType = ret → (∀ w ∈ ws, w.before args s = true) → s.vm.findClass y.cls = some m.cls → meth.locks = false → c.maxLocals = maxL → va_P D vwCl wc s.heap → va_K D vwCl tys s → NWs s → ∀ ls : Array Slot, lv_has ls maxL (lv_args 0 As) → W p l e rm s m args below meth c s.heap [] 0 0 (ZPl below args s ans) (F0 m 0 ls [])) : PMl l y ws rm As D wc tys ans := by
  intro sz
  refine va_MetW (cc := cc) (maxL := maxL) (ret := ret) (hh := hh) hy hw ?_
  intro p e s m args below meth c s₁ B hml hv
  obtain ⟨rfl, hsz, hP, hK, hN⟩ := hv
  subst hsz
  rw [lg_entry_eq]
  exact body p e s m As.toArray below meth c B.exec B.bytes B.returns (atoms_spec (ws := ws) B.pre) (findClass_of_methodNamed B.named) B.notSynchronized hml hP hK hN _ (lv_entry As hlen)
end LKT
def LXl (l : Launch) (y : MethodName) (ws : List Cond) (rm : Room) (As : List Value) (D : va_G) (wc : va_W) (tys : List (ClassId × FieldType)) (ans : Int64) : Prop :=
  ∀ sz : Nat, Met l y ws rm (va_Pc As (fun U => U.heap.size = sz ∧ va_P D vwCl wc U.heap ∧ va_K D vwCl tys U ∧ NWs U ∧ XEN (va_A [] sz) U U.heap)) (va_Ql (fun (r : Int64) (_ : Unit) => r = ans) (fun _ _ => True) (va_A [] sz)) 1 6 (va_A [] sz)
def ZLl (below : List Frame) (args : Array Value) (s : State) (ans : Int64) : State → Prop := MQ below (va_Ql (fun (r : Int64) (_ : Unit) => r = ans) (fun _ _ => True) (va_A [] s.heap.size)) args s 1 6 (va_A [] s.heap.size)
section LKU
variable {l : Launch} {y : MethodName} {ws ws' : List Cond} {rm : Room} {As : List Value} {D : va_G} {wc : va_W} {tys : List (ClassId × FieldType)} {cc : ByteArray} {maxL : Nat} {ret : Option FieldType} {hh : List (Nat × Nat × Nat × Nat)}
theorem LXl_of {ans : Int64} (hy : plainName y.cls = true) (hw : ws = Cond.codeWith y cc maxL ret hh :: ws') (hlen : (lg_sl As).length ≤ maxL)
    (body : ∀ (p : Program) (e : Env) (s : State) (m : MethodId) (args : Array Value) (below : List Frame) (meth : Method) (c : Code), p.tables.exec = Jvm.exec → c.code = cc → meth.sig.returnType = ret → (∀ w ∈ ws, w.before args s = true) → s.vm.findClass y.cls = some m.cls → meth.locks = false → c.maxLocals = maxL → c.exceptionTable.toList = tableOf hh → va_P D vwCl wc s.heap → va_K D vwCl tys s → NWs s → XEN (va_A [] s.heap.size) s s.heap → ∀ ls : Array Slot, lv_has ls maxL (lv_args 0 As) → W p l e rm s m args below meth c s.heap [] 0 0 (ZLl below args s ans) (F0 m 0 ls [])) : LXl l y ws rm As D wc tys ans := by
  intro sz
  refine va_MetW (cc := cc) (maxL := maxL) (ret := ret) (hh := hh) hy hw ?_
  intro p e s m args below meth c s₁ B hml hv
  obtain ⟨rfl, hsz, hP, hK, hN, hX⟩ := hv
  subst hsz
  have ht : c.exceptionTable.toList = tableOf hh := vx_table (x := y) B (atoms_spec (ws := ws) B.pre _ (by rw [hw]; exact List.mem_cons_self))
  rw [lg_entry_eq]
  exact body p e s m As.toArray below meth c B.exec B.bytes B.returns (atoms_spec (ws := ws) B.pre) (findClass_of_methodNamed B.named) B.notSynchronized hml ht hP hK hN hX _ (lv_entry As hlen)
end LKU
section LL
variable {p : Program} {l : Launch} {e : Env} {R : Room} {s : State} {m : MethodId} {args : Array Value} {below : List Frame} {meth : Method} {c : Code} {H : Heap} {locs : List Loc} {cells slots : Nat} {Q : State → Prop}
variable {cc : ByteArray} {pc : Nat} {ls : Array Slot} {rest st0 : List Value} {D : va_G} {cl : List vw_C} {A : Nat → Prop} {a : Nat} {tys : List (ClassId × FieldType)} {ws : va_W} {H0 : Heap}
theorem wv_lretL {ans v : Int64} (hexec : p.tables.exec = Jvm.exec) (hb : c.code = cc) (hr : meth.sig.returnType = some .long) (hlocks : meth.locks = false) (hS : va_S (va_A [] s.heap.size) s.heap H locs) (hans : v = ans) (hdg : decode cc pc = .ok (.lreturn, 1)) : W p l e R s m args below meth c H locs 1 6 (ZLl below args s ans) (F0 m pc ls [.long v]) :=
  W.lret hexec hb hr (fun t ht _ => ⟨⟨v, (), rfl, hans, trivial⟩, hS.F ht⟩) hS.2.2 hdg hlocks
/-- a static call that changes its world -/
theorem wv_callSMi {y : MethodName} {bytes : ByteArray} {maxL nL n index : Nat} {ret : Option FieldType} {wy : List Cond} {rm : Room} {Ts : List Cond} {own : String} {As : List Value} {wc wr w1 ws1 : va_W} {tc : List (ClassId × FieldType)} {ans : Int32} (S : CallFix p m c cc nL s args Ts own) (hM : MMi l y wy rm As D wc tc ans w1) (cw : CallB R s args own index y bytes maxL ret wy rm 0 0 n ∧ (Cond.static y).before args s = true)
    (hK : va_K D vwCl tys s) (hN : NWs s) (hP : va_P D vwCl ws H) (hD : va_D A ws) (hS : va_S A H0 H locs) (hA : ∀ q, H0.size ≤ q → A q) (isC isR isT pm : List Nat) (hC : isC.map (fun i => ws[i]?) = wc.map some) (hCf : isC.filterMap (fun i => ws[i]?) = wc) (hCn' : va_nd isC = true) (hR : isR.map (fun i => ws[i]?) = wr.map some) (hnR : va_nd isR = true) (hdis : ∀ i ∈ isR, i ∉ isC) (hT : isT.filterMap (fun i => tys[i]?) = tc) (hpn : va_nd pm = true) (hpm : pm.map (fun i => (wr ++ w1)[i]?) = ws1.map some)
    (hn : As.length = n) (hsize : ls.size = nL) (hst : st0 = As.reverse ++ rest) (hW : (rest.map fun v => v.category).sum ≤ 8) (hdg : decode cc pc = .ok (.invokestatic index, 3)) (hf : cells ≤ R.cells ∧ slots ≤ R.slots)
    (kk : ∀ (H1 : Heap) (locs1 : List Loc), H.size ≤ H1.size → va_P D vwCl ws1 H1 → va_D A ws1 → va_S A H0 H1 locs1 → W p l e R s m args below meth c H1 locs1 cells slots Q (F0 m (pc + 3) ls (.int ans :: rest))) : W p l e R s m args below meth c H locs cells slots Q (F0 m pc ls st0) := by
  have hfr := va_free (wc := wc) hD hS hA isC hC
  have hPc := hP.sub isC hCf
  have hKc := hK.sub isT hT
  have hDc := (hD.sub isC hCn' hC).weaken (B := fun _ => True) (fun _ _ _ _ => trivial)
  refine va_calli (va_runS (As := As) (rest := rest) (g := F0 m pc ls st0) S (hM H.size) cw ⟨wk_blM, fun U hU hW => ⟨rfl, by rw [hU], by rw [hU]; exact hPc, va_K.moved hW.alike hKc, hN.warm hW, hDc⟩⟩ rfl hn hsize hst (lv_room hW) hdg hf) hS (fun q _ h => hfr q h) hfr (fun r u t H1 locs1 ht _ hw hB hz hk hS1 => ?_)
  subst hw
  obtain ⟨hP1, hD1⟩ := hB
  rw [ht] at hP1
  obtain ⟨g1, g2⟩ := wk_joinO hP hD isC isR hC hR hnR hdis hk hfr hP1 hD1 pm hpn hpm
  exact kk H1 locs1 hz g1 g2 hS1
theorem wv_callSMv {y : MethodName} {bytes : ByteArray} {maxL nL n index : Nat} {ret : Option FieldType} {wy : List Cond} {rm : Room} {Ts : List Cond} {own : String} {As : List Value} {wc wr w1 ws1 : va_W} {tc : List (ClassId × FieldType)} (S : CallFix p m c cc nL s args Ts own) (hM : MMv l y wy rm As D wc tc w1) (cw : CallB R s args own index y bytes maxL ret wy rm 0 0 n ∧ (Cond.static y).before args s = true)
    (hK : va_K D vwCl tys s) (hN : NWs s) (hP : va_P D vwCl ws H) (hD : va_D A ws) (hS : va_S A H0 H locs) (hA : ∀ q, H0.size ≤ q → A q) (isC isR isT pm : List Nat) (hC : isC.map (fun i => ws[i]?) = wc.map some) (hCf : isC.filterMap (fun i => ws[i]?) = wc) (hCn' : va_nd isC = true) (hR : isR.map (fun i => ws[i]?) = wr.map some) (hnR : va_nd isR = true) (hdis : ∀ i ∈ isR, i ∉ isC) (hT : isT.filterMap (fun i => tys[i]?) = tc) (hpn : va_nd pm = true) (hpm : pm.map (fun i => (wr ++ w1)[i]?) = ws1.map some)
    (hn : As.length = n) (hsize : ls.size = nL) (hst : st0 = As.reverse ++ rest) (hW : (rest.map fun v => v.category).sum ≤ 8) (hdg : decode cc pc = .ok (.invokestatic index, 3)) (hf : cells ≤ R.cells ∧ slots ≤ R.slots)
    (kk : ∀ (H1 : Heap) (locs1 : List Loc), H.size ≤ H1.size → va_P D vwCl ws1 H1 → va_D A ws1 → va_S A H0 H1 locs1 → W p l e R s m args below meth c H1 locs1 cells slots Q (F0 m (pc + 3) ls rest)) : W p l e R s m args below meth c H locs cells slots Q (F0 m pc ls st0) := by
  have hfr := va_free (wc := wc) hD hS hA isC hC
  have hPc := hP.sub isC hCf
  have hKc := hK.sub isT hT
  have hDc := (hD.sub isC hCn' hC).weaken (B := fun _ => True) (fun _ _ _ _ => trivial)
  refine va_callv (va_runS (As := As) (rest := rest) (g := F0 m pc ls st0) S (hM H.size) cw ⟨wk_blM, fun U hU hW => ⟨rfl, by rw [hU], by rw [hU]; exact hPc, va_K.moved hW.alike hKc, hN.warm hW, hDc⟩⟩ rfl hn hsize hst (lv_room hW) hdg hf) hS (fun q _ h => hfr q h) hfr (fun u t H1 locs1 ht _ hw hB hz hk hS1 => ?_)
  obtain ⟨hP1, hD1⟩ := hB
  rw [ht] at hP1
  obtain ⟨g1, g2⟩ := wk_joinO hP hD isC isR hC hR hnR hdis hk hfr hP1 hD1 pm hpn hpm
  exact kk H1 locs1 hz g1 g2 hS1
/-- a call of one of its own methods, with handlers, that answers a long -/
theorem wv_callSWl {y : MethodName} {bytes : ByteArray} {maxL nL n index : Nat} {ret : Option FieldType} {hh : List (Nat × Nat × Nat × Nat)} {wy : List Cond} {rm : Room} {Ts : List Cond} {own : String} {As : List Value} {wc wr w1 ws1 : va_W} {tc : List (ClassId × FieldType)} {ans : Int64} (S : CallFix p m c cc nL s args Ts own) (hM : MMl l y wy rm As D wc tc ans w1) (cw : vx_CSW R s args own index y bytes maxL ret hh wy rm 0 0 n)
    (hK : va_K D vwCl tys s) (hN : NWs s) (hP : va_P D vwCl ws H) (hD : va_D A ws) (hS : va_S A H0 H locs) (hA : ∀ q, H0.size ≤ q → A q) (isC isR isT pm : List Nat) (hC : isC.map (fun i => ws[i]?) = wc.map some) (hCf : isC.filterMap (fun i => ws[i]?) = wc) (hCn' : va_nd isC = true) (hR : isR.map (fun i => ws[i]?) = wr.map some) (hnR : va_nd isR = true) (hdis : ∀ i ∈ isR, i ∉ isC) (hT : isT.filterMap (fun i => tys[i]?) = tc) (hpn : va_nd pm = true) (hpm : pm.map (fun i => (wr ++ w1)[i]?) = ws1.map some)
    (hn : As.length = n) (hsize : ls.size = nL) (hst : st0 = As.reverse ++ rest) (hW : (rest.map fun v => v.category).sum ≤ 8) (hdg : decode cc pc = .ok (.invokestatic index, 3)) (hf : cells ≤ R.cells ∧ slots ≤ R.slots)
    (kk : ∀ (H1 : Heap) (locs1 : List Loc), H.size ≤ H1.size → va_P D vwCl ws1 H1 → va_D A ws1 → va_S A H0 H1 locs1 → W p l e R s m args below meth c H1 locs1 cells slots Q (F0 m (pc + 3) ls (.long ans :: rest))) : W p l e R s m args below meth c H locs cells slots Q (F0 m pc ls st0) := by
  have hfr := va_free (wc := wc) hD hS hA isC hC
  have hPc := hP.sub isC hCf
  have hKc := hK.sub isT hT
  have hDc := (hD.sub isC hCn' hC).weaken (B := fun _ => True) (fun _ _ _ _ => trivial)
  refine va_calll (vx_runSW (As := As) (rest := rest) (g := F0 m pc ls st0) S (hM H.size) cw ⟨wk_blM, fun U hU hW => ⟨rfl, by rw [hU], by rw [hU]; exact hPc, va_K.moved hW.alike hKc, hN.warm hW, hDc⟩⟩ rfl hn hsize hst (lv_room hW) hdg hf) hS (fun q _ h => hfr q h) hfr (fun r u t H1 locs1 ht _ hw hB hz hk hS1 => ?_)
  subst hw
  obtain ⟨hP1, hD1⟩ := hB
  rw [ht] at hP1
  obtain ⟨g1, g2⟩ := wk_joinO hP hD isC isR hC hR hnR hdis hk hfr hP1 hD1 pm hpn hpm
  exact kk H1 locs1 hz g1 g2 hS1
/-- a call of one of its own methods, with handlers, that changes nothing -/
theorem wv_callSWPi {y : MethodName} {bytes : ByteArray} {maxL nL n index : Nat} {ret : Option FieldType} {hh : List (Nat × Nat × Nat × Nat)} {wy : List Cond} {rm : Room} {Ts : List Cond} {own : String} {As : List Value} {wc : va_W} {tc : List (ClassId × FieldType)} {ans : Int32} (S : CallFix p m c cc nL s args Ts own) (hM : PMi l y wy rm As D wc tc ans) (cw : vx_CSW R s args own index y bytes maxL ret hh wy rm 0 0 n)
    (hK : va_K D vwCl tys s) (hN : NWs s) (hP : va_P D vwCl ws H) (hS : va_S A H0 H locs) (hA : ∀ q, H0.size ≤ q → A q) (isC isT : List Nat) (hC : isC.filterMap (fun i => ws[i]?) = wc) (hT : isT.filterMap (fun i => tys[i]?) = tc)
    (hn : As.length = n) (hsize : ls.size = nL) (hst : st0 = As.reverse ++ rest) (hW : (rest.map fun v => v.category).sum ≤ 8) (hdg : decode cc pc = .ok (.invokestatic index, 3)) (hf : cells ≤ R.cells ∧ slots ≤ R.slots)
    (kk : ∀ (H1 : Heap) (locs1 : List Loc), H.size ≤ H1.size → va_P D vwCl ws H1 → va_S A H0 H1 locs1 → W p l e R s m args below meth c H1 locs1 cells slots Q (F0 m (pc + 3) ls (.int ans :: rest))) : W p l e R s m args below meth c H locs cells slots Q (F0 m pc ls st0) := by
  have hfr : ∀ q, va_A [] H.size q → A q := fun q h => hA q (Nat.le_trans hS.1 (wk_ne h))
  have hPc := hP.sub isC hC
  have hKc := hK.sub isT hT
  refine va_calli (vx_runSW (As := As) (rest := rest) (g := F0 m pc ls st0) S (hM H.size) cw ⟨wk_blP, fun U hU hW => ⟨rfl, by rw [hU], by rw [hU]; exact hPc, va_K.moved hW.alike hKc, hN.warm hW⟩⟩ rfl hn hsize hst (lv_room hW) hdg hf) hS (fun q _ h => hfr q h) hfr (fun r u t H1 locs1 _ _ hw _ hz hk hS1 => ?_)
  subst hw
  exact kk H1 locs1 hz (wk_keep hP hk) hS1
/-- a call of one of its own methods, with handlers, that changes nothing -/
theorem wv_callSWPl {y : MethodName} {bytes : ByteArray} {maxL nL n index : Nat} {ret : Option FieldType} {hh : List (Nat × Nat × Nat × Nat)} {wy : List Cond} {rm : Room} {Ts : List Cond} {own : String} {As : List Value} {wc : va_W} {tc : List (ClassId × FieldType)} {ans : Int64} (S : CallFix p m c cc nL s args Ts own) (hM : PMl l y wy rm As D wc tc ans) (cw : vx_CSW R s args own index y bytes maxL ret hh wy rm 0 0 n)
    (hK : va_K D vwCl tys s) (hN : NWs s) (hP : va_P D vwCl ws H) (hS : va_S A H0 H locs) (hA : ∀ q, H0.size ≤ q → A q) (isC isT : List Nat) (hC : isC.filterMap (fun i => ws[i]?) = wc) (hT : isT.filterMap (fun i => tys[i]?) = tc)
    (hn : As.length = n) (hsize : ls.size = nL) (hst : st0 = As.reverse ++ rest) (hW : (rest.map fun v => v.category).sum ≤ 8) (hdg : decode cc pc = .ok (.invokestatic index, 3)) (hf : cells ≤ R.cells ∧ slots ≤ R.slots)
    (kk : ∀ (H1 : Heap) (locs1 : List Loc), H.size ≤ H1.size → va_P D vwCl ws H1 → va_S A H0 H1 locs1 → W p l e R s m args below meth c H1 locs1 cells slots Q (F0 m (pc + 3) ls (.long ans :: rest))) : W p l e R s m args below meth c H locs cells slots Q (F0 m pc ls st0) := by
  have hfr : ∀ q, va_A [] H.size q → A q := fun q h => hA q (Nat.le_trans hS.1 (wk_ne h))
  have hPc := hP.sub isC hC
  have hKc := hK.sub isT hT
  refine va_calll (vx_runSW (As := As) (rest := rest) (g := F0 m pc ls st0) S (hM H.size) cw ⟨wk_blP, fun U hU hW => ⟨rfl, by rw [hU], by rw [hU]; exact hPc, va_K.moved hW.alike hKc, hN.warm hW⟩⟩ rfl hn hsize hst (lv_room hW) hdg hf) hS (fun q _ h => hfr q h) hfr (fun r u t H1 locs1 _ _ hw _ hz hk hS1 => ?_)
  subst hw
  exact kk H1 locs1 hz (wk_keep hP hk) hS1
/-- a call of one of its own methods that catches, and answers a long -/
theorem wv_callSWXl {y : MethodName} {bytes : ByteArray} {maxL nL n index : Nat} {ret : Option FieldType} {hh : List (Nat × Nat × Nat × Nat)} {wy : List Cond} {rm : Room} {Ts : List Cond} {own : String} {As : List Value} {wc : va_W} {tc : List (ClassId × FieldType)} {ans : Int64} (S : CallFix p m c cc nL s args Ts own) (hM : LXl l y wy rm As D wc tc ans) (cw : vx_CSW R s args own index y bytes maxL ret hh wy rm 1 6 n)
    (hK : va_K D vwCl tys s) (hN : NWs s) (hX : XEN A s s.heap) (hP : va_P D vwCl ws H) (hS : va_S A s.heap H locs) (hA : ∀ q, s.heap.size ≤ q → A q) (isC isT : List Nat) (hC : isC.filterMap (fun i => ws[i]?) = wc) (hT : isT.filterMap (fun i => tys[i]?) = tc)
    (hn : As.length = n) (hsize : ls.size = nL) (hst : st0 = As.reverse ++ rest) (hW : (rest.map fun v => v.category).sum ≤ 8) (hdg : decode cc pc = .ok (.invokestatic index, 3)) (hf : cells + 1 ≤ R.cells ∧ slots + 6 ≤ R.slots)
    (kk : ∀ (H1 : Heap) (locs1 : List Loc), H.size ≤ H1.size → va_P D vwCl ws H1 → va_S A s.heap H1 locs1 → W p l e R s m args below meth c H1 locs1 (cells + 1) (slots + 6) Q (F0 m (pc + 3) ls (.long ans :: rest))) : W p l e R s m args below meth c H locs cells slots Q (F0 m pc ls st0) := by
  have hfr : ∀ q, va_A [] H.size q → A q := fun q h => hA q (Nat.le_trans hS.1 (wk_ne h))
  have hPc := hP.sub isC hC
  have hKc := hK.sub isT hT
  have hXc := (hX.kept hS.2.1).narrow hfr
  refine va_calll (vx_runSW (As := As) (rest := rest) (g := F0 m pc ls st0) S (hM H.size) cw ⟨wk_blX, fun U hU hW => ⟨rfl, by rw [hU], by rw [hU]; exact hPc, va_K.moved hW.alike hKc, hN.warm hW, by rw [hU]; exact hXc.warm hW⟩⟩ rfl hn hsize hst (lv_room hW) hdg hf) hS (fun q _ h => hfr q h) hfr (fun r u t H1 locs1 _ _ hw _ hz hk hS1 => ?_)
  subst hw
  exact kk H1 locs1 hz (wk_keep hP hk) hS1
end LL
/-! A method of the law that comes to 1, and to some state u that C1 holds of. -/
def EMi {β : Type} (l : Launch) (y : MethodName) (ws : List Cond) (rm : Room) (As : List Value) (D : va_G) (wc : va_W) (tys : List (ClassId × FieldType)) (W1 : β → va_W) (C1 : β → Prop) (mc ms : Nat) : Prop :=
  ∀ sz : Nat, Met l y ws rm (va_Pc As (fun U => U.heap.size = sz ∧ va_P D vwCl wc U.heap ∧ va_K D vwCl tys U ∧ NWs U ∧ va_D (fun _ => True) wc ∧ XEN (va_A wc sz) U U.heap)) (va_Qi (fun (r : Int32) (_ : β) => r = 1) (fun u t => va_P D vwCl (W1 u) t.heap ∧ va_D (va_A wc sz) (W1 u) ∧ C1 u) (va_A wc sz)) mc ms (va_A wc sz)
def ZE {β : Type} (below : List Frame) (args : Array Value) (s : State) (D : va_G) (A : Nat → Prop) (W1 : β → va_W) (C1 : β → Prop) (mc ms : Nat) : State → Prop :=
  MQ below (va_Qi (fun (r : Int32) (_ : β) => r = 1) (fun u t => va_P D vwCl (W1 u) t.heap ∧ va_D A (W1 u) ∧ C1 u) A) args s mc ms A
theorem EMi_of {β : Type} {l : Launch} {y : MethodName} {ws ws' : List Cond} {rm : Room} {As : List Value} {D : va_G} {wc : va_W} {tys : List (ClassId × FieldType)} {W1 : β → va_W} {C1 : β → Prop} {mc ms : Nat} {cc : ByteArray} {maxL : Nat} {ret : Option FieldType} (hy : plainName y.cls = true) (hw : ws = Cond.code y cc maxL ret :: ws') (hlen : (lg_sl As).length ≤ maxL)
    (body : ∀ (p : Program) (e : Env) (s : State) (m : MethodId) (args : Array Value) (below : List Frame) (meth : Method) (c : Code), p.tables.exec = Jvm.exec → c.code = cc → meth.sig.returnType = ret → (∀ w ∈ ws, w.before args s = true) → s.vm.findClass y.cls = some m.cls → meth.locks = false → c.maxLocals = maxL → va_P D vwCl wc s.heap → va_K D vwCl tys s → NWs s → va_D (va_A wc s.heap.size) wc → XEN (va_A wc s.heap.size) s s.heap → ∀ ls : Array Slot, lv_has ls maxL (lv_args 0 As) → W p l e rm s m args below meth c s.heap [] 0 0 (ZE below args s D (va_A wc s.heap.size) W1 C1 mc ms) (F0 m 0 ls [])) : EMi l y ws rm As D wc tys W1 C1 mc ms := by
  intro sz
  refine Met.ofW (cc := cc) (maxL := maxL) (ret := ret) hy hw ?_
  intro p e s m args below meth c s₁ B hml hv
  obtain ⟨rfl, hsz, hP, hK, hN, hD, hX⟩ := hv
  subst hsz
  rw [lg_entry_eq]
  exact body p e s m As.toArray below meth c B.exec B.bytes B.returns (atoms_spec (ws := ws) B.pre) (findClass_of_methodNamed B.named) B.notSynchronized hml hP hK hN hD.self hX _ (lv_entry As hlen)
section EK
variable {p : Program} {l : Launch} {e : Env} {R : Room} {s : State} {m : MethodId} {args : Array Value} {below : List Frame} {meth : Method} {c : Code} {H : Heap} {locs : List Loc} {cells slots : Nat} {Q : State → Prop}
variable {cc : ByteArray} {pc : Nat} {ls : Array Slot} {rest st0 : List Value} {D : va_G} {cl : List vw_C} {A : Nat → Prop} {a : Nat} {tys : List (ClassId × FieldType)} {ws : va_W} {H0 : Heap}
theorem wv_zretE {β : Type} {v : Int32} {b : Bool} {W1 : β → va_W} {C1 : β → Prop} {mc ms : Nat} (u : β) (hexec : p.tables.exec = Jvm.exec) (hb : c.code = cc) (hr : meth.sig.returnType = some .boolean) (hlocks : meth.locks = false) (hP : va_P D vwCl ws H) (hD : va_D A ws) (hS : va_S A s.heap H locs) (hv : v = bI b) (hans : b = true) (is : List Nat) (hnd : va_nd is = true) (hw : is.map (fun i => ws[i]?) = (W1 u).map some) (hwf : is.filterMap (fun i => ws[i]?) = W1 u) (hC : C1 u) (hcs : cells ≤ mc ∧ slots ≤ ms) (hdg : decode cc pc = .ok (.ireturn, 1)) : W p l e R s m args below meth c H locs cells slots (ZE below args s D A W1 C1 mc ms) (F0 m pc ls [.int v]) :=
  W.widen hcs.1 hcs.2 (W.zret hexec hb hr (by rw [hv]; exact bI_nar b) (fun t ht _ => ⟨⟨v, u, rfl, by rw [hv, hans]; rfl, by rw [ht]; exact hP.sub is hwf, hD.sub is hnd hw, hC⟩, hS.F ht⟩) hS.2.2 hdg hlocks)
theorem wk_blE {As : List Value} {wc : va_W} {tc : List (ClassId × FieldType)} {sz : Nat} : FrameBlind (va_Pc As (fun U => U.heap.size = sz ∧ va_P D cl wc U.heap ∧ va_K D cl tc U ∧ NWs U ∧ va_D (fun _ => True) wc ∧ XEN (va_A wc sz) U U.heap)) :=
  fun a U g mk q => by obtain ⟨q0, q1, qP, qK, qN, qD, qE⟩ := q; exact ⟨q0, q1, qP, va_K.moved (u := U) (U := U.calling g mk a) (Vm.Alike.refl U.vm) qK, qN.same (u := U) (U := U.calling g mk a) rfl, qD, XEN.same (u := U) (U := U.calling g mk a) rfl qE⟩
/-- the law calls such a method -/
theorem wv_callE {β : Type} {y : MethodName} {bytes : ByteArray} {maxL nL n index mc ms : Nat} {ret : Option FieldType} {wy : List Cond} {rm : Room} {Ts : List Cond} {own : String} {As : List Value} {wc wr : va_W} {W1 : β → va_W} {C1 : β → Prop} {tc : List (ClassId × FieldType)} (S : CallFix p m c cc nL s args Ts own) (hM : EMi l y wy rm As D wc tc W1 C1 mc ms) (cw : CallB R s args own index y bytes maxL ret wy rm mc ms n ∧ (Cond.static y).before args s = true)
    (hK : va_K D vwCl tys s) (hN : NWs s) (hX : XEN A s s.heap) (hP : va_P D vwCl ws H) (hD : va_D A ws) (hS : va_S A s.heap H locs) (hA : ∀ q, s.heap.size ≤ q → A q) (isC isR isT : List Nat) (hC : isC.map (fun i => ws[i]?) = wc.map some) (hCf : isC.filterMap (fun i => ws[i]?) = wc) (hCn' : va_nd isC = true) (hR : isR.map (fun i => ws[i]?) = wr.map some) (hnR : va_nd isR = true) (hdis : ∀ i ∈ isR, i ∉ isC) (hT : isT.filterMap (fun i => tys[i]?) = tc)
    (hn : As.length = n) (hsize : ls.size = nL) (hst : st0 = As.reverse ++ rest) (hW : (rest.map fun v => v.category).sum ≤ 8) (hdg : decode cc pc = .ok (.invokestatic index, 3)) (hf : cells + mc ≤ R.cells ∧ slots + ms ≤ R.slots)
    (kk : ∀ (u : β) (H1 : Heap) (locs1 : List Loc), H.size ≤ H1.size → va_P D vwCl (wr ++ W1 u) H1 → va_D A (wr ++ W1 u) → va_S A s.heap H1 locs1 → C1 u → W p l e R s m args below meth c H1 locs1 (cells + mc) (slots + ms) Q (F0 m (pc + 3) ls (.int 1 :: rest))) : W p l e R s m args below meth c H locs cells slots Q (F0 m pc ls st0) := by
  have hfr := va_free (wc := wc) hD hS hA isC hC
  have hPc := hP.sub isC hCf
  have hKc := hK.sub isT hT
  have hDc := (hD.sub isC hCn' hC).weaken (B := fun _ => True) (fun _ _ _ _ => trivial)
  have hXc := (hX.kept hS.2.1).narrow hfr
  refine va_calli (va_runS (As := As) (rest := rest) (g := F0 m pc ls st0) S (hM H.size) cw ⟨wk_blE, fun U hU hW => ⟨rfl, by rw [hU], by rw [hU]; exact hPc, va_K.moved hW.alike hKc, hN.warm hW, hDc, by rw [hU]; exact hXc.warm hW⟩⟩ rfl hn hsize hst (lv_room hW) hdg hf) hS (fun q _ h => hfr q h) hfr (fun r u t H1 locs1 ht _ hw hB hz hk hS1 => ?_)
  subst hw
  obtain ⟨hP1, hD1, hC1⟩ := hB
  rw [ht] at hP1
  obtain ⟨g1, g2⟩ := va_join hP hD isC isR hC hR hnR hdis hk hfr hP1 hD1
  exact kk u H1 locs1 hz g1 g2 hS1 hC1
end EK
/-! The script's cell, by a method of the law. -/
def clL (L : Nat) (xs : Nat → Int32) (k : Nat) : Int32 := if k < L then xs k else nI 40503 * nI (k + 3)
def SCi (l : Launch) (y : MethodName) (ws : List Cond) (rm : Room) (bb L : Nat) (xs : Nat → Int32) (k : Nat) (ans : Int32) : Prop :=
  ∀ sz : Nat, Met l y ws rm (va_Pc [.ref bb, .int (nI k)] (fun U => U.heap.size = sz ∧ va_X bb L xs U U.heap ∧ bb < U.heap.size)) (va_Qi (fun (r : Int32) (_ : Unit) => r = ans) (fun _ _ => True) (va_A [] sz)) 0 0 (va_A [] sz)
