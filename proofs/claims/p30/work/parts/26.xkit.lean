/-! Methods that throw: the environment of a throw, the contract's form, its start, the throw, the call. -/
def cISE : String := "java/lang/IllegalStateException"
def cIAE : String := "java/lang/IllegalArgumentException"
def cIOE : String := "java/lang/IndexOutOfBoundsException"
abbrev xNm : List String := ["java/lang/RuntimeException", "java/lang/Exception"]
def XW : List Cond := [.declares (Bundle.initS "java/lang/RuntimeException"), .declares (Bundle.initS "java/lang/Exception"), .declares (Bundle.initS Bundle.tN), .castable "java/lang/IllegalStateException" "java/lang/IllegalStateException", .castable "java/lang/IllegalArgumentException" "java/lang/IllegalArgumentException", .castable "java/lang/IndexOutOfBoundsException" "java/lang/IndexOutOfBoundsException"]
def XS : List (Nat × String) := [(69, "no place to insert at"), (100, "no such place, or no next one"), (146, "no such value of an element"), (158, "no element with this rank"), (164, "no such value of the whole"), (242, "the row is full"), (244, "no such place"), (249, "no such bound")]
def XEN (A : Nat → Prop) (U : State) (H : Heap) : Prop :=
  vx_Zq Bundle.tN "UNASSIGNED_STACK" Bundle.steD A U H ∧ vx_Zq Bundle.tN "SUPPRESSED_SENTINEL" Bundle.listD A U H ∧ (∀ w ∈ XW, va_Nw w U) ∧ (∀ q ∈ XS, ∃ sa, vk_R RX6 q.1 q.2 sa U) ∧
  va_Nc "java/lang/IllegalStateException" "java/lang/IllegalArgumentException" U ∧ va_Nc "java/lang/IllegalArgumentException" "java/lang/IndexOutOfBoundsException" U
theorem XEN.warm {A : Nat → Prop} {s U : State} {H : Heap} (hW : s.WarmedH U.vm) (h : XEN A s H) : XEN A U H := by
  refine ⟨vx_Zq.moved hW.alike h.1, vx_Zq.moved hW.alike h.2.1, fun w hw => ?_, fun q hq => ?_, va_Nc.moved hW.alike h.2.2.2.2.1, va_Nc.moved hW.alike h.2.2.2.2.2⟩
  · have k := h.2.2.1 w hw
    simp only [XW, List.mem_cons, List.not_mem_nil, or_false] at hw
    rcases hw with rfl | rfl | rfl | rfl | rfl | rfl <;> first | exact va_Nw.warmD hW k | exact va_Nw.warmC hW k
  · obtain ⟨sa, k⟩ := h.2.2.2.1 q hq
    exact ⟨sa, k.warm hW⟩
theorem XEN.same {A : Nat → Prop} {u U : State} {H : Heap} (e : u.vm = U.vm) (h : XEN A u H) : XEN A U H := by
  have ha : u.vm.Alike U.vm := by rw [e]; exact Vm.Alike.refl U.vm
  refine ⟨vx_Zq.moved ha h.1, vx_Zq.moved ha h.2.1, fun w hw => ?_, fun q hq => ?_, va_Nc.moved ha h.2.2.2.2.1, va_Nc.moved ha h.2.2.2.2.2⟩
  · have k := h.2.2.1 w hw
    simp only [XW, List.mem_cons, List.not_mem_nil, or_false] at hw
    rcases hw with rfl | rfl | rfl | rfl | rfl | rfl <;> exact va_Nw.same rfl e k
  · obtain ⟨sa, k⟩ := h.2.2.2.1 q hq
    exact ⟨sa, k.same e.symm⟩
theorem XEN.kept {A : Nat → Prop} {U : State} {H H1 : Heap} (h : XEN A U H) (hq : ∀ a : Nat, a < H.size → ¬ A a → H1[a]? = H[a]?) : XEN A U H1 := ⟨h.1.kept hq, h.2.1.kept hq, h.2.2⟩
theorem XEN.narrow {A B : Nat → Prop} {U : State} {H : Heap} (h : XEN A U H) (hAB : ∀ q, B q → A q) : XEN B U H := ⟨h.1.narrow hAB, h.2.1.narrow hAB, h.2.2⟩
def XM (l : Launch) (y : MethodName) (ws : List Cond) (rm : Room) (As : List Value) (D : va_G) (wc : va_W) (tys : List (ClassId × FieldType)) (E : String) : Prop :=
  ∀ sz : Nat, vx_Met l y ws rm (va_Pc As (fun U => U.heap.size = sz ∧ va_P D vwCl wc U.heap ∧ va_K D vwCl tys U ∧ NWs U ∧ XEN (va_A [] sz) U U.heap)) (va_Qi (fun (_ : Int32) (_ : Unit) => False) (fun _ _ => True) (va_A [] sz)) (vx_X (fun (_ : Unit) => True) (fun E' _ _ => E' = E) (va_A [] sz)) 1 6 (va_A [] sz)
def ZX (below : List Frame) (args : Array Value) (s : State) (E : String) : State → Prop := vx_MQ below (va_Qi (fun (_ : Int32) (_ : Unit) => False) (fun _ _ => True) (va_A [] s.heap.size)) (vx_X (fun (_ : Unit) => True) (fun E' _ _ => E' = E) (va_A [] s.heap.size)) args s 1 6 (va_A [] s.heap.size)
theorem XM_of {l : Launch} {y : MethodName} {ws ws' : List Cond} {rm : Room} {As : List Value} {D : va_G} {wc : va_W} {tys : List (ClassId × FieldType)} {cc : ByteArray} {maxL : Nat} {ret : Option FieldType} {E : String} (hy : plainName y.cls = true) (hw : ws = Cond.code y cc maxL ret :: ws') (hlen : (lg_sl As).length ≤ maxL)
    (body : ∀ (p : Program) (e : Env) (s : State) (m : MethodId) (args : Array Value) (below : List Frame) (meth : Method) (c : Code), p.tables.exec = Jvm.exec → c.code = cc → meth.sig.returnType = ret → (∀ w ∈ ws, w.before args s = true) → s.vm.findClass y.cls = some m.cls → meth.locks = false → c.maxLocals = maxL → (∀ x ∈ c.exceptionTable.toList, False) → va_P D vwCl wc s.heap → va_K D vwCl tys s → NWs s → XEN (va_A [] s.heap.size) s s.heap → ∀ ls : Array Slot, lv_has ls maxL (lv_args 0 As) → W p l e rm s m args below meth c s.heap [] 0 0 (ZX below args s E) (F0 m 0 ls [])) : XM l y ws rm As D wc tys E := by
  intro sz
  refine vx_ofW (cc := cc) (maxL := maxL) (ret := ret) hy hw ?_
  intro p e s m args below meth c s₁ B hml hno hv
  obtain ⟨rfl, hsz, hP, hK, hN, hX⟩ := hv
  subst hsz
  rw [lg_entry_eq]
  exact body p e s m As.toArray below meth c B.exec B.bytes B.returns (atoms_spec (ws := ws) B.pre) (findClass_of_methodNamed B.named) B.notSynchronized hml hno hP hK hN hX _ (lv_entry As hlen)
section XK
variable {p : Program} {l : Launch} {e : Env} {R : Room} {s : State} {m : MethodId} {args : Array Value} {below : List Frame} {meth : Method} {c : Code} {H : Heap} {locs : List Loc} {cells slots : Nat} {Q : State → Prop}
variable {cc : ByteArray} {pc : Nat} {ls : Array Slot} {rest st0 : List Value} {D : va_G} {cl : List vw_C} {A : Nat → Prop} {a : Nat} {tys : List (ClassId × FieldType)} {ws : va_W}
theorem wv_throw {cls text : String} {ik is ic : Nat} {E : String} (hlst : l.stackTraces = false) (hexec : p.tables.exec = Jvm.exec) (hb : c.code = cc) (hown : s.vm.findClass RX6 = some m.cls) (hlocks : meth.locks = false) (hno : ∀ x ∈ c.exceptionTable.toList, False) (hX : XEN (va_A [] s.heap.size) s s.heap) (hS : va_S (va_A [] s.heap.size) s.heap H locs) (hE : E = cls)
    (hcls : Bundle.fit cls = true) (hk : (Cond.classLink RX6 ik cls).before args s = true) (hini : (Cond.initialized cls).before args s = true) (hstr : (is, text) ∈ XS) (hat1 : ∀ w ∈ (vx_atS RX6 ic cls xNm).filter goodWord, w.before args s = true)
    (hat2 : ∀ w ∈ (vx_atS RX6 ic cls xNm).filter (fun w => !goodWord w), w ∈ XW) (hgood : ∀ w ∈ Cond.classLink RX6 ik cls :: Cond.initialized cls :: vx_atS RX6 ic cls xNm, vx_ot w = true) (hsize : ls.size = c.maxLocals)
    (d0 : decode cc pc = .ok (.new ik, 3)) (d3 : decode cc (pc + 3) = .ok (.dup, 1)) (d4 : decode cc (pc + 4) = .ok (.ldc is, 2)) (d6 : decode cc (pc + 6) = .ok (.invokespecial ic, 3)) (d9 : decode cc (pc + 9) = .ok (.athrow, 1))
    (hRf : 5 < R.frames) (hRl : (rest.map fun v => v.category).sum + 82 ≤ R.locals) (hRc : 1 ≤ R.cells) (hRs : 6 ≤ R.slots) : W p l e R s m args below meth c H locs 0 0 (ZX below args s E) (F0 m pc ls rest) := by
  subst hE
  obtain ⟨sa, hsa⟩ := hX.2.2.2.1 _ hstr
  exact vx_throwS (A := va_A [] s.heap.size) (names := xNm) hexec hb hlst hown hcls (by decide +kernel) hk hini hsa (vx_hat hat1 hat2 (fun w hw => by
      have k := hX.2.2.1 w hw
      simp only [XW, List.mem_cons, List.not_mem_nil, or_false] at hw
      rcases hw with rfl | rfl | rfl | rfl | rfl | rfl <;> exact va_Nw.use rfl k)) hgood hX.1 hX.2.1 hS hsize d0 d3 d4 d6 d9 (fun x hx => (hno x hx).elim) hRf hRl (by omega) (by omega) hlocks
    (fun t hvm hz hq => ⟨(), trivial, rfl, Nat.le_trans hS.1 hz, fun q h1 h2 => (hq q (Nat.lt_of_lt_of_le h1 hS.1)).trans (hS.2.1 q h1 h2)⟩) hS.2.2 (by omega) (by omega)
theorem wk_blX {As : List Value} {wc : va_W} {tc : List (ClassId × FieldType)} {sz : Nat} : FrameBlind (va_Pc As (fun U => U.heap.size = sz ∧ va_P D cl wc U.heap ∧ va_K D cl tc U ∧ NWs U ∧ XEN (va_A [] sz) U U.heap)) :=
  fun a U g mk q => by obtain ⟨q0, q1, qP, qK, qN, qE⟩ := q; exact ⟨q0, q1, qP, va_K.moved (u := U) (U := U.calling g mk a) (Vm.Alike.refl U.vm) qK, qN.same (u := U) (U := U.calling g mk a) rfl, XEN.same (u := U) (U := U.calling g mk a) rfl qE⟩
theorem wk_preX {C : String} {b : Nat} {As : List Value} {wc : va_W} {tc : List (ClassId × FieldType)} (hrv : ∃ cell : Cell, H[b]? = some cell ∧ cell.vm.isStatics = false ∧ s.vm.findClass C = some cell.cls) (hPc : va_P D cl wc H) (hKc : va_K D cl tc s) (hN : NWs s) (hX : XEN (va_A [] H.size) s H) : PreV s H C b (va_Pc (.ref b :: As) (fun U => U.heap.size = H.size ∧ va_P D cl wc U.heap ∧ va_K D cl tc U ∧ NWs U ∧ XEN (va_A [] H.size) U U.heap)) As :=
  ⟨wk_blX, hrv, fun U hU hW => ⟨rfl, by rw [hU], by rw [hU]; exact hPc, va_K.moved hW.alike hKc, hN.warm hW, by rw [hU]; exact hX.warm hW⟩⟩
/-- a call that throws -/
theorem wv_callX {y : MethodName} {bytes : ByteArray} {maxL nL n index : Nat} {ret : Option FieldType} {wy : List Cond} {rm : Room} {Ts : List Cond} {own C : String} {b : Nat} {As : List Value} {wc : va_W} {tc : List (ClassId × FieldType)} {E : String} (S : CallFix p m c cc nL s args Ts own) (hM : XM l y wy rm (.ref b :: As) D wc tc E) (cw : CallW R s args own C index y bytes maxL ret wy rm 1 6 n)
    (hK : va_K D vwCl tys s) (hN : NWs s) (hX : XEN A s s.heap) (hP : va_P D vwCl ws H) (hS : va_S A s.heap H locs) (hA : ∀ q, s.heap.size ≤ q → A q) (isC isT : List Nat) (hC : isC.filterMap (fun i => ws[i]?) = wc) (hT : isT.filterMap (fun i => tys[i]?) = tc) (hrv : ∃ cell : Cell, H[b]? = some cell ∧ cell.vm.isStatics = false ∧ s.vm.findClass C = some cell.cls)
    (hn : As.length = n) (hsize : ls.size = nL) (hst : st0 = As.reverse ++ .ref b :: rest) (hW : (rest.map fun v => v.category).sum ≤ 8) (hdg : decode cc pc = .ok (.invokevirtual index, 3)) (hf : cells + 1 ≤ R.cells ∧ slots + 6 ≤ R.slots)
    (kx : ∀ (ce : Cell) (q9 : Addr) (H1 : Heap) (locs1 : List Loc), H.size ≤ H1.size → va_P D vwCl ws H1 → va_S A s.heap H1 locs1 → H1[q9]? = some ce → ce.vm = .none → s.vm.findClass E = some ce.cls → vx_W p l e R s m args below meth c H1 locs1 (cells + 1) (slots + 6) Q (F0 m pc ls rest) q9) : W p l e R s m args below meth c H locs cells slots Q (F0 m pc ls st0) := by
  have hfr : ∀ q, va_A [] H.size q → A q := fun q h => hA q (Nat.le_trans hS.1 (wk_ne h))
  refine vx_calli (vx_runV (As := As) (rest := rest) (g := F0 m pc ls st0) S (hM H.size) cw (wk_preX hrv (hP.sub isC hC) (hK.sub isT hT) hN ((hX.kept hS.2.1).narrow hfr)) rfl hn hsize hst (lv_room hW) hdg hf) hS (fun q _ h => hfr q h) hfr (fun q _ h => hfr q h) (fun E9 ce q9 u t H1 locs1 ht _ _ hB hz hk hS1 hce hcv hcl => ?_) (fun r u t H1 locs1 _ _ hp => hp.elim)
  subst hB
  exact kx ce q9 H1 locs1 hz (wk_keep hP hk) hS1 hce hcv hcl
/-- not caught: the method throws it on -/
theorem wv_outX {E : String} {ce : Cell} {q9 : Addr} (hno : ∀ x ∈ c.exceptionTable.toList, False) (hlocks : meth.locks = false) (hS : va_S (va_A [] s.heap.size) s.heap H locs) (hce : H[q9]? = some ce) (hcv : ce.vm = .none) (hcl : s.vm.findClass E = some ce.cls) : vx_W p l e R s m args below meth c H locs 1 6 (ZX below args s E) (F0 m pc ls rest) q9 :=
  vx_out (fun x hx => (hno x hx).elim) hlocks hce hcv hcl (fun t ht _ => ⟨(), trivial, rfl, hS.F ht⟩) hS.2.2 (Nat.le_refl _) (Nat.le_refl _)
end XK
