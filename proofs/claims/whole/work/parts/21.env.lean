/-! What the class reads and nobody writes: its words (an enum), their letters, the table of a switch; contracts that need it. -/
abbrev EA : Type := (Nat → Nat) × (Nat → Nat) × (Nat → Nat) × Nat × Nat
def eW (e : EA) : Nat → Nat := e.1
def eK (e : EA) : Nat → Nat := e.2.1
def eV (e : EA) : Nat → Nat := e.2.2.1
def eA (e : EA) : Nat := e.2.2.2.1
def eS (e : EA) : Nat := e.2.2.2.2
def wlen : List Nat := [3, 3, 3, 3, 4, 5, 4]
def wbyt : List (List Int32) := [[97, 100, 100], [112, 117, 116], [100, 101, 108], [115, 101, 116], [115, 119, 97, 112], [98, 111, 117, 110, 100], [109, 101, 110, 100]]
def wchs : List (List Nat) := [[97, 100, 100], [112, 117, 116], [100, 101, 108], [115, 101, 116], [115, 119, 97, 112], [98, 111, 117, 110, 100], [109, 101, 110, 100]]
def wln (i : Nat) : Nat := wlen.getD i 0
def wcc (i k : Nat) : Nat := (wchs.getD i []).getD k 0
def wnu (i : Nat) : Bool := decide (1 ≤ i) && decide (i ≤ 5)
def wva (i : Nat) : Bool := decide (i ≤ 1) || decide (i = 3)
def swm (i : Nat) : Nat := if i = 6 then 0 else i + 1
theorem wcc_ok : ∀ i, i < 7 → ∀ k, k < wln i → ((wbyt.getD i []).getD k 0 = nI (wcc i k) ∧ wcc i k < 128 ∧ 97 ≤ wcc i k ∧ wcc i k ≤ 122) := by decide +kernel
theorem wln_ok : ∀ i, i < 7 → (3 ≤ wln i ∧ wln i ≤ 5 ∧ wlen.getD i 0 = wln i) := by decide +kernel
def EN1 (e : EA) (A : Nat → Prop) (U : State) (H : Heap) : Prop :=
  va_Z "NearRanks$Word" "ALL" "[LNearRanks$Word;" (.ref (eA e)) A U H ∧ va_T (.object "NearRanks$Word") (eA e) 7 (fun j => .ref (eW e j)) A U H
def EN2 (e : EA) (A : Nat → Prop) (U : State) (H : Heap) : Prop :=
  va_Z "NearRanks$1" "$SwitchMap$NearRanks$Word" "[I" (.ref (eS e)) A U H ∧ va_T .int (eS e) 7 (fun j => .int (nI (swm j))) A U H
def EN3 (e : EA) (A : Nat → Prop) (U : State) (H : Heap) : Prop :=
  (∀ i, i < 7 → va_O "NearRanks$Word" (eW e i) A U H) ∧ va_Ef 7 "java/lang/Enum" "ordinal" "I" (fun i => .int (nI i)) (eW e) A U H ∧ va_Ef 7 "NearRanks$Word" "letters" "Ljava/lang/String;" (fun i => .ref (eK e i)) (eW e) A U H ∧ va_Ef 7 "NearRanks$Word" "hasNumber" "Z" (fun i => .int (bI (wnu i))) (eW e) A U H ∧ va_Ef 7 "NearRanks$Word" "hasValue" "Z" (fun i => .int (bI (wva i))) (eW e) A U H
def EN4 (e : EA) (A : Nat → Prop) (U : State) (H : Heap) : Prop :=
  vk_S 7 wlen wbyt (eK e) (eV e) A U H ∧ va_Z "java/lang/String" "COMPACT_STRINGS" "Z" (.int 1) A U H ∧ va_Zq "jdk/internal/util/Preconditions" "SIOOBE_FORMATTER" "Ljava/util/function/BiFunction;" A U H
def ENV (e : EA) (A : Nat → Prop) (U : State) (H : Heap) : Prop := EN1 e A U H ∧ EN2 e A U H ∧ EN3 e A U H ∧ EN4 e A U H
theorem ENV.all {e : EA} {A : Nat → Prop} {U : State} {H : Heap} (h : ENV e A U H) : EN1 e A U H := h.1
theorem ENV.sw {e : EA} {A : Nat → Prop} {U : State} {H : Heap} (h : ENV e A U H) : EN2 e A U H := h.2.1
theorem ENV.wd {e : EA} {A : Nat → Prop} {U : State} {H : Heap} (h : ENV e A U H) : EN3 e A U H := h.2.2.1
theorem ENV.st {e : EA} {A : Nat → Prop} {U : State} {H : Heap} (h : ENV e A U H) : EN4 e A U H := h.2.2.2
theorem ENV.moved {e : EA} {A : Nat → Prop} {u U : State} {H : Heap} (hvm : u.vm.Alike U.vm) (h : ENV e A u H) : ENV e A U H :=
  ⟨⟨va_Z.moved hvm h.all.1, va_T.moved hvm h.all.2⟩, ⟨va_Z.moved hvm h.sw.1, va_T.moved hvm h.sw.2⟩,
   ⟨fun i hi => va_O.moved hvm (h.wd.1 i hi), va_Ef.moved hvm h.wd.2.1, va_Ef.moved hvm h.wd.2.2.1, va_Ef.moved hvm h.wd.2.2.2.1, va_Ef.moved hvm h.wd.2.2.2.2⟩,
   ⟨vk_S.moved hvm h.st.1, va_Z.moved hvm h.st.2.1, va_Zq.moved hvm h.st.2.2⟩⟩
theorem ENV.kept {e : EA} {A : Nat → Prop} {U : State} {H H1 : Heap} (h : ENV e A U H) (hq : ∀ a : Nat, a < H.size → ¬ A a → H1[a]? = H[a]?) : ENV e A U H1 :=
  ⟨⟨h.all.1.kept hq, h.all.2.kept hq⟩, ⟨h.sw.1.kept hq, h.sw.2.kept hq⟩,
   ⟨fun i hi => (h.wd.1 i hi).kept hq, h.wd.2.1.kept hq, h.wd.2.2.1.kept hq, h.wd.2.2.2.1.kept hq, h.wd.2.2.2.2.kept hq⟩,
   ⟨h.st.1.kept hq, h.st.2.1.kept hq, h.st.2.2.kept hq⟩⟩
theorem ENV.narrow {e : EA} {A B : Nat → Prop} {U : State} {H : Heap} (h : ENV e A U H) (hAB : ∀ q, B q → A q) : ENV e B U H :=
  ⟨⟨h.all.1.narrow hAB, h.all.2.narrow hAB⟩, ⟨h.sw.1.narrow hAB, h.sw.2.narrow hAB⟩,
   ⟨fun i hi => (h.wd.1 i hi).narrow hAB, h.wd.2.1.narrow hAB, h.wd.2.2.1.narrow hAB, h.wd.2.2.2.1.narrow hAB, h.wd.2.2.2.2.narrow hAB⟩,
   ⟨h.st.1.narrow hAB, h.st.2.1.narrow hAB, h.st.2.2.narrow hAB⟩⟩
-- the forms
def PEi (l : Launch) (y : MethodName) (ws : List Cond) (rm : Room) (As : List Value) (D : va_G) (wc : va_W) (tys : List (ClassId × FieldType)) (ea : EA) (ans : Int32) : Prop :=
  ∀ sz : Nat, Met l y ws rm (va_Pc As (fun U => U.heap.size = sz ∧ va_P D vwCl wc U.heap ∧ va_K D vwCl tys U ∧ NWs U ∧ ENV ea (va_A [] sz) U U.heap)) (va_Qi (fun (r : Int32) (_ : Unit) => r = ans) (fun _ _ => True) (va_A [] sz)) 0 0 (va_A [] sz)
def PEv (l : Launch) (y : MethodName) (ws : List Cond) (rm : Room) (As : List Value) (D : va_G) (wc : va_W) (tys : List (ClassId × FieldType)) (ea : EA) : Prop :=
  ∀ sz : Nat, Met l y ws rm (va_Pc As (fun U => U.heap.size = sz ∧ va_P D vwCl wc U.heap ∧ va_K D vwCl tys U ∧ NWs U ∧ ENV ea (va_A [] sz) U U.heap)) (va_Qv (fun (_ : Unit) => True) (fun _ _ => True) (va_A [] sz)) 0 0 (va_A [] sz)
def PEr (l : Launch) (y : MethodName) (ws : List Cond) (rm : Room) (As : List Value) (D : va_G) (wc : va_W) (tys : List (ClassId × FieldType)) (ea : EA) (ans : Option Nat) : Prop :=
  ∀ sz : Nat, Met l y ws rm (va_Pc As (fun U => U.heap.size = sz ∧ va_P D vwCl wc U.heap ∧ va_K D vwCl tys U ∧ NWs U ∧ ENV ea (va_A [] sz) U U.heap)) (va_Qq (fun (r : Option Nat) (_ : Unit) => r = ans) (fun _ _ => True) (va_A [] sz)) 0 0 (va_A [] sz)
def MEi (l : Launch) (y : MethodName) (ws : List Cond) (rm : Room) (As : List Value) (D : va_G) (wc : va_W) (tys : List (ClassId × FieldType)) (ea : EA) (ans : Int32) (w1 : va_W) : Prop :=
  ∀ sz : Nat, Met l y ws rm (va_Pc As (fun U => U.heap.size = sz ∧ va_P D vwCl wc U.heap ∧ va_K D vwCl tys U ∧ NWs U ∧ va_D (fun _ => True) wc ∧ ENV ea (va_A wc sz) U U.heap)) (va_Qi (fun (r : Int32) (_ : Unit) => r = ans) (fun _ t => va_P D vwCl w1 t.heap ∧ va_D (va_A wc sz) w1) (va_A wc sz)) 0 0 (va_A wc sz)
def ZPr (below : List Frame) (args : Array Value) (s : State) (ans : Option Nat) : State → Prop := MQ below (va_Qq (fun (r : Option Nat) (_ : Unit) => r = ans) (fun _ _ => True) (va_A [] s.heap.size)) args s 0 0 (va_A [] s.heap.size)
section EKS
variable {l : Launch} {y : MethodName} {ws ws' : List Cond} {rm : Room} {As : List Value} {D : va_G} {wc : va_W} {tys : List (ClassId × FieldType)} {ea : EA} {cc : ByteArray} {maxL : Nat} {ret : Option FieldType}
theorem PEi_of {ans : Int32} (hy : plainName y.cls = true) (hw : ws = Cond.code y cc maxL ret :: ws') (hlen : (lg_sl As).length ≤ maxL)
    (body : ∀ (p : Program) (e : Env) (s : State) (m : MethodId) (args : Array Value) (below : List Frame) (meth : Method) (c : Code), p.tables.exec = Jvm.exec → c.code = cc → meth.sig.returnType = ret → (∀ w ∈ ws, w.before args s = true) → s.vm.findClass y.cls = some m.cls → meth.locks = false → c.maxLocals = maxL → va_P D vwCl wc s.heap → va_K D vwCl tys s → NWs s → ENV ea (va_A [] s.heap.size) s s.heap → ∀ ls : Array Slot, lv_has ls maxL (lv_args 0 As) → W p l e rm s m args below meth c s.heap [] 0 0 (ZPi below args s ans) (F0 m 0 ls [])) : PEi l y ws rm As D wc tys ea ans := by
  intro sz
  refine Met.ofW (cc := cc) (maxL := maxL) (ret := ret) hy hw ?_
  intro p e s m args below meth c s₁ B hml hv
  obtain ⟨rfl, hsz, hP, hK, hN, hE⟩ := hv
  subst hsz
  rw [lg_entry_eq]
  exact body p e s m As.toArray below meth c B.exec B.bytes B.returns (atoms_spec (ws := ws) B.pre) (findClass_of_methodNamed B.named) B.notSynchronized hml hP hK hN hE _ (lv_entry As hlen)
theorem PEv_of (hy : plainName y.cls = true) (hw : ws = Cond.code y cc maxL ret :: ws') (hlen : (lg_sl As).length ≤ maxL)
    (body : ∀ (p : Program) (e : Env) (s : State) (m : MethodId) (args : Array Value) (below : List Frame) (meth : Method) (c : Code), p.tables.exec = Jvm.exec → c.code = cc → meth.sig.returnType = ret → (∀ w ∈ ws, w.before args s = true) → s.vm.findClass y.cls = some m.cls → meth.locks = false → c.maxLocals = maxL → va_P D vwCl wc s.heap → va_K D vwCl tys s → NWs s → ENV ea (va_A [] s.heap.size) s s.heap → ∀ ls : Array Slot, lv_has ls maxL (lv_args 0 As) → W p l e rm s m args below meth c s.heap [] 0 0 (ZPv below args s) (F0 m 0 ls [])) : PEv l y ws rm As D wc tys ea := by
  intro sz
  refine Met.ofW (cc := cc) (maxL := maxL) (ret := ret) hy hw ?_
  intro p e s m args below meth c s₁ B hml hv
  obtain ⟨rfl, hsz, hP, hK, hN, hE⟩ := hv
  subst hsz
  rw [lg_entry_eq]
  exact body p e s m As.toArray below meth c B.exec B.bytes B.returns (atoms_spec (ws := ws) B.pre) (findClass_of_methodNamed B.named) B.notSynchronized hml hP hK hN hE _ (lv_entry As hlen)
theorem PEr_of {ans : Option Nat} (hy : plainName y.cls = true) (hw : ws = Cond.code y cc maxL ret :: ws') (hlen : (lg_sl As).length ≤ maxL)
    (body : ∀ (p : Program) (e : Env) (s : State) (m : MethodId) (args : Array Value) (below : List Frame) (meth : Method) (c : Code), p.tables.exec = Jvm.exec → c.code = cc → meth.sig.returnType = ret → (∀ w ∈ ws, w.before args s = true) → s.vm.findClass y.cls = some m.cls → meth.locks = false → c.maxLocals = maxL → va_P D vwCl wc s.heap → va_K D vwCl tys s → NWs s → ENV ea (va_A [] s.heap.size) s s.heap → ∀ ls : Array Slot, lv_has ls maxL (lv_args 0 As) → W p l e rm s m args below meth c s.heap [] 0 0 (ZPr below args s ans) (F0 m 0 ls [])) : PEr l y ws rm As D wc tys ea ans := by
  intro sz
  refine Met.ofW (cc := cc) (maxL := maxL) (ret := ret) hy hw ?_
  intro p e s m args below meth c s₁ B hml hv
  obtain ⟨rfl, hsz, hP, hK, hN, hE⟩ := hv
  subst hsz
  rw [lg_entry_eq]
  exact body p e s m As.toArray below meth c B.exec B.bytes B.returns (atoms_spec (ws := ws) B.pre) (findClass_of_methodNamed B.named) B.notSynchronized hml hP hK hN hE _ (lv_entry As hlen)
theorem MEi_of {ans : Int32} {w1 : va_W} (hy : plainName y.cls = true) (hw : ws = Cond.code y cc maxL ret :: ws') (hlen : (lg_sl As).length ≤ maxL)
    (body : ∀ (p : Program) (e : Env) (s : State) (m : MethodId) (args : Array Value) (below : List Frame) (meth : Method) (c : Code), p.tables.exec = Jvm.exec → c.code = cc → meth.sig.returnType = ret → (∀ w ∈ ws, w.before args s = true) → s.vm.findClass y.cls = some m.cls → meth.locks = false → c.maxLocals = maxL → va_P D vwCl wc s.heap → va_K D vwCl tys s → NWs s → va_D (va_A wc s.heap.size) wc → ENV ea (va_A wc s.heap.size) s s.heap → ∀ ls : Array Slot, lv_has ls maxL (lv_args 0 As) → W p l e rm s m args below meth c s.heap [] 0 0 (ZMi below args s D wc ans w1) (F0 m 0 ls [])) : MEi l y ws rm As D wc tys ea ans w1 := by
  intro sz
  refine Met.ofW (cc := cc) (maxL := maxL) (ret := ret) hy hw ?_
  intro p e s m args below meth c s₁ B hml hv
  obtain ⟨rfl, hsz, hP, hK, hN, hD, hE⟩ := hv
  subst hsz
  rw [lg_entry_eq]
  exact body p e s m As.toArray below meth c B.exec B.bytes B.returns (atoms_spec (ws := ws) B.pre) (findClass_of_methodNamed B.named) B.notSynchronized hml hP hK hN hD.self hE _ (lv_entry As hlen)
end EKS
section EK
variable {p : Program} {l : Launch} {e : Env} {R : Room} {s : State} {m : MethodId} {args : Array Value} {below : List Frame} {meth : Method} {c : Code} {H : Heap} {locs : List Loc} {cells slots : Nat} {Q : State → Prop}
variable {cc : ByteArray} {pc : Nat} {ls : Array Slot} {rest st0 : List Value} {D : va_G} {cl : List vw_C} {A : Nat → Prop} {a : Nat} {tys : List (ClassId × FieldType)} {ws : va_W} {ea : EA}
/-- a constant object's field, named by a nest mate -/
theorem wv_getXN (hexec : p.tables.exec = Jvm.exec) (hb : c.code = cc) {o n d own ref host : String} {N : Nat} {v : Nat → Value} {ad : Nat → Nat} {index i : Nat} (hE : va_Ef N o n d v ad A s s.heap) (hi : i < N) (hS : va_S A s.heap H locs) (hown : s.vm.findClass own = some m.cls) (hlink : (Cond.fieldLinkNest own index ref n d host).before args s = true) (hsame : ∀ x, s.fieldFound? o n d = some x → s.fieldFound? ref n d = some x) (hdg : decode cc pc = .ok (.getfield index, 3))
    (kk : W p l e R s m args below meth c H locs cells slots Q (F0 m (pc + 3) ls (v i :: rest))) : W p l e R s m args below meth c H locs cells slots Q (F0 m pc ls (.ref (ad i) :: rest)) := by
  obtain ⟨cf, k, fi, f, cell, h1, h2, h3, h4, h5, h6⟩ := (hE i hi).kept hS.2.1
  exact va_Wgetf hexec hb hown hlink (hsame _ h1) h2 h3 h4 h5 rfl rfl hdg kk
theorem wv_rretP {ans o : Option Nat} {v : Value} {rt : FieldType} (hexec : p.tables.exec = Jvm.exec) (hb : c.code = cc) (hr : meth.sig.returnType = some rt) (hrt : (∃ n, rt = .object n) ∨ ∃ t, rt = .array t) (hlocks : meth.locks = false) (hS : va_S (va_A [] s.heap.size) s.heap H locs) (hv : v = va_rf o) (hans : o = ans) (hdg : decode cc pc = .ok (.areturn, 1)) : W p l e R s m args below meth c H locs 0 0 (ZPr below args s ans) (F0 m pc ls [v]) :=
  W.aret hexec hb hr hrt (by rw [hv]; exact va_rf_or o) (fun t ht _ => ⟨⟨o, (), by rw [hv], hans, trivial⟩, hS.F ht⟩) hS.2.2 hdg hlocks
theorem wv_nretP {ans v : Int32} {ty : FieldType} (hexec : p.tables.exec = Jvm.exec) (hb : c.code = cc) (hr : meth.sig.returnType = some ty) (hn : narrow ty (.int v) = .int v) (hlocks : meth.locks = false) (hS : va_S (va_A [] s.heap.size) s.heap H locs) (hans : v = ans) (hdg : decode cc pc = .ok (.ireturn, 1)) : W p l e R s m args below meth c H locs 0 0 (ZPi below args s ans) (F0 m pc ls [.int v]) :=
  W.zret hexec hb hr hn (fun t ht _ => ⟨⟨v, (), rfl, hans, trivial⟩, hS.F ht⟩) hS.2.2 hdg hlocks
theorem wk_blE {As : List Value} {wc : va_W} {tc : List (ClassId × FieldType)} {sz : Nat} : FrameBlind (va_Pc As (fun U => U.heap.size = sz ∧ va_P D cl wc U.heap ∧ va_K D cl tc U ∧ NWs U ∧ ENV ea (va_A [] sz) U U.heap)) :=
  fun a U g mk q => by obtain ⟨q0, q1, qP, qK, qN, qE⟩ := q; exact ⟨q0, q1, qP, va_K.moved (u := U) (U := U.calling g mk a) (Vm.Alike.refl U.vm) qK, qN.same (u := U) (U := U.calling g mk a) rfl, ENV.moved (u := U) (U := U.calling g mk a) (Vm.Alike.refl U.vm) qE⟩
theorem wk_blEM {As : List Value} {wc : va_W} {tc : List (ClassId × FieldType)} {sz : Nat} : FrameBlind (va_Pc As (fun U => U.heap.size = sz ∧ va_P D cl wc U.heap ∧ va_K D cl tc U ∧ NWs U ∧ va_D (fun _ => True) wc ∧ ENV ea (va_A wc sz) U U.heap)) :=
  fun a U g mk q => by obtain ⟨q0, q1, qP, qK, qN, qD, qE⟩ := q; exact ⟨q0, q1, qP, va_K.moved (u := U) (U := U.calling g mk a) (Vm.Alike.refl U.vm) qK, qN.same (u := U) (U := U.calling g mk a) rfl, qD, ENV.moved (u := U) (U := U.calling g mk a) (Vm.Alike.refl U.vm) qE⟩
/-- the environment at a call -/
theorem wk_envP (hE : ENV ea A s s.heap) (hS : va_S A s.heap H locs) (hA : ∀ q, s.heap.size ≤ q → A q) : ENV ea (va_A [] H.size) s H :=
  (hE.kept hS.2.1).narrow (fun q h => hA q (Nat.le_trans hS.1 (wk_ne h)))
theorem wk_preE {C : String} {b : Nat} {As : List Value} {wc : va_W} {tc : List (ClassId × FieldType)} (hrv : ∃ cell : Cell, H[b]? = some cell ∧ cell.vm.isStatics = false ∧ s.vm.findClass C = some cell.cls) (hPc : va_P D cl wc H) (hKc : va_K D cl tc s) (hN : NWs s) (hE : ENV ea (va_A [] H.size) s H) : PreV s H C b (va_Pc (.ref b :: As) (fun U => U.heap.size = H.size ∧ va_P D cl wc U.heap ∧ va_K D cl tc U ∧ NWs U ∧ ENV ea (va_A [] H.size) U U.heap)) As :=
  ⟨wk_blE, hrv, fun U hU hW => ⟨rfl, by rw [hU], by rw [hU]; exact hPc, va_K.moved hW.alike hKc, hN.warm hW, by rw [hU]; exact hE.moved hW.alike⟩⟩
theorem wk_preEM {C : String} {b : Nat} {As : List Value} {wc : va_W} {tc : List (ClassId × FieldType)} (hrv : ∃ cell : Cell, H[b]? = some cell ∧ cell.vm.isStatics = false ∧ s.vm.findClass C = some cell.cls) (hPc : va_P D cl wc H) (hKc : va_K D cl tc s) (hN : NWs s) (hDc : va_D (fun _ => True) wc) (hE : ENV ea (va_A wc H.size) s H) : PreV s H C b (va_Pc (.ref b :: As) (fun U => U.heap.size = H.size ∧ va_P D cl wc U.heap ∧ va_K D cl tc U ∧ NWs U ∧ va_D (fun _ => True) wc ∧ ENV ea (va_A wc H.size) U U.heap)) As :=
  ⟨wk_blEM, hrv, fun U hU hW => ⟨rfl, by rw [hU], by rw [hU]; exact hPc, va_K.moved hW.alike hKc, hN.warm hW, hDc, by rw [hU]; exact hE.moved hW.alike⟩⟩
theorem wv_callPEi {y : MethodName} {bytes : ByteArray} {maxL nL n index : Nat} {ret : Option FieldType} {wy : List Cond} {rm : Room} {Ts : List Cond} {own C : String} {b : Nat} {As : List Value} {wc : va_W} {tc : List (ClassId × FieldType)} {ans : Int32} (S : CallFix p m c cc nL s args Ts own) (hM : PEi l y wy rm (.ref b :: As) D wc tc ea ans) (cw : CallW R s args own C index y bytes maxL ret wy rm 0 0 n)
    (hK : va_K D vwCl tys s) (hN : NWs s) (hE : ENV ea A s s.heap) (hP : va_P D vwCl ws H) (hS : va_S A s.heap H locs) (hA : ∀ q, s.heap.size ≤ q → A q) (isC isT : List Nat) (hC : isC.filterMap (fun i => ws[i]?) = wc) (hT : isT.filterMap (fun i => tys[i]?) = tc) (hrv : ∃ cell : Cell, H[b]? = some cell ∧ cell.vm.isStatics = false ∧ s.vm.findClass C = some cell.cls)
    (hn : As.length = n) (hsize : ls.size = nL) (hst : st0 = As.reverse ++ .ref b :: rest) (hW : (rest.map fun v => v.category).sum ≤ 8) (hdg : decode cc pc = .ok (.invokevirtual index, 3)) (hf : cells ≤ R.cells ∧ slots ≤ R.slots)
    (kk : ∀ (H1 : Heap) (locs1 : List Loc), H.size ≤ H1.size → va_P D vwCl ws H1 → va_S A s.heap H1 locs1 → W p l e R s m args below meth c H1 locs1 cells slots Q (F0 m (pc + 3) ls (.int ans :: rest))) : W p l e R s m args below meth c H locs cells slots Q (F0 m pc ls st0) := by
  have hfr : ∀ q, va_A [] H.size q → A q := fun q h => hA q (Nat.le_trans hS.1 (wk_ne h))
  refine va_calli (va_runV (As := As) (rest := rest) (g := F0 m pc ls st0) S (hM H.size) cw (wk_preE hrv (hP.sub isC hC) (hK.sub isT hT) hN (wk_envP hE hS hA)) rfl hn hsize hst (lv_room hW) hdg hf) hS (fun q _ h => hfr q h) hfr (fun r u t H1 locs1 _ _ hw _ hz hk hS1 => ?_)
  subst hw
  exact kk H1 locs1 hz (wk_keep hP hk) hS1
theorem wv_callPEr {y : MethodName} {bytes : ByteArray} {maxL nL n index : Nat} {ret : Option FieldType} {wy : List Cond} {rm : Room} {Ts : List Cond} {own C : String} {b : Nat} {As : List Value} {wc : va_W} {tc : List (ClassId × FieldType)} {ans : Option Nat} (S : CallFix p m c cc nL s args Ts own) (hM : PEr l y wy rm (.ref b :: As) D wc tc ea ans) (cw : CallW R s args own C index y bytes maxL ret wy rm 0 0 n)
    (hK : va_K D vwCl tys s) (hN : NWs s) (hE : ENV ea A s s.heap) (hP : va_P D vwCl ws H) (hS : va_S A s.heap H locs) (hA : ∀ q, s.heap.size ≤ q → A q) (isC isT : List Nat) (hC : isC.filterMap (fun i => ws[i]?) = wc) (hT : isT.filterMap (fun i => tys[i]?) = tc) (hrv : ∃ cell : Cell, H[b]? = some cell ∧ cell.vm.isStatics = false ∧ s.vm.findClass C = some cell.cls)
    (hn : As.length = n) (hsize : ls.size = nL) (hst : st0 = As.reverse ++ .ref b :: rest) (hW : (rest.map fun v => v.category).sum ≤ 8) (hdg : decode cc pc = .ok (.invokevirtual index, 3)) (hf : cells ≤ R.cells ∧ slots ≤ R.slots)
    (kk : ∀ (H1 : Heap) (locs1 : List Loc), H.size ≤ H1.size → va_P D vwCl ws H1 → va_S A s.heap H1 locs1 → W p l e R s m args below meth c H1 locs1 cells slots Q (F0 m (pc + 3) ls (va_rf ans :: rest))) : W p l e R s m args below meth c H locs cells slots Q (F0 m pc ls st0) := by
  have hfr : ∀ q, va_A [] H.size q → A q := fun q h => hA q (Nat.le_trans hS.1 (wk_ne h))
  refine va_callq (va_runV (As := As) (rest := rest) (g := F0 m pc ls st0) S (hM H.size) cw (wk_preE hrv (hP.sub isC hC) (hK.sub isT hT) hN (wk_envP hE hS hA)) rfl hn hsize hst (lv_room hW) hdg hf) hS (fun q _ h => hfr q h) hfr (fun r u t H1 locs1 _ _ hw _ hz hk hS1 => ?_)
  subst hw
  exact kk H1 locs1 hz (wk_keep hP hk) hS1
theorem wv_callSEi {y : MethodName} {bytes : ByteArray} {maxL nL n index : Nat} {ret : Option FieldType} {wy : List Cond} {rm : Room} {Ts : List Cond} {own : String} {As : List Value} {wc : va_W} {tc : List (ClassId × FieldType)} {ans : Int32} (S : CallFix p m c cc nL s args Ts own) (hM : PEi l y wy rm As D wc tc ea ans) (cw : CallB R s args own index y bytes maxL ret wy rm 0 0 n ∧ (Cond.static y).before args s = true)
    (hK : va_K D vwCl tys s) (hN : NWs s) (hE : ENV ea A s s.heap) (hP : va_P D vwCl ws H) (hS : va_S A s.heap H locs) (hA : ∀ q, s.heap.size ≤ q → A q) (isC isT : List Nat) (hC : isC.filterMap (fun i => ws[i]?) = wc) (hT : isT.filterMap (fun i => tys[i]?) = tc)
    (hn : As.length = n) (hsize : ls.size = nL) (hst : st0 = As.reverse ++ rest) (hW : (rest.map fun v => v.category).sum ≤ 8) (hdg : decode cc pc = .ok (.invokestatic index, 3)) (hf : cells ≤ R.cells ∧ slots ≤ R.slots)
    (kk : ∀ (H1 : Heap) (locs1 : List Loc), H.size ≤ H1.size → va_P D vwCl ws H1 → va_S A s.heap H1 locs1 → W p l e R s m args below meth c H1 locs1 cells slots Q (F0 m (pc + 3) ls (.int ans :: rest))) : W p l e R s m args below meth c H locs cells slots Q (F0 m pc ls st0) := by
  have hfr : ∀ q, va_A [] H.size q → A q := fun q h => hA q (Nat.le_trans hS.1 (wk_ne h))
  have hPc := hP.sub isC hC
  have hKc := hK.sub isT hT
  have hEc := wk_envP hE hS hA
  refine va_calli (va_runS (As := As) (rest := rest) (g := F0 m pc ls st0) S (hM H.size) cw ⟨wk_blE, fun U hU hW => ⟨rfl, by rw [hU], by rw [hU]; exact hPc, va_K.moved hW.alike hKc, hN.warm hW, by rw [hU]; exact hEc.moved hW.alike⟩⟩ rfl hn hsize hst (lv_room hW) hdg hf) hS (fun q _ h => hfr q h) hfr (fun r u t H1 locs1 _ _ hw _ hz hk hS1 => ?_)
  subst hw
  exact kk H1 locs1 hz (wk_keep hP hk) hS1
theorem wv_callSEv {y : MethodName} {bytes : ByteArray} {maxL nL n index : Nat} {ret : Option FieldType} {wy : List Cond} {rm : Room} {Ts : List Cond} {own : String} {As : List Value} {wc : va_W} {tc : List (ClassId × FieldType)} (S : CallFix p m c cc nL s args Ts own) (hM : PEv l y wy rm As D wc tc ea) (cw : CallB R s args own index y bytes maxL ret wy rm 0 0 n ∧ (Cond.static y).before args s = true)
    (hK : va_K D vwCl tys s) (hN : NWs s) (hE : ENV ea A s s.heap) (hP : va_P D vwCl ws H) (hS : va_S A s.heap H locs) (hA : ∀ q, s.heap.size ≤ q → A q) (isC isT : List Nat) (hC : isC.filterMap (fun i => ws[i]?) = wc) (hT : isT.filterMap (fun i => tys[i]?) = tc)
    (hn : As.length = n) (hsize : ls.size = nL) (hst : st0 = As.reverse ++ rest) (hW : (rest.map fun v => v.category).sum ≤ 8) (hdg : decode cc pc = .ok (.invokestatic index, 3)) (hf : cells ≤ R.cells ∧ slots ≤ R.slots)
    (kk : ∀ (H1 : Heap) (locs1 : List Loc), H.size ≤ H1.size → va_P D vwCl ws H1 → va_S A s.heap H1 locs1 → W p l e R s m args below meth c H1 locs1 cells slots Q (F0 m (pc + 3) ls rest)) : W p l e R s m args below meth c H locs cells slots Q (F0 m pc ls st0) := by
  have hfr : ∀ q, va_A [] H.size q → A q := fun q h => hA q (Nat.le_trans hS.1 (wk_ne h))
  have hPc := hP.sub isC hC
  have hKc := hK.sub isT hT
  have hEc := wk_envP hE hS hA
  refine va_callv (va_runS (As := As) (rest := rest) (g := F0 m pc ls st0) S (hM H.size) cw ⟨wk_blE, fun U hU hW => ⟨rfl, by rw [hU], by rw [hU]; exact hPc, va_K.moved hW.alike hKc, hN.warm hW, by rw [hU]; exact hEc.moved hW.alike⟩⟩ rfl hn hsize hst (lv_room hW) hdg hf) hS (fun q _ h => hfr q h) hfr (fun u t H1 locs1 _ _ hw _ hz hk hS1 => ?_)
  exact kk H1 locs1 hz (wk_keep hP hk) hS1
/-- an inherited method of a constant object -/
theorem wv_callUEi {x y : MethodName} {bytes : ByteArray} {maxL nL n index : Nat} {ret : Option FieldType} {wy : List Cond} {rm : Room} {Ts : List Cond} {own C owner : String} {b : Nat} {As : List Value} {wc : va_W} {tc : List (ClassId × FieldType)} {ans : Int32} (S : CallFix p m c cc nL s args Ts own) (hM : PEi l y wy rm (.ref b :: As) D wc tc ea ans) (cw : va_CU R s args own C owner index x y bytes maxL ret wy rm 0 0 n)
    (hK : va_K D vwCl tys s) (hN : NWs s) (hE : ENV ea A s s.heap) (hP : va_P D vwCl ws H) (hS : va_S A s.heap H locs) (hA : ∀ q, s.heap.size ≤ q → A q) (isC isT : List Nat) (hC : isC.filterMap (fun i => ws[i]?) = wc) (hT : isT.filterMap (fun i => tys[i]?) = tc) (hrv : ∃ cell : Cell, H[b]? = some cell ∧ cell.vm.isStatics = false ∧ s.vm.findClass C = some cell.cls)
    (hn : As.length = n) (hsize : ls.size = nL) (hst : st0 = As.reverse ++ .ref b :: rest) (hW : (rest.map fun v => v.category).sum ≤ 8) (hdg : decode cc pc = .ok (.invokevirtual index, 3)) (hf : cells ≤ R.cells ∧ slots ≤ R.slots)
    (kk : ∀ (H1 : Heap) (locs1 : List Loc), H.size ≤ H1.size → va_P D vwCl ws H1 → va_S A s.heap H1 locs1 → W p l e R s m args below meth c H1 locs1 cells slots Q (F0 m (pc + 3) ls (.int ans :: rest))) : W p l e R s m args below meth c H locs cells slots Q (F0 m pc ls st0) := by
  have hfr : ∀ q, va_A [] H.size q → A q := fun q h => hA q (Nat.le_trans hS.1 (wk_ne h))
  refine va_calli (va_runU (As := As) (rest := rest) (g := F0 m pc ls st0) S (hM H.size) cw (wk_preE hrv (hP.sub isC hC) (hK.sub isT hT) hN (wk_envP hE hS hA)) rfl hn hsize hst (lv_room hW) hdg hf) hS (fun q _ h => hfr q h) hfr (fun r u t H1 locs1 _ _ hw _ hz hk hS1 => ?_)
  subst hw
  exact kk H1 locs1 hz (wk_keep hP hk) hS1
theorem wv_callMEi {y : MethodName} {bytes : ByteArray} {maxL nL n index : Nat} {ret : Option FieldType} {wy : List Cond} {rm : Room} {Ts : List Cond} {own C : String} {b : Nat} {As : List Value} {wc wr w1 ws1 : va_W} {tc : List (ClassId × FieldType)} {ans : Int32} (S : CallFix p m c cc nL s args Ts own) (hM : MEi l y wy rm (.ref b :: As) D wc tc ea ans w1) (cw : CallW R s args own C index y bytes maxL ret wy rm 0 0 n)
    (hK : va_K D vwCl tys s) (hN : NWs s) (hE : ENV ea A s s.heap) (hP : va_P D vwCl ws H) (hD : va_D A ws) (hS : va_S A s.heap H locs) (hA : ∀ q, s.heap.size ≤ q → A q) (isC isR isT pm : List Nat) (hC : isC.map (fun i => ws[i]?) = wc.map some) (hCf : isC.filterMap (fun i => ws[i]?) = wc) (hCn' : va_nd isC = true) (hR : isR.map (fun i => ws[i]?) = wr.map some) (hnR : va_nd isR = true) (hdis : ∀ i ∈ isR, i ∉ isC) (hT : isT.filterMap (fun i => tys[i]?) = tc) (hpn : va_nd pm = true) (hpm : pm.map (fun i => (wr ++ w1)[i]?) = ws1.map some) (q0 ci : Nat) {r : vw_C} {fs : List Value} (hc : vwCl[ci]? = some r) (hCn : r.1 = C) (he : ws[q0]? = some (b, .inr (ci, fs)))
    (hn : As.length = n) (hsize : ls.size = nL) (hst : st0 = As.reverse ++ .ref b :: rest) (hW : (rest.map fun v => v.category).sum ≤ 8) (hdg : decode cc pc = .ok (.invokevirtual index, 3)) (hf : cells ≤ R.cells ∧ slots ≤ R.slots)
    (kk : ∀ (H1 : Heap) (locs1 : List Loc), H.size ≤ H1.size → va_P D vwCl ws1 H1 → va_D A ws1 → va_S A s.heap H1 locs1 → W p l e R s m args below meth c H1 locs1 cells slots Q (F0 m (pc + 3) ls (.int ans :: rest))) : W p l e R s m args below meth c H locs cells slots Q (F0 m pc ls st0) := by
  have hfr := va_free (wc := wc) hD hS hA isC hC
  subst hCn
  refine va_calli (va_runV (As := As) (rest := rest) (g := F0 m pc ls st0) S (hM H.size) cw (wk_preEM (va_recv hK hP hc he) (hP.sub isC hCf) (hK.sub isT hT) hN ((hD.sub isC hCn' hC).weaken (fun _ _ _ _ => trivial)) ((hE.kept hS.2.1).narrow hfr)) rfl hn hsize hst (lv_room hW) hdg hf) hS (fun q _ h => hfr q h) hfr (fun r u t H1 locs1 ht _ hw hB hz hk hS1 => ?_)
  subst hw
  obtain ⟨hP1, hD1⟩ := hB
  rw [ht] at hP1
  obtain ⟨g1, g2⟩ := wk_joinO hP hD isC isR hC hR hnR hdis hk hfr hP1 hD1 pm hpn hpm
  exact kk H1 locs1 hz g1 g2 hS1
end EK
theorem rf_nar (n : String) (o : Option Nat) : narrow (.object n) (va_rf o) = va_rf o := by cases o <;> rfl
theorem rf_fit (n : String) (o : Option Nat) : fits (.object n) (va_rf o) = true := by cases o <;> rfl
/-! the text, in whole numbers -/
def tN (c : Nat → Nat) : Nat → Int32 := fun k => nI (c k)
def isA (c : Nat → Nat) (n lo hi p : Nat) : Bool := decide (p < n) && (decide (lo ≤ c p) && decide (c p ≤ hi))
def rn (P : Nat → Bool) : Nat → Nat → Nat
  | 0, p => p
  | f + 1, p => if P p then rn P f (p + 1) else p
theorem rn_t {P : Nat → Bool} {f p : Nat} (h : P p = true) : rn P (f + 1) p = rn P f (p + 1) := by rw [rn, if_pos h]
theorem rn_f {P : Nat → Bool} {f p : Nat} (h : P p = false) : rn P f p = p := by
  cases f with
  | zero => rfl
  | succ f => rw [rn, if_neg (by rw [h]; decide)]
theorem rn_le {P : Nat → Bool} : ∀ {f p : Nat}, rn P f p ≤ p + f ∧ p ≤ rn P f p
  | 0, p => ⟨Nat.le_refl _, Nat.le_refl _⟩
  | f + 1, p => by
    rw [rn]
    split
    · have := rn_le (P := P) (f := f) (p := p + 1); omega
    · omega
theorem rn_in {P : Nat → Bool} : ∀ {f p : Nat} (k : Nat), p ≤ k → k < rn P f p → P k = true
  | 0, p, k, h1, h2 => absurd h2 (by show ¬ k < p; omega)
  | f + 1, p, k, h1, h2 => by
    rw [rn] at h2
    split at h2
    · rename_i h
      by_cases e : k = p
      · rw [e]; exact h
      · exact rn_in k (by omega) h2
    · omega
theorem rn_end {P : Nat → Bool} : ∀ {f p : Nat}, rn P f p < p + f → P (rn P f p) = false
  | 0, p, h => absurd h (by show ¬ p < p + 0; omega)
  | f + 1, p, h => by
    rw [rn] at h ⊢
    split
    · rename_i h2
      rw [if_pos h2] at h
      exact rn_end (by omega)
    · rename_i h2
      exact Bool.eq_false_iff.mpr h2
def skS (c : Nat → Nat) (n p : Nat) : Nat := rn (isA c n 32 32) (n - p) p
def skL (c : Nat → Nat) (n p : Nat) : Nat := rn (isA c n 97 122) (n - p) p
def mt (c : Nat → Nat) (i st : Nat) : Nat → Bool
  | 0 => true
  | k + 1 => mt c i st k && decide (c (st + k) = wcc i k)
def btw (c : Nat → Nat) (i st en : Nat) : Bool := decide (wln i = en - st) && mt c i st (wln i)
def wid (c : Nat → Nat) (st en : Nat) : Option Nat := fst0 (fun i => btw c i st en) 7
def dgv (c : Nat → Nat) (q : Nat) : Nat → Nat
  | 0 => 0
  | d + 1 => 10 * dgv c q d + (c (q + d) - 48)
theorem isA_t {c : Nat → Nat} {n lo hi p : Nat} (h : p < n) (h1 : lo ≤ c p) (h2 : c p ≤ hi) : isA c n lo hi p = true := by unfold isA; rw [decide_eq_true h, decide_eq_true h1, decide_eq_true h2]; rfl
theorem isA_f {c : Nat → Nat} {n lo hi p : Nat} (h : n ≤ p ∨ c p < lo ∨ hi < c p) : isA c n lo hi p = false := by
  unfold isA
  rcases h with h | h | h
  · rw [decide_eq_false (by omega)]; rfl
  · rw [decide_eq_false (show ¬ lo ≤ c p by omega)]; simp
  · rw [decide_eq_false (show ¬ c p ≤ hi by omega)]; simp
theorem isA_i {c : Nat → Nat} {n lo hi p : Nat} (h : isA c n lo hi p = true) : p < n ∧ lo ≤ c p ∧ c p ≤ hi := by
  unfold isA at h
  simpa using h
/-- the class: a number -/
def nuN (c : Nat → Nat) (n p : Nat) (sg : Bool) : Bool := sg && isA c n 45 45 (skS c n p)
def nuQ (c : Nat → Nat) (n p : Nat) (sg : Bool) : Nat := if nuN c n p sg then skS c n p + 1 else skS c n p
def nuE (c : Nat → Nat) (n p : Nat) (sg : Bool) : Nat := rn (isA c n 48 57) 9 (nuQ c n p sg)
def nuV (c : Nat → Nat) (n p : Nat) (sg : Bool) : Nat := dgv c (nuQ c n p sg) (nuE c n p sg - nuQ c n p sg)
def ncC (c : Nat → Nat) (n p : Nat) (sg : Bool) : Bool := isA c n 32 32 p && decide (nuQ c n p sg < nuE c n p sg)
def ncP (c : Nat → Nat) (n p : Nat) (sg : Bool) : Nat := if isA c n 32 32 p then nuE c n p sg else p
def ncA (c : Nat → Nat) (n p : Nat) (sg : Bool) (am : Int32) : Int32 := if isA c n 32 32 p then (if nuN c n p sg then -(nI (nuV c n p sg)) else nI (nuV c n p sg)) else am
/-- the class: a command. The state: next, amount, word, number, value. -/
abbrev PS : Type := Nat × Int32 × Option Nat × Int32 × Int64
def wdV (e : EA) (o : Option Nat) : Value := va_rf (o.map (eW e))
def crE (c : Nat → Nat) (n k q : Nat) (am nb : Int32) (vl : Int64) : Bool × PS :=
  if isA c n 59 59 (skS c n q) then (true, skS c n q + 1, am, some k, nb, vl) else (false, skS c n q, am, some k, nb, vl)
def crV (c : Nat → Nat) (n : Nat) (k q : Nat) (am : Int32) (vl : Int64) : Bool × PS :=
  if wva k then (if ncC c n q true then crE c n k (ncP c n q true) (ncA c n q true am) am (ncA c n q true am).toInt64 else (false, ncP c n q true, ncA c n q true am, some k, am, vl))
  else crE c n k q am am am.toInt64
def crS (c : Nat → Nat) (n : Nat) (s : PS) : Bool × PS := match wid c s.1 (skL c n s.1) with
  | none => (false, s.1, s.2.1, none, s.2.2.2.1, s.2.2.2.2)
  | some k => if wnu k then (if ncC c n (skL c n s.1) false then crV c n k (ncP c n (skL c n s.1) false) (ncA c n (skL c n s.1) false s.2.1) s.2.2.2.2 else (false, ncP c n (skL c n s.1) false, ncA c n (skL c n s.1) false s.2.1, some k, s.2.2.2.1, s.2.2.2.2))
    else crV c n k (skL c n s.1) s.2.1 s.2.2.2.2
