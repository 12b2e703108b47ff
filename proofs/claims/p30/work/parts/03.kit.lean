/-! Own kit: pure contracts (PMi, PMl: the heap stays), contracts that change their world (MMi, MMl, MMv), their starts, ends and calls; rows over counted ints and truth values. -/
def bI (b : Bool) : Int32 := if b then 1 else 0
theorem bI_t : bI true = 1 := rfl
theorem bI_f : bI false = 0 := rfl
theorem bI_nar (b : Bool) : narrow .boolean (.int (bI b)) = .int (bI b) := by cases b <;> rfl
theorem bI_fit (b : Bool) : fits .boolean (.int (bI b)) = true := by cases b <;> rfl
theorem bI_0 {b : Bool} : bI b = 0 ↔ b = false := by cases b <;> decide
/-- the words that link nest mates' private fields and constructors -/
def NW : List Cond := [.fieldLinkNest "NearRanks" 125 "NearRanks$Row" "mendsItself" "Z" "NearRanks", .fieldLinkNest "NearRanks" 139 "NearRanks$Row" "looks" "I" "NearRanks", .fieldLinkNest "NearRanks" 142 "NearRanks$Search" "looks" "I" "NearRanks", .fieldLinkNest "NearRanks" 143 "NearRanks$Search" "place" "I" "NearRanks", .fieldLinkNest "NearRanks" 206 "NearRanks$CommandText" "length" "I" "NearRanks", .fieldLinkNest "NearRanks" 272 "NearRanks$Row" "ranks" "[I" "NearRanks", .fieldLinkNest "NearRanks" 284 "NearRanks$Row" "bound" "I" "NearRanks", .fieldLinkNest "NearRanks" 287 "NearRanks$Row" "falling" "Z" "NearRanks", .fieldLinkNest "NearRanks" 293 "NearRanks$Row" "steps" "I" "NearRanks", .fieldLinkNest "NearRanks" 47 "NearRanks$Row" "size" "I" "NearRanks", .fieldLinkNest "NearRanks" 74 "NearRanks$Row" "came" "I" "NearRanks", .fieldLinkNest "NearRanks" 81 "NearRanks$Row" "numbers" "[I" "NearRanks", .fieldLinkNest "NearRanks" 88 "NearRanks$Row" "values" "[J" "NearRanks", .fieldLinkNest "NearRanks$Search" 21 "NearRanks$Row" "size" "I" "NearRanks", .fieldLinkNest "NearRanks$Search" 36 "NearRanks$Row" "bound" "I" "NearRanks", .fieldLinkNest "NearRanks$Search" 43 "NearRanks$Row" "values" "[J" "NearRanks", .methodLinkNest "NearRanks" 21 ⟨"NearRanks$Search", "<init>", "()V"⟩ "NearRanks", .methodLinkNest "NearRanks" 28 ⟨"NearRanks$CommandText", "<init>", "()V"⟩ "NearRanks", .methodLinkNest "NearRanks" 9 ⟨"NearRanks$Row", "<init>", "()V"⟩ "NearRanks", .methodLinkNest "NearRanks$History" 17 ⟨"NearRanks$Row", "<init>", "()V"⟩ "NearRanks"]
def NWs (U : State) : Prop := ∀ w ∈ NW, va_Nw w U
theorem NWs.warm {s U : State} (hW : s.WarmedH U.vm) (h : NWs s) : NWs U := by
  intro w hw
  have k := h w hw
  simp only [NW, List.mem_cons, List.not_mem_nil, or_false] at hw
  rcases hw with rfl | rfl | rfl | rfl | rfl | rfl | rfl | rfl | rfl | rfl | rfl | rfl | rfl | rfl | rfl | rfl | rfl | rfl | rfl | rfl <;> first | exact va_Nw.warmF hW k | exact va_Nw.warmM hW k
theorem NWs.same {u U : State} (e : u.vm = U.vm) (h : NWs u) : NWs U := by
  intro w hw
  have k := h w hw
  simp only [NW, List.mem_cons, List.not_mem_nil, or_false] at hw
  rcases hw with rfl | rfl | rfl | rfl | rfl | rfl | rfl | rfl | rfl | rfl | rfl | rfl | rfl | rfl | rfl | rfl | rfl | rfl | rfl | rfl <;> exact va_Nw.same rfl e k
theorem NWs.use {U : State} {w : Cond} {args : Array Value} (h : NWs U) (hw : w ∈ NW) (ho : w.onTables = true) : w.before args U = true := va_Nw.use ho (h w hw)
def PMi (l : Launch) (y : MethodName) (ws : List Cond) (rm : Room) (As : List Value) (D : va_G) (wc : va_W) (tys : List (ClassId × FieldType)) (ans : Int32) : Prop :=
  ∀ sz : Nat, Met l y ws rm (va_Pc As (fun U => U.heap.size = sz ∧ va_P D vwCl wc U.heap ∧ va_K D vwCl tys U ∧ NWs U)) (va_Qi (fun (r : Int32) (_ : Unit) => r = ans) (fun _ _ => True) (va_A [] sz)) 0 0 (va_A [] sz)
def PMl (l : Launch) (y : MethodName) (ws : List Cond) (rm : Room) (As : List Value) (D : va_G) (wc : va_W) (tys : List (ClassId × FieldType)) (ans : Int64) : Prop :=
  ∀ sz : Nat, Met l y ws rm (va_Pc As (fun U => U.heap.size = sz ∧ va_P D vwCl wc U.heap ∧ va_K D vwCl tys U ∧ NWs U)) (va_Ql (fun (r : Int64) (_ : Unit) => r = ans) (fun _ _ => True) (va_A [] sz)) 0 0 (va_A [] sz)
def MMi (l : Launch) (y : MethodName) (ws : List Cond) (rm : Room) (As : List Value) (D : va_G) (wc : va_W) (tys : List (ClassId × FieldType)) (ans : Int32) (w1 : va_W) : Prop :=
  ∀ sz : Nat, Met l y ws rm (va_Pc As (fun U => U.heap.size = sz ∧ va_P D vwCl wc U.heap ∧ va_K D vwCl tys U ∧ NWs U ∧ va_D (fun _ => True) wc)) (va_Qi (fun (r : Int32) (_ : Unit) => r = ans) (fun _ t => va_P D vwCl w1 t.heap ∧ va_D (va_A wc sz) w1) (va_A wc sz)) 0 0 (va_A wc sz)
def MMl (l : Launch) (y : MethodName) (ws : List Cond) (rm : Room) (As : List Value) (D : va_G) (wc : va_W) (tys : List (ClassId × FieldType)) (ans : Int64) (w1 : va_W) : Prop :=
  ∀ sz : Nat, Met l y ws rm (va_Pc As (fun U => U.heap.size = sz ∧ va_P D vwCl wc U.heap ∧ va_K D vwCl tys U ∧ NWs U ∧ va_D (fun _ => True) wc)) (va_Ql (fun (r : Int64) (_ : Unit) => r = ans) (fun _ t => va_P D vwCl w1 t.heap ∧ va_D (va_A wc sz) w1) (va_A wc sz)) 0 0 (va_A wc sz)
def MMv (l : Launch) (y : MethodName) (ws : List Cond) (rm : Room) (As : List Value) (D : va_G) (wc : va_W) (tys : List (ClassId × FieldType)) (w1 : va_W) : Prop :=
  ∀ sz : Nat, Met l y ws rm (va_Pc As (fun U => U.heap.size = sz ∧ va_P D vwCl wc U.heap ∧ va_K D vwCl tys U ∧ NWs U ∧ va_D (fun _ => True) wc)) (va_Qv (fun (_ : Unit) => True) (fun _ t => va_P D vwCl w1 t.heap ∧ va_D (va_A wc sz) w1) (va_A wc sz)) 0 0 (va_A wc sz)
-- the ends that the walks come to
def ZPi (below : List Frame) (args : Array Value) (s : State) (ans : Int32) : State → Prop := MQ below (va_Qi (fun (r : Int32) (_ : Unit) => r = ans) (fun _ _ => True) (va_A [] s.heap.size)) args s 0 0 (va_A [] s.heap.size)
def ZPl (below : List Frame) (args : Array Value) (s : State) (ans : Int64) : State → Prop := MQ below (va_Ql (fun (r : Int64) (_ : Unit) => r = ans) (fun _ _ => True) (va_A [] s.heap.size)) args s 0 0 (va_A [] s.heap.size)
def ZMi (below : List Frame) (args : Array Value) (s : State) (D : va_G) (wc : va_W) (ans : Int32) (w1 : va_W) : State → Prop := MQ below (va_Qi (fun (r : Int32) (_ : Unit) => r = ans) (fun _ t => va_P D vwCl w1 t.heap ∧ va_D (va_A wc s.heap.size) w1) (va_A wc s.heap.size)) args s 0 0 (va_A wc s.heap.size)
def ZMl (below : List Frame) (args : Array Value) (s : State) (D : va_G) (wc : va_W) (ans : Int64) (w1 : va_W) : State → Prop := MQ below (va_Ql (fun (r : Int64) (_ : Unit) => r = ans) (fun _ t => va_P D vwCl w1 t.heap ∧ va_D (va_A wc s.heap.size) w1) (va_A wc s.heap.size)) args s 0 0 (va_A wc s.heap.size)
def ZMv (below : List Frame) (args : Array Value) (s : State) (D : va_G) (wc : va_W) (w1 : va_W) : State → Prop := MQ below (va_Qv (fun (_ : Unit) => True) (fun _ t => va_P D vwCl w1 t.heap ∧ va_D (va_A wc s.heap.size) w1) (va_A wc s.heap.size)) args s 0 0 (va_A wc s.heap.size)
theorem wk_hA (wc : va_W) (n : Nat) : ∀ q, n ≤ q → va_A wc n q := fun _ h => Or.inr h
section WKS
variable {l : Launch} {y : MethodName} {ws ws' : List Cond} {rm : Room} {As : List Value} {D : va_G} {wc : va_W} {tys : List (ClassId × FieldType)} {cc : ByteArray} {maxL : Nat} {ret : Option FieldType}
theorem PMi_of {ans : Int32} (hy : plainName y.cls = true) (hw : ws = Cond.code y cc maxL ret :: ws') (hlen : (lg_sl As).length ≤ maxL)
    (body : ∀ (p : Program) (e : Env) (s : State) (m : MethodId) (args : Array Value) (below : List Frame) (meth : Method) (c : Code), p.tables.exec = Jvm.exec → c.code = cc → meth.sig.returnType = ret → (∀ w ∈ ws, w.before args s = true) → s.vm.findClass y.cls = some m.cls → meth.locks = false → c.maxLocals = maxL → va_P D vwCl wc s.heap → va_K D vwCl tys s → NWs s → ∀ ls : Array Slot, lv_has ls maxL (lv_args 0 As) → W p l e rm s m args below meth c s.heap [] 0 0 (ZPi below args s ans) (F0 m 0 ls [])) : PMi l y ws rm As D wc tys ans := by
  intro sz
  refine Met.ofW (cc := cc) (maxL := maxL) (ret := ret) hy hw ?_
  intro p e s m args below meth c s₁ B hml hv
  obtain ⟨rfl, hsz, hP, hK, hN⟩ := hv
  subst hsz
  rw [lg_entry_eq]
  exact body p e s m As.toArray below meth c B.exec B.bytes B.returns (atoms_spec (ws := ws) B.pre) (findClass_of_methodNamed B.named) B.notSynchronized hml hP hK hN _ (lv_entry As hlen)
theorem PMl_of {ans : Int64} (hy : plainName y.cls = true) (hw : ws = Cond.code y cc maxL ret :: ws') (hlen : (lg_sl As).length ≤ maxL)
    (body : ∀ (p : Program) (e : Env) (s : State) (m : MethodId) (args : Array Value) (below : List Frame) (meth : Method) (c : Code), p.tables.exec = Jvm.exec → c.code = cc → meth.sig.returnType = ret → (∀ w ∈ ws, w.before args s = true) → s.vm.findClass y.cls = some m.cls → meth.locks = false → c.maxLocals = maxL → va_P D vwCl wc s.heap → va_K D vwCl tys s → NWs s → ∀ ls : Array Slot, lv_has ls maxL (lv_args 0 As) → W p l e rm s m args below meth c s.heap [] 0 0 (ZPl below args s ans) (F0 m 0 ls [])) : PMl l y ws rm As D wc tys ans := by
  intro sz
  refine Met.ofW (cc := cc) (maxL := maxL) (ret := ret) hy hw ?_
  intro p e s m args below meth c s₁ B hml hv
  obtain ⟨rfl, hsz, hP, hK, hN⟩ := hv
  subst hsz
  rw [lg_entry_eq]
  exact body p e s m As.toArray below meth c B.exec B.bytes B.returns (atoms_spec (ws := ws) B.pre) (findClass_of_methodNamed B.named) B.notSynchronized hml hP hK hN _ (lv_entry As hlen)
theorem MMi_of {ans : Int32} {w1 : va_W} (hy : plainName y.cls = true) (hw : ws = Cond.code y cc maxL ret :: ws') (hlen : (lg_sl As).length ≤ maxL)
    (body : ∀ (p : Program) (e : Env) (s : State) (m : MethodId) (args : Array Value) (below : List Frame) (meth : Method) (c : Code), p.tables.exec = Jvm.exec → c.code = cc → meth.sig.returnType = ret → (∀ w ∈ ws, w.before args s = true) → s.vm.findClass y.cls = some m.cls → meth.locks = false → c.maxLocals = maxL → va_P D vwCl wc s.heap → va_K D vwCl tys s → NWs s → va_D (va_A wc s.heap.size) wc → ∀ ls : Array Slot, lv_has ls maxL (lv_args 0 As) → W p l e rm s m args below meth c s.heap [] 0 0 (ZMi below args s D wc ans w1) (F0 m 0 ls [])) : MMi l y ws rm As D wc tys ans w1 := by
  intro sz
  refine Met.ofW (cc := cc) (maxL := maxL) (ret := ret) hy hw ?_
  intro p e s m args below meth c s₁ B hml hv
  obtain ⟨rfl, hsz, hP, hK, hN, hD⟩ := hv
  subst hsz
  rw [lg_entry_eq]
  exact body p e s m As.toArray below meth c B.exec B.bytes B.returns (atoms_spec (ws := ws) B.pre) (findClass_of_methodNamed B.named) B.notSynchronized hml hP hK hN hD.self _ (lv_entry As hlen)
theorem MMl_of {ans : Int64} {w1 : va_W} (hy : plainName y.cls = true) (hw : ws = Cond.code y cc maxL ret :: ws') (hlen : (lg_sl As).length ≤ maxL)
    (body : ∀ (p : Program) (e : Env) (s : State) (m : MethodId) (args : Array Value) (below : List Frame) (meth : Method) (c : Code), p.tables.exec = Jvm.exec → c.code = cc → meth.sig.returnType = ret → (∀ w ∈ ws, w.before args s = true) → s.vm.findClass y.cls = some m.cls → meth.locks = false → c.maxLocals = maxL → va_P D vwCl wc s.heap → va_K D vwCl tys s → NWs s → va_D (va_A wc s.heap.size) wc → ∀ ls : Array Slot, lv_has ls maxL (lv_args 0 As) → W p l e rm s m args below meth c s.heap [] 0 0 (ZMl below args s D wc ans w1) (F0 m 0 ls [])) : MMl l y ws rm As D wc tys ans w1 := by
  intro sz
  refine Met.ofW (cc := cc) (maxL := maxL) (ret := ret) hy hw ?_
  intro p e s m args below meth c s₁ B hml hv
  obtain ⟨rfl, hsz, hP, hK, hN, hD⟩ := hv
  subst hsz
  rw [lg_entry_eq]
  exact body p e s m As.toArray below meth c B.exec B.bytes B.returns (atoms_spec (ws := ws) B.pre) (findClass_of_methodNamed B.named) B.notSynchronized hml hP hK hN hD.self _ (lv_entry As hlen)
theorem MMv_of {w1 : va_W} (hy : plainName y.cls = true) (hw : ws = Cond.code y cc maxL ret :: ws') (hlen : (lg_sl As).length ≤ maxL)
    (body : ∀ (p : Program) (e : Env) (s : State) (m : MethodId) (args : Array Value) (below : List Frame) (meth : Method) (c : Code), p.tables.exec = Jvm.exec → c.code = cc → meth.sig.returnType = ret → (∀ w ∈ ws, w.before args s = true) → s.vm.findClass y.cls = some m.cls → meth.locks = false → c.maxLocals = maxL → va_P D vwCl wc s.heap → va_K D vwCl tys s → NWs s → va_D (va_A wc s.heap.size) wc → ∀ ls : Array Slot, lv_has ls maxL (lv_args 0 As) → W p l e rm s m args below meth c s.heap [] 0 0 (ZMv below args s D wc w1) (F0 m 0 ls [])) : MMv l y ws rm As D wc tys w1 := by
  intro sz
  refine Met.ofW (cc := cc) (maxL := maxL) (ret := ret) hy hw ?_
  intro p e s m args below meth c s₁ B hml hv
  obtain ⟨rfl, hsz, hP, hK, hN, hD⟩ := hv
  subst hsz
  rw [lg_entry_eq]
  exact body p e s m As.toArray below meth c B.exec B.bytes B.returns (atoms_spec (ws := ws) B.pre) (findClass_of_methodNamed B.named) B.notSynchronized hml hP hK hN hD.self _ (lv_entry As hlen)
end WKS
section WK
variable {p : Program} {l : Launch} {e : Env} {R : Room} {s : State} {m : MethodId} {args : Array Value} {below : List Frame} {meth : Method} {c : Code} {H : Heap} {locs : List Loc} {cells slots : Nat} {Q : State → Prop}
variable {cc : ByteArray} {pc : Nat} {ls : Array Slot} {rest st0 : List Value} {D : va_G} {cl : List vw_C} {A : Nat → Prop} {a : Nat} {tys : List (ClassId × FieldType)} {ws : va_W} {H0 : Heap}
-- names for the top
theorem wv_ti {x y : Int32} (h : x = y) (k : W p l e R s m args below meth c H locs cells slots Q (F0 m pc ls (.int y :: rest))) : W p l e R s m args below meth c H locs cells slots Q (F0 m pc ls (.int x :: rest)) := h ▸ k
theorem wv_tl {x y : Int64} (h : x = y) (k : W p l e R s m args below meth c H locs cells slots Q (F0 m pc ls (.long y :: rest))) : W p l e R s m args below meth c H locs cells slots Q (F0 m pc ls (.long x :: rest)) := h ▸ k
-- truth values
theorem wv_ifeqB (hexec : p.tables.exec = Jvm.exec) (hb : c.code = cc) {b : Bool} {off : Int} {tgt : Nat} (hdg : decode cc pc = .ok (.ifCond .eq off, 3)) (ht : (pc : Int) + off = (tgt : Int))
    (kt : b = false → W p l e R s m args below meth c H locs cells slots Q (F0 m tgt ls rest)) (kf : b = true → W p l e R s m args below meth c H locs cells slots Q (F0 m (pc + 3) ls rest)) : W p l e R s m args below meth c H locs cells slots Q (F0 m pc ls (.int (bI b) :: rest)) :=
  lv_if_eq hexec hb hdg ht (fun h => kt (by cases b <;> first | rfl | exact absurd h (by decide))) (fun h => kf (by cases b <;> first | rfl | exact absurd rfl h))
theorem wv_ifneB (hexec : p.tables.exec = Jvm.exec) (hb : c.code = cc) {b : Bool} {off : Int} {tgt : Nat} (hdg : decode cc pc = .ok (.ifCond .ne off, 3)) (ht : (pc : Int) + off = (tgt : Int))
    (kt : b = true → W p l e R s m args below meth c H locs cells slots Q (F0 m tgt ls rest)) (kf : b = false → W p l e R s m args below meth c H locs cells slots Q (F0 m (pc + 3) ls rest)) : W p l e R s m args below meth c H locs cells slots Q (F0 m pc ls (.int (bI b) :: rest)) :=
  lv_if_ne hexec hb hdg ht (fun h => kt (by cases b <;> first | rfl | exact absurd rfl h)) (fun h => kf (by cases b <;> first | rfl | exact absurd h (by decide)))
theorem wv_ifeqD (hexec : p.tables.exec = Jvm.exec) (hb : c.code = cc) {P : Prop} [Decidable P] {off : Int} {tgt : Nat} (hdg : decode cc pc = .ok (.ifCond .eq off, 3)) (ht : (pc : Int) + off = (tgt : Int))
    (kt : ¬ P → W p l e R s m args below meth c H locs cells slots Q (F0 m tgt ls rest)) (kf : P → W p l e R s m args below meth c H locs cells slots Q (F0 m (pc + 3) ls rest)) : W p l e R s m args below meth c H locs cells slots Q (F0 m pc ls (.int (bI (decide P)) :: rest)) :=
  wv_ifeqB hexec hb hdg ht (fun h => kt (of_decide_eq_false h)) (fun h => kf (of_decide_eq_true h))
theorem wv_ifneD (hexec : p.tables.exec = Jvm.exec) (hb : c.code = cc) {P : Prop} [Decidable P] {off : Int} {tgt : Nat} (hdg : decode cc pc = .ok (.ifCond .ne off, 3)) (ht : (pc : Int) + off = (tgt : Int))
    (kt : P → W p l e R s m args below meth c H locs cells slots Q (F0 m tgt ls rest)) (kf : ¬ P → W p l e R s m args below meth c H locs cells slots Q (F0 m (pc + 3) ls rest)) : W p l e R s m args below meth c H locs cells slots Q (F0 m pc ls (.int (bI (decide P)) :: rest)) :=
  wv_ifneB hexec hb hdg ht (fun h => kt (of_decide_eq_true h)) (fun h => kf (of_decide_eq_false h))
-- counted ints
theorem wv_icmp_ge (hexec : p.tables.exec = Jvm.exec) (hb : c.code = cc) {x y : Nat} (hx : x < 2 ^ 31) (hy : y < 2 ^ 31) {off : Int} {tgt : Nat} (hdg : decode cc pc = .ok (.if_icmp .ge off, 3)) (ht : (pc : Int) + off = (tgt : Int))
    (kt : y ≤ x → W p l e R s m args below meth c H locs cells slots Q (F0 m tgt ls rest)) (kf : x < y → W p l e R s m args below meth c H locs cells slots Q (F0 m (pc + 3) ls rest)) : W p l e R s m args below meth c H locs cells slots Q (F0 m pc ls (.int (nI y) :: .int (nI x) :: rest)) :=
  lv_icmp_ge hexec hb hdg ht (fun h => kt ((nI_leI hy hx).mp h)) (fun h => kf (Nat.lt_of_not_le fun z => h ((nI_leI hy hx).mpr z)))
theorem wv_icmp_lt (hexec : p.tables.exec = Jvm.exec) (hb : c.code = cc) {x y : Nat} (hx : x < 2 ^ 31) (hy : y < 2 ^ 31) {off : Int} {tgt : Nat} (hdg : decode cc pc = .ok (.if_icmp .lt off, 3)) (ht : (pc : Int) + off = (tgt : Int))
    (kt : x < y → W p l e R s m args below meth c H locs cells slots Q (F0 m tgt ls rest)) (kf : y ≤ x → W p l e R s m args below meth c H locs cells slots Q (F0 m (pc + 3) ls rest)) : W p l e R s m args below meth c H locs cells slots Q (F0 m pc ls (.int (nI y) :: .int (nI x) :: rest)) :=
  lv_icmp_lt hexec hb hdg ht (fun h => kt ((nI_ltI hx hy).mp h)) (fun h => kf (Nat.le_of_not_lt fun z => h ((nI_ltI hx hy).mpr z)))
theorem wv_icmp_gt (hexec : p.tables.exec = Jvm.exec) (hb : c.code = cc) {x y : Nat} (hx : x < 2 ^ 31) (hy : y < 2 ^ 31) {off : Int} {tgt : Nat} (hdg : decode cc pc = .ok (.if_icmp .gt off, 3)) (ht : (pc : Int) + off = (tgt : Int))
    (kt : y < x → W p l e R s m args below meth c H locs cells slots Q (F0 m tgt ls rest)) (kf : x ≤ y → W p l e R s m args below meth c H locs cells slots Q (F0 m (pc + 3) ls rest)) : W p l e R s m args below meth c H locs cells slots Q (F0 m pc ls (.int (nI y) :: .int (nI x) :: rest)) :=
  lv_icmp_gt hexec hb hdg ht (fun h => kt ((nI_ltI hy hx).mp h)) (fun h => kf (Nat.le_of_not_lt fun z => h ((nI_ltI hy hx).mpr z)))
theorem wv_icmp_le (hexec : p.tables.exec = Jvm.exec) (hb : c.code = cc) {x y : Nat} (hx : x < 2 ^ 31) (hy : y < 2 ^ 31) {off : Int} {tgt : Nat} (hdg : decode cc pc = .ok (.if_icmp .le off, 3)) (ht : (pc : Int) + off = (tgt : Int))
    (kt : x ≤ y → W p l e R s m args below meth c H locs cells slots Q (F0 m tgt ls rest)) (kf : y < x → W p l e R s m args below meth c H locs cells slots Q (F0 m (pc + 3) ls rest)) : W p l e R s m args below meth c H locs cells slots Q (F0 m pc ls (.int (nI y) :: .int (nI x) :: rest)) :=
  lv_icmp_le hexec hb hdg ht (fun h => kt ((nI_leI hx hy).mp h)) (fun h => kf (Nat.lt_of_not_le fun z => h ((nI_leI hx hy).mpr z)))
theorem wv_icmp_eq (hexec : p.tables.exec = Jvm.exec) (hb : c.code = cc) {x y : Nat} (hx : x < 2 ^ 31) (hy : y < 2 ^ 31) {off : Int} {tgt : Nat} (hdg : decode cc pc = .ok (.if_icmp .eq off, 3)) (ht : (pc : Int) + off = (tgt : Int))
    (kt : x = y → W p l e R s m args below meth c H locs cells slots Q (F0 m tgt ls rest)) (kf : x ≠ y → W p l e R s m args below meth c H locs cells slots Q (F0 m (pc + 3) ls rest)) : W p l e R s m args below meth c H locs cells slots Q (F0 m pc ls (.int (nI y) :: .int (nI x) :: rest)) :=
  lv_icmp_eq hexec hb hdg ht (fun h => kt ((nI_eq hx hy).mp h)) (fun h => kf fun z => h ((nI_eq hx hy).mpr z))
theorem wv_icmp_ne (hexec : p.tables.exec = Jvm.exec) (hb : c.code = cc) {x y : Nat} (hx : x < 2 ^ 31) (hy : y < 2 ^ 31) {off : Int} {tgt : Nat} (hdg : decode cc pc = .ok (.if_icmp .ne off, 3)) (ht : (pc : Int) + off = (tgt : Int))
    (kt : x ≠ y → W p l e R s m args below meth c H locs cells slots Q (F0 m tgt ls rest)) (kf : x = y → W p l e R s m args below meth c H locs cells slots Q (F0 m (pc + 3) ls rest)) : W p l e R s m args below meth c H locs cells slots Q (F0 m pc ls (.int (nI y) :: .int (nI x) :: rest)) :=
  lv_icmp_ne hexec hb hdg ht (fun h => kt fun z => h ((nI_eq hx hy).mpr z)) (fun h => kf ((nI_eq hx hy).mp h))
theorem wk_n0 {x : Nat} (hx : x < 2 ^ 31) : nI x = 0 ↔ x = 0 := by rw [← nI_0]; exact nI_eq hx (by decide)
theorem wv_if_eq (hexec : p.tables.exec = Jvm.exec) (hb : c.code = cc) {x : Nat} (hx : x < 2 ^ 31) {off : Int} {tgt : Nat} (hdg : decode cc pc = .ok (.ifCond .eq off, 3)) (ht : (pc : Int) + off = (tgt : Int))
    (kt : x = 0 → W p l e R s m args below meth c H locs cells slots Q (F0 m tgt ls rest)) (kf : 0 < x → W p l e R s m args below meth c H locs cells slots Q (F0 m (pc + 3) ls rest)) : W p l e R s m args below meth c H locs cells slots Q (F0 m pc ls (.int (nI x) :: rest)) :=
  lv_if_eq hexec hb hdg ht (fun h => kt ((wk_n0 hx).mp h)) (fun h => kf (Nat.pos_of_ne_zero fun z => h ((wk_n0 hx).mpr z)))
theorem wv_if_ne (hexec : p.tables.exec = Jvm.exec) (hb : c.code = cc) {x : Nat} (hx : x < 2 ^ 31) {off : Int} {tgt : Nat} (hdg : decode cc pc = .ok (.ifCond .ne off, 3)) (ht : (pc : Int) + off = (tgt : Int))
    (kt : 0 < x → W p l e R s m args below meth c H locs cells slots Q (F0 m tgt ls rest)) (kf : x = 0 → W p l e R s m args below meth c H locs cells slots Q (F0 m (pc + 3) ls rest)) : W p l e R s m args below meth c H locs cells slots Q (F0 m pc ls (.int (nI x) :: rest)) :=
  lv_if_ne hexec hb hdg ht (fun h => kt (Nat.pos_of_ne_zero fun z => h ((wk_n0 hx).mpr z))) (fun h => kf ((wk_n0 hx).mp h))
theorem wk_le0 {x : Nat} (hx : x < 2 ^ 31) : nI x ≤ 0 ↔ x = 0 := by rw [← nI_0, nI_leI hx (by decide)]; omega
theorem wv_if_le (hexec : p.tables.exec = Jvm.exec) (hb : c.code = cc) {x : Nat} (hx : x < 2 ^ 31) {off : Int} {tgt : Nat} (hdg : decode cc pc = .ok (.ifCond .le off, 3)) (ht : (pc : Int) + off = (tgt : Int))
    (kt : x = 0 → W p l e R s m args below meth c H locs cells slots Q (F0 m tgt ls rest)) (kf : 0 < x → W p l e R s m args below meth c H locs cells slots Q (F0 m (pc + 3) ls rest)) : W p l e R s m args below meth c H locs cells slots Q (F0 m pc ls (.int (nI x) :: rest)) :=
  lv_if_le hexec hb hdg ht (fun h => kt ((wk_le0 hx).mp h)) (fun h => kf (Nat.pos_of_ne_zero fun z => h ((wk_le0 hx).mpr z)))
theorem wv_if_lt (hexec : p.tables.exec = Jvm.exec) (hb : c.code = cc) {x : Nat} (hx : x < 2 ^ 31) {off : Int} (hdg : decode cc pc = .ok (.ifCond .lt off, 3)) {tgt : Nat} (ht : (pc : Int) + off = (tgt : Int))
    (kf : W p l e R s m args below meth c H locs cells slots Q (F0 m (pc + 3) ls rest)) : W p l e R s m args below meth c H locs cells slots Q (F0 m pc ls (.int (nI x) :: rest)) :=
  lv_if_lt hexec hb hdg ht (fun h => absurd h (nI_pos hx)) (fun _ => kf)
theorem wv_if_ge (hexec : p.tables.exec = Jvm.exec) (hb : c.code = cc) {x : Nat} (hx : x < 2 ^ 31) {off : Int} {tgt : Nat} (hdg : decode cc pc = .ok (.ifCond .ge off, 3)) (ht : (pc : Int) + off = (tgt : Int))
    (kt : W p l e R s m args below meth c H locs cells slots Q (F0 m tgt ls rest)) : W p l e R s m args below meth c H locs cells slots Q (F0 m pc ls (.int (nI x) :: rest)) :=
  lv_if_ge hexec hb hdg ht (fun _ => kt) (fun h => absurd (nI_pos' hx) h)
-- two longs compared, and the branch behind
theorem wk_lc (x y : Int64) : (lg_cmp x y = 0 ↔ x = y) ∧ (lg_cmp x y < 0 ↔ x < y) ∧ (0 < lg_cmp x y ↔ y < x) ∧ (lg_cmp x y ≤ 0 ↔ x ≤ y) ∧ (0 ≤ lg_cmp x y ↔ y ≤ x) := by
  have key : ∀ a b : Int64, (a < b ∧ ¬ a = b ∧ ¬ b < a) ∨ (¬ a < b ∧ a = b ∧ ¬ b < a) ∨ (¬ a < b ∧ ¬ a = b ∧ b < a) := by
    intro a b
    simp only [Int64.lt_iff_toInt_lt, ← Int64.toInt_inj]
    omega
  have nle : ∀ a b : Int64, a ≤ b ↔ ¬ b < a := fun a b => by simp only [Int64.le_iff_toInt_le, Int64.lt_iff_toInt_lt]; omega
  rw [nle x y, nle y x]
  unfold lg_cmp
  rcases key x y with ⟨h1, h2, h3⟩ | ⟨h1, h2, h3⟩ | ⟨h1, h2, h3⟩
  · rw [if_neg (show ¬ x > y from h3), if_neg h2]; simp only [h1, h2, h3]; decide
  · subst h2; rw [if_neg (show ¬ x > x from h3), if_pos rfl]; simp only [h1]; decide
  · rw [if_pos (show x > y from h3)]; simp only [h1, h2, h3]; decide
theorem wv_lc_ne (hexec : p.tables.exec = Jvm.exec) (hb : c.code = cc) {x y : Int64} (hd1 : decode cc pc = .ok (.lcmp, 1)) {off : Int} {tgt : Nat} (hdg : decode cc (pc + 1) = .ok (.ifCond .ne off, 3)) (ht : ((pc + 1 : Nat) : Int) + off = (tgt : Int))
    (kt : x ≠ y → W p l e R s m args below meth c H locs cells slots Q (F0 m tgt ls rest)) (kf : x = y → W p l e R s m args below meth c H locs cells slots Q (F0 m (pc + 1 + 3) ls rest)) : W p l e R s m args below meth c H locs cells slots Q (F0 m pc ls (.long y :: .long x :: rest)) :=
  W.lcmp hexec hb hd1 (lv_if_ne hexec hb hdg ht (fun h => kt (fun z => h ((wk_lc x y).1.mpr z))) (fun h => kf ((wk_lc x y).1.mp h)))
theorem wv_lc_eq (hexec : p.tables.exec = Jvm.exec) (hb : c.code = cc) {x y : Int64} (hd1 : decode cc pc = .ok (.lcmp, 1)) {off : Int} {tgt : Nat} (hdg : decode cc (pc + 1) = .ok (.ifCond .eq off, 3)) (ht : ((pc + 1 : Nat) : Int) + off = (tgt : Int))
    (kt : x = y → W p l e R s m args below meth c H locs cells slots Q (F0 m tgt ls rest)) (kf : x ≠ y → W p l e R s m args below meth c H locs cells slots Q (F0 m (pc + 1 + 3) ls rest)) : W p l e R s m args below meth c H locs cells slots Q (F0 m pc ls (.long y :: .long x :: rest)) :=
  W.lcmp hexec hb hd1 (lv_if_eq hexec hb hdg ht (fun h => kt ((wk_lc x y).1.mp h)) (fun h => kf (fun z => h ((wk_lc x y).1.mpr z))))
theorem wv_lc_ge (hexec : p.tables.exec = Jvm.exec) (hb : c.code = cc) {x y : Int64} (hd1 : decode cc pc = .ok (.lcmp, 1)) {off : Int} {tgt : Nat} (hdg : decode cc (pc + 1) = .ok (.ifCond .ge off, 3)) (ht : ((pc + 1 : Nat) : Int) + off = (tgt : Int))
    (kt : y ≤ x → W p l e R s m args below meth c H locs cells slots Q (F0 m tgt ls rest)) (kf : ¬ y ≤ x → W p l e R s m args below meth c H locs cells slots Q (F0 m (pc + 1 + 3) ls rest)) : W p l e R s m args below meth c H locs cells slots Q (F0 m pc ls (.long y :: .long x :: rest)) :=
  W.lcmp hexec hb hd1 (lv_if_ge hexec hb hdg ht (fun h => kt ((wk_lc x y).2.2.2.2.mp h)) (fun h => kf (fun z => h ((wk_lc x y).2.2.2.2.mpr z))))
theorem wv_lc_le (hexec : p.tables.exec = Jvm.exec) (hb : c.code = cc) {x y : Int64} (hd1 : decode cc pc = .ok (.lcmp, 1)) {off : Int} {tgt : Nat} (hdg : decode cc (pc + 1) = .ok (.ifCond .le off, 3)) (ht : ((pc + 1 : Nat) : Int) + off = (tgt : Int))
    (kt : x ≤ y → W p l e R s m args below meth c H locs cells slots Q (F0 m tgt ls rest)) (kf : ¬ x ≤ y → W p l e R s m args below meth c H locs cells slots Q (F0 m (pc + 1 + 3) ls rest)) : W p l e R s m args below meth c H locs cells slots Q (F0 m pc ls (.long y :: .long x :: rest)) :=
  W.lcmp hexec hb hd1 (lv_if_le hexec hb hdg ht (fun h => kt ((wk_lc x y).2.2.2.1.mp h)) (fun h => kf (fun z => h ((wk_lc x y).2.2.2.1.mpr z))))
theorem wv_lc_lt (hexec : p.tables.exec = Jvm.exec) (hb : c.code = cc) {x y : Int64} (hd1 : decode cc pc = .ok (.lcmp, 1)) {off : Int} {tgt : Nat} (hdg : decode cc (pc + 1) = .ok (.ifCond .lt off, 3)) (ht : ((pc + 1 : Nat) : Int) + off = (tgt : Int))
    (kt : x < y → W p l e R s m args below meth c H locs cells slots Q (F0 m tgt ls rest)) (kf : ¬ x < y → W p l e R s m args below meth c H locs cells slots Q (F0 m (pc + 1 + 3) ls rest)) : W p l e R s m args below meth c H locs cells slots Q (F0 m pc ls (.long y :: .long x :: rest)) :=
  W.lcmp hexec hb hd1 (lv_if_lt hexec hb hdg ht (fun h => kt ((wk_lc x y).2.1.mp h)) (fun h => kf (fun z => h ((wk_lc x y).2.1.mpr z))))
theorem wv_lc_gt (hexec : p.tables.exec = Jvm.exec) (hb : c.code = cc) {x y : Int64} (hd1 : decode cc pc = .ok (.lcmp, 1)) {off : Int} {tgt : Nat} (hdg : decode cc (pc + 1) = .ok (.ifCond .gt off, 3)) (ht : ((pc + 1 : Nat) : Int) + off = (tgt : Int))
    (kt : y < x → W p l e R s m args below meth c H locs cells slots Q (F0 m tgt ls rest)) (kf : ¬ y < x → W p l e R s m args below meth c H locs cells slots Q (F0 m (pc + 1 + 3) ls rest)) : W p l e R s m args below meth c H locs cells slots Q (F0 m pc ls (.long y :: .long x :: rest)) :=
  W.lcmp hexec hb hd1 (lv_if_gt hexec hb hdg ht (fun h => kt ((wk_lc x y).2.2.1.mp h)) (fun h => kf (fun z => h ((wk_lc x y).2.2.1.mpr z))))
-- rows of ints and longs at a counted place
theorem wv_iald (hexec : p.tables.exec = Jvm.exec) (hb : c.code = cc) (hK : va_K D cl tys s) (hP : va_P D cl ws H) (q0 t0 : Nat) {cA : ClassId} {n : Nat} {f : Nat → Int32} (ha : ws[q0]? = some (a, .inl (cA, n, .inl f))) (ht : tys[t0]? = some (cA, .int)) {k : Nat} (hk : k < n) (hn : n < 2 ^ 31) (hdg : decode cc pc = .ok (.iaload, 1))
    (kk : W p l e R s m args below meth c H locs cells slots Q (F0 m (pc + 1) ls (.int (f k) :: rest))) : W p l e R s m args below meth c H locs cells slots Q (F0 m pc ls (.int (nI k) :: .ref a :: rest)) :=
  va_iald hexec hb hK hP q0 t0 ha ht (vp_in_nI hk hn) hdg (by rw [nI_clamp (by omega)]; exact kk)
theorem wv_bald (hexec : p.tables.exec = Jvm.exec) (hb : c.code = cc) (hK : va_K D cl tys s) (hP : va_P D cl ws H) (q0 t0 : Nat) {cA : ClassId} {n : Nat} {f : Nat → Int32} (ha : ws[q0]? = some (a, .inl (cA, n, .inl f))) (ht : tys[t0]? = some (cA, .byte)) {k : Nat} (hk : k < n) (hn : n < 2 ^ 31) (hdg : decode cc pc = .ok (.baload, 1))
    (kk : W p l e R s m args below meth c H locs cells slots Q (F0 m (pc + 1) ls (.int (f k) :: rest))) : W p l e R s m args below meth c H locs cells slots Q (F0 m pc ls (.int (nI k) :: .ref a :: rest)) :=
  va_bald hexec hb hK hP q0 t0 ha ht (vp_in_nI hk hn) hdg (by rw [nI_clamp (by omega)]; exact kk)
theorem wv_lald (hexec : p.tables.exec = Jvm.exec) (hb : c.code = cc) (hK : va_K D cl tys s) (hP : va_P D cl ws H) (q0 t0 : Nat) {cA : ClassId} {n : Nat} {f : Nat → Int64} (ha : ws[q0]? = some (a, .inl (cA, n, .inr (.inl f)))) (ht : tys[t0]? = some (cA, .long)) {k : Nat} (hk : k < n) (hn : n < 2 ^ 31) (hdg : decode cc pc = .ok (.laload, 1))
    (kk : W p l e R s m args below meth c H locs cells slots Q (F0 m (pc + 1) ls (.long (f k) :: rest))) : W p l e R s m args below meth c H locs cells slots Q (F0 m pc ls (.int (nI k) :: .ref a :: rest)) :=
  va_lald hexec hb hK hP q0 t0 ha ht (vp_in_nI hk hn) hdg (by rw [nI_clamp (by omega)]; exact kk)
theorem wv_iast (hexec : p.tables.exec = Jvm.exec) (hb : c.code = cc) (hK : va_K D cl tys s) (hP : va_P D cl ws H) (hD : va_D A ws) (hS : va_S A H0 H locs) (q0 t0 : Nat) {cA : ClassId} {n : Nat} {f : Nat → Int32} (ha : ws[q0]? = some (a, .inl (cA, n, .inl f))) (ht : tys[t0]? = some (cA, .int)) {k : Nat} {x : Int32} (hk : k < n) (hn : n < 2 ^ 31) (hdg : decode cc pc = .ok (.iastore, 1))
    (kk : ∀ (H1 : Heap) (locs1 : List Loc), va_P D cl (ws.set q0 (a, .inl (cA, n, .inl (upd f k x)))) H1 → va_D A (ws.set q0 (a, .inl (cA, n, .inl (upd f k x)))) → va_S A H0 H1 locs1 → W p l e R s m args below meth c H1 locs1 cells slots Q (F0 m (pc + 1) ls rest)) : W p l e R s m args below meth c H locs cells slots Q (F0 m pc ls (.int x :: .int (nI k) :: .ref a :: rest)) :=
  va_iast hexec hb hK hP hD hS q0 t0 ha ht (vp_in_nI hk hn) hdg (by rw [nI_clamp (by omega)]; exact kk)
theorem wv_last (hexec : p.tables.exec = Jvm.exec) (hb : c.code = cc) (hK : va_K D cl tys s) (hP : va_P D cl ws H) (hD : va_D A ws) (hS : va_S A H0 H locs) (q0 t0 : Nat) {cA : ClassId} {n : Nat} {f : Nat → Int64} (ha : ws[q0]? = some (a, .inl (cA, n, .inr (.inl f)))) (ht : tys[t0]? = some (cA, .long)) {k : Nat} {x : Int64} (hk : k < n) (hn : n < 2 ^ 31) (hdg : decode cc pc = .ok (.lastore, 1))
    (kk : ∀ (H1 : Heap) (locs1 : List Loc), va_P D cl (ws.set q0 (a, .inl (cA, n, .inr (.inl (vp_updL f k x))))) H1 → va_D A (ws.set q0 (a, .inl (cA, n, .inr (.inl (vp_updL f k x))))) → va_S A H0 H1 locs1 → W p l e R s m args below meth c H1 locs1 cells slots Q (F0 m (pc + 1) ls rest)) : W p l e R s m args below meth c H locs cells slots Q (F0 m pc ls (.long x :: .int (nI k) :: .ref a :: rest)) :=
  va_last hexec hb hK hP hD hS q0 t0 ha ht (vp_in_nI hk hn) hdg (by rw [nI_clamp (by omega)]; exact kk)
-- ends
theorem wv_iretP {ans v : Int32} (hexec : p.tables.exec = Jvm.exec) (hb : c.code = cc) (hr : meth.sig.returnType = some .int) (hlocks : meth.locks = false) (hS : va_S (va_A [] s.heap.size) s.heap H locs) (hans : v = ans) (hdg : decode cc pc = .ok (.ireturn, 1)) : W p l e R s m args below meth c H locs 0 0 (ZPi below args s ans) (F0 m pc ls [.int v]) :=
  W.iret hexec hb hr (fun t ht _ => ⟨⟨v, (), rfl, hans, trivial⟩, hS.F ht⟩) hS.2.2 hdg hlocks
theorem wv_zretP {ans v : Int32} {b : Bool} (hexec : p.tables.exec = Jvm.exec) (hb : c.code = cc) (hr : meth.sig.returnType = some .boolean) (hlocks : meth.locks = false) (hS : va_S (va_A [] s.heap.size) s.heap H locs) (hv : v = bI b) (hans : v = ans) (hdg : decode cc pc = .ok (.ireturn, 1)) : W p l e R s m args below meth c H locs 0 0 (ZPi below args s ans) (F0 m pc ls [.int v]) :=
  W.zret hexec hb hr (by rw [hv]; exact bI_nar b) (fun t ht _ => ⟨⟨v, (), rfl, hans, trivial⟩, hS.F ht⟩) hS.2.2 hdg hlocks
theorem wv_lretP {ans v : Int64} (hexec : p.tables.exec = Jvm.exec) (hb : c.code = cc) (hr : meth.sig.returnType = some .long) (hlocks : meth.locks = false) (hS : va_S (va_A [] s.heap.size) s.heap H locs) (hans : v = ans) (hdg : decode cc pc = .ok (.lreturn, 1)) : W p l e R s m args below meth c H locs 0 0 (ZPl below args s ans) (F0 m pc ls [.long v]) :=
  W.lret hexec hb hr (fun t ht _ => ⟨⟨v, (), rfl, hans, trivial⟩, hS.F ht⟩) hS.2.2 hdg hlocks
theorem wv_iretM {ans v : Int32} {wc w1 : va_W} (hexec : p.tables.exec = Jvm.exec) (hb : c.code = cc) (hr : meth.sig.returnType = some .int) (hlocks : meth.locks = false) (hP : va_P D vwCl ws H) (hD : va_D (va_A wc s.heap.size) ws) (hS : va_S (va_A wc s.heap.size) s.heap H locs) (hans : v = ans) (hw : ws = w1) (hdg : decode cc pc = .ok (.ireturn, 1)) : W p l e R s m args below meth c H locs 0 0 (ZMi below args s D wc ans w1) (F0 m pc ls [.int v]) :=
  W.iret hexec hb hr (fun t ht _ => ⟨⟨v, (), rfl, hans, by rw [ht, ← hw]; exact hP, by rw [← hw]; exact hD⟩, hS.F ht⟩) hS.2.2 hdg hlocks
theorem wv_zretM {ans v : Int32} {b : Bool} {wc w1 : va_W} (hexec : p.tables.exec = Jvm.exec) (hb : c.code = cc) (hr : meth.sig.returnType = some .boolean) (hlocks : meth.locks = false) (hP : va_P D vwCl ws H) (hD : va_D (va_A wc s.heap.size) ws) (hS : va_S (va_A wc s.heap.size) s.heap H locs) (hv : v = bI b) (hans : v = ans) (hw : ws = w1) (hdg : decode cc pc = .ok (.ireturn, 1)) : W p l e R s m args below meth c H locs 0 0 (ZMi below args s D wc ans w1) (F0 m pc ls [.int v]) :=
  W.zret hexec hb hr (by rw [hv]; exact bI_nar b) (fun t ht _ => ⟨⟨v, (), rfl, hans, by rw [ht, ← hw]; exact hP, by rw [← hw]; exact hD⟩, hS.F ht⟩) hS.2.2 hdg hlocks
theorem wv_lretM {ans v : Int64} {wc w1 : va_W} (hexec : p.tables.exec = Jvm.exec) (hb : c.code = cc) (hr : meth.sig.returnType = some .long) (hlocks : meth.locks = false) (hP : va_P D vwCl ws H) (hD : va_D (va_A wc s.heap.size) ws) (hS : va_S (va_A wc s.heap.size) s.heap H locs) (hans : v = ans) (hw : ws = w1) (hdg : decode cc pc = .ok (.lreturn, 1)) : W p l e R s m args below meth c H locs 0 0 (ZMl below args s D wc ans w1) (F0 m pc ls [.long v]) :=
  W.lret hexec hb hr (fun t ht _ => ⟨⟨v, (), rfl, hans, by rw [ht, ← hw]; exact hP, by rw [← hw]; exact hD⟩, hS.F ht⟩) hS.2.2 hdg hlocks
theorem wv_vretM {wc w1 : va_W} (hexec : p.tables.exec = Jvm.exec) (hb : c.code = cc) (hr : meth.sig.returnType = none) (hlocks : meth.locks = false) (hP : va_P D vwCl ws H) (hD : va_D (va_A wc s.heap.size) ws) (hS : va_S (va_A wc s.heap.size) s.heap H locs) (hw : ws = w1) (hdg : decode cc pc = .ok (.return_, 1)) : W p l e R s m args below meth c H locs 0 0 (ZMv below args s D wc w1) (F0 m pc ls []) :=
  W.vret hexec hb hr (fun t ht _ => ⟨⟨(), rfl, trivial, by rw [ht, ← hw]; exact hP, by rw [← hw]; exact hD⟩, hS.F ht⟩) hS.2.2 hdg hlocks
-- calls
theorem wk_keep {H1 : Heap} (hP : va_P D cl ws H) (hk : ∀ q : Nat, q < H.size → ¬ va_A [] H.size q → H1[q]? = H[q]?) : va_P D cl ws H1 :=
  hP.kept fun k q hq => hk q.1 ((hP k q hq).lt) (fun z => by
    rcases z with ⟨i, x, hi⟩ | z
    · simp at hi
    · exact absurd z (Nat.not_le.mpr ((hP k q hq).lt)))
theorem wk_ne {q n : Nat} (h : va_A [] n q) : n ≤ q := by
  rcases h with ⟨i, x, hi⟩ | h
  · simp at hi
  · exact h
theorem wk_blP {As : List Value} {wc : va_W} {tc : List (ClassId × FieldType)} {sz : Nat} : FrameBlind (va_Pc As (fun U => U.heap.size = sz ∧ va_P D cl wc U.heap ∧ va_K D cl tc U ∧ NWs U)) :=
  fun a U g mk q => by obtain ⟨q0, q1, qP, qK, qN⟩ := q; exact ⟨q0, q1, qP, va_K.moved (u := U) (U := U.calling g mk a) (Vm.Alike.refl U.vm) qK, qN.same (u := U) (U := U.calling g mk a) rfl⟩
theorem wk_blM {As : List Value} {wc : va_W} {tc : List (ClassId × FieldType)} {sz : Nat} : FrameBlind (va_Pc As (fun U => U.heap.size = sz ∧ va_P D cl wc U.heap ∧ va_K D cl tc U ∧ NWs U ∧ va_D (fun _ => True) wc)) :=
  fun a U g mk q => by obtain ⟨q0, q1, qP, qK, qN, qD⟩ := q; exact ⟨q0, q1, qP, va_K.moved (u := U) (U := U.calling g mk a) (Vm.Alike.refl U.vm) qK, qN.same (u := U) (U := U.calling g mk a) rfl, qD⟩
theorem wk_preP {C : String} {b q0 ci : Nat} {r : vw_C} {fs : List Value} {As : List Value} {wc : va_W} {tc : List (ClassId × FieldType)} (hK : va_K D cl tys s) (hP : va_P D cl ws H) (hc : cl[ci]? = some r) (hC : r.1 = C) (he : ws[q0]? = some (b, .inr (ci, fs))) (hPc : va_P D cl wc H) (hKc : va_K D cl tc s) (hN : NWs s) : PreV s H C b (va_Pc (.ref b :: As) (fun U => U.heap.size = H.size ∧ va_P D cl wc U.heap ∧ va_K D cl tc U ∧ NWs U)) As := by
  subst hC
  exact ⟨wk_blP, va_recv hK hP hc he, fun U hU hW => ⟨rfl, by rw [hU], by rw [hU]; exact hPc, va_K.moved hW.alike hKc, hN.warm hW⟩⟩
theorem wk_preM {C : String} {b q0 ci : Nat} {r : vw_C} {fs : List Value} {As : List Value} {wc : va_W} {tc : List (ClassId × FieldType)} (hK : va_K D cl tys s) (hP : va_P D cl ws H) (hc : cl[ci]? = some r) (hC : r.1 = C) (he : ws[q0]? = some (b, .inr (ci, fs))) (hPc : va_P D cl wc H) (hKc : va_K D cl tc s) (hN : NWs s) (hDc : va_D (fun _ => True) wc) : PreV s H C b (va_Pc (.ref b :: As) (fun U => U.heap.size = H.size ∧ va_P D cl wc U.heap ∧ va_K D cl tc U ∧ NWs U ∧ va_D (fun _ => True) wc)) As := by
  subst hC
  exact ⟨wk_blM, va_recv hK hP hc he, fun U hU hW => ⟨rfl, by rw [hU], by rw [hU]; exact hPc, va_K.moved hW.alike hKc, hN.warm hW, hDc⟩⟩
/-- a pure call, int -/
theorem wv_callPi {y : MethodName} {bytes : ByteArray} {maxL nL n index : Nat} {ret : Option FieldType} {wy : List Cond} {rm : Room} {Ts : List Cond} {own C : String} {b : Nat} {As : List Value} {wc : va_W} {tc : List (ClassId × FieldType)} {ans : Int32} (S : CallFix p m c cc nL s args Ts own) (hM : PMi l y wy rm (.ref b :: As) D wc tc ans) (cw : CallW R s args own C index y bytes maxL ret wy rm 0 0 n)
    (hK : va_K D vwCl tys s) (hN : NWs s) (hP : va_P D vwCl ws H) (hS : va_S A H0 H locs) (hA : ∀ q, H0.size ≤ q → A q) (isC isT : List Nat) (hC : isC.filterMap (fun i => ws[i]?) = wc) (hT : isT.filterMap (fun i => tys[i]?) = tc) (q0 ci : Nat) {r : vw_C} {fs : List Value} (hc : vwCl[ci]? = some r) (hCn : r.1 = C) (he : ws[q0]? = some (b, .inr (ci, fs)))
    (hn : As.length = n) (hsize : ls.size = nL) (hst : st0 = As.reverse ++ .ref b :: rest) (hW : (rest.map fun v => v.category).sum ≤ 8) (hdg : decode cc pc = .ok (.invokevirtual index, 3)) (hf : cells ≤ R.cells ∧ slots ≤ R.slots)
    (kk : ∀ (H1 : Heap) (locs1 : List Loc), H.size ≤ H1.size → va_P D vwCl ws H1 → va_S A H0 H1 locs1 → W p l e R s m args below meth c H1 locs1 cells slots Q (F0 m (pc + 3) ls (.int ans :: rest))) : W p l e R s m args below meth c H locs cells slots Q (F0 m pc ls st0) := by
  have hfr : ∀ q, va_A [] H.size q → A q := fun q h => hA q (Nat.le_trans hS.1 (wk_ne h))
  refine va_calli (va_runV (As := As) (rest := rest) (g := F0 m pc ls st0) S (hM H.size) cw (wk_preP hK hP hc hCn he (hP.sub isC hC) (hK.sub isT hT) hN) rfl hn hsize hst (lv_room hW) hdg hf) hS (fun q _ h => hfr q h) hfr (fun r u t H1 locs1 _ _ hw _ hz hk hS1 => ?_)
  subst hw
  exact kk H1 locs1 hz (wk_keep hP hk) hS1
/-- a pure call, long -/
theorem wv_callPl {y : MethodName} {bytes : ByteArray} {maxL nL n index : Nat} {ret : Option FieldType} {wy : List Cond} {rm : Room} {Ts : List Cond} {own C : String} {b : Nat} {As : List Value} {wc : va_W} {tc : List (ClassId × FieldType)} {ans : Int64} (S : CallFix p m c cc nL s args Ts own) (hM : PMl l y wy rm (.ref b :: As) D wc tc ans) (cw : CallW R s args own C index y bytes maxL ret wy rm 0 0 n)
    (hK : va_K D vwCl tys s) (hN : NWs s) (hP : va_P D vwCl ws H) (hS : va_S A H0 H locs) (hA : ∀ q, H0.size ≤ q → A q) (isC isT : List Nat) (hC : isC.filterMap (fun i => ws[i]?) = wc) (hT : isT.filterMap (fun i => tys[i]?) = tc) (q0 ci : Nat) {r : vw_C} {fs : List Value} (hc : vwCl[ci]? = some r) (hCn : r.1 = C) (he : ws[q0]? = some (b, .inr (ci, fs)))
    (hn : As.length = n) (hsize : ls.size = nL) (hst : st0 = As.reverse ++ .ref b :: rest) (hW : (rest.map fun v => v.category).sum ≤ 8) (hdg : decode cc pc = .ok (.invokevirtual index, 3)) (hf : cells ≤ R.cells ∧ slots ≤ R.slots)
    (kk : ∀ (H1 : Heap) (locs1 : List Loc), H.size ≤ H1.size → va_P D vwCl ws H1 → va_S A H0 H1 locs1 → W p l e R s m args below meth c H1 locs1 cells slots Q (F0 m (pc + 3) ls (.long ans :: rest))) : W p l e R s m args below meth c H locs cells slots Q (F0 m pc ls st0) := by
  have hfr : ∀ q, va_A [] H.size q → A q := fun q h => hA q (Nat.le_trans hS.1 (wk_ne h))
  refine va_calll (va_runV (As := As) (rest := rest) (g := F0 m pc ls st0) S (hM H.size) cw (wk_preP hK hP hc hCn he (hP.sub isC hC) (hK.sub isT hT) hN) rfl hn hsize hst (lv_room hW) hdg hf) hS (fun q _ h => hfr q h) hfr (fun r u t H1 locs1 _ _ hw _ hz hk hS1 => ?_)
  subst hw
  exact kk H1 locs1 hz (wk_keep hP hk) hS1
/-- a pure static call, int -/
theorem wv_callSi {y : MethodName} {bytes : ByteArray} {maxL nL n index : Nat} {ret : Option FieldType} {wy : List Cond} {rm : Room} {Ts : List Cond} {own : String} {As : List Value} {wc : va_W} {tc : List (ClassId × FieldType)} {ans : Int32} (S : CallFix p m c cc nL s args Ts own) (hM : PMi l y wy rm As D wc tc ans) (cw : CallB R s args own index y bytes maxL ret wy rm 0 0 n ∧ (Cond.static y).before args s = true)
    (hK : va_K D vwCl tys s) (hN : NWs s) (hP : va_P D vwCl ws H) (hS : va_S A H0 H locs) (hA : ∀ q, H0.size ≤ q → A q) (isC isT : List Nat) (hC : isC.filterMap (fun i => ws[i]?) = wc) (hT : isT.filterMap (fun i => tys[i]?) = tc)
    (hn : As.length = n) (hsize : ls.size = nL) (hst : st0 = As.reverse ++ rest) (hW : (rest.map fun v => v.category).sum ≤ 8) (hdg : decode cc pc = .ok (.invokestatic index, 3)) (hf : cells ≤ R.cells ∧ slots ≤ R.slots)
    (kk : ∀ (H1 : Heap) (locs1 : List Loc), H.size ≤ H1.size → va_P D vwCl ws H1 → va_S A H0 H1 locs1 → W p l e R s m args below meth c H1 locs1 cells slots Q (F0 m (pc + 3) ls (.int ans :: rest))) : W p l e R s m args below meth c H locs cells slots Q (F0 m pc ls st0) := by
  have hfr : ∀ q, va_A [] H.size q → A q := fun q h => hA q (Nat.le_trans hS.1 (wk_ne h))
  have hPc := hP.sub isC hC
  have hKc := hK.sub isT hT
  refine va_calli (va_runS (As := As) (rest := rest) (g := F0 m pc ls st0) S (hM H.size) cw ⟨wk_blP, fun U hU hW => ⟨rfl, by rw [hU], by rw [hU]; exact hPc, va_K.moved hW.alike hKc, hN.warm hW⟩⟩ rfl hn hsize hst (lv_room hW) hdg hf) hS (fun q _ h => hfr q h) hfr (fun r u t H1 locs1 _ _ hw _ hz hk hS1 => ?_)
  subst hw
  exact kk H1 locs1 hz (wk_keep hP hk) hS1
theorem wv_callSl {y : MethodName} {bytes : ByteArray} {maxL nL n index : Nat} {ret : Option FieldType} {wy : List Cond} {rm : Room} {Ts : List Cond} {own : String} {As : List Value} {wc : va_W} {tc : List (ClassId × FieldType)} {ans : Int64} (S : CallFix p m c cc nL s args Ts own) (hM : PMl l y wy rm As D wc tc ans) (cw : CallB R s args own index y bytes maxL ret wy rm 0 0 n ∧ (Cond.static y).before args s = true)
    (hK : va_K D vwCl tys s) (hN : NWs s) (hP : va_P D vwCl ws H) (hS : va_S A H0 H locs) (hA : ∀ q, H0.size ≤ q → A q) (isC isT : List Nat) (hC : isC.filterMap (fun i => ws[i]?) = wc) (hT : isT.filterMap (fun i => tys[i]?) = tc)
    (hn : As.length = n) (hsize : ls.size = nL) (hst : st0 = As.reverse ++ rest) (hW : (rest.map fun v => v.category).sum ≤ 8) (hdg : decode cc pc = .ok (.invokestatic index, 3)) (hf : cells ≤ R.cells ∧ slots ≤ R.slots)
    (kk : ∀ (H1 : Heap) (locs1 : List Loc), H.size ≤ H1.size → va_P D vwCl ws H1 → va_S A H0 H1 locs1 → W p l e R s m args below meth c H1 locs1 cells slots Q (F0 m (pc + 3) ls (.long ans :: rest))) : W p l e R s m args below meth c H locs cells slots Q (F0 m pc ls st0) := by
  have hfr : ∀ q, va_A [] H.size q → A q := fun q h => hA q (Nat.le_trans hS.1 (wk_ne h))
  have hPc := hP.sub isC hC
  have hKc := hK.sub isT hT
  refine va_calll (va_runS (As := As) (rest := rest) (g := F0 m pc ls st0) S (hM H.size) cw ⟨wk_blP, fun U hU hW => ⟨rfl, by rw [hU], by rw [hU]; exact hPc, va_K.moved hW.alike hKc, hN.warm hW⟩⟩ rfl hn hsize hst (lv_room hW) hdg hf) hS (fun q _ h => hfr q h) hfr (fun r u t H1 locs1 _ _ hw _ hz hk hS1 => ?_)
  subst hw
  exact kk H1 locs1 hz (wk_keep hP hk) hS1
/-- behind a call that changes its world: the caller's cells in their old order -/
theorem wk_joinO {wc wr w1 ws1 : va_W} {H1 : Heap} (hP : va_P D cl ws H) (hD : va_D A ws) (isC isR : List Nat) (hC : isC.map (fun i => ws[i]?) = wc.map some) (hR : isR.map (fun i => ws[i]?) = wr.map some) (hn : va_nd isR = true) (hdis : ∀ i ∈ isR, i ∉ isC)
    (hk : ∀ q : Nat, q < H.size → ¬ va_A wc H.size q → H1[q]? = H[q]?) (hF : ∀ q, va_A wc H.size q → A q) (hP1 : va_P D cl w1 H1) (hD1 : va_D (va_A wc H.size) w1) (pm : List Nat) (hpn : va_nd pm = true) (hpm : pm.map (fun i => (wr ++ w1)[i]?) = ws1.map some) : va_P D cl ws1 H1 ∧ va_D A ws1 := by
  obtain ⟨a1, a2⟩ := va_join hP hD isC isR hC hR hn hdis hk hF hP1 hD1
  refine ⟨a1.sub pm ?_, a2.sub pm hpn hpm⟩
  have key : ∀ (l : List Nat) (w : va_W), l.map (fun i => (wr ++ w1)[i]?) = w.map some → l.filterMap (fun i => (wr ++ w1)[i]?) = w := by
    intro l
    induction l with
    | nil => intro w h; cases w with
      | nil => rfl
      | cons x w => simp at h
    | cons i l ih => intro w h; cases w with
      | nil => simp at h
      | cons x w =>
        simp only [List.map_cons, List.cons.injEq] at h
        rw [List.filterMap_cons, h.1, ih w h.2]
  exact key pm ws1 hpm
theorem wv_callMi {y : MethodName} {bytes : ByteArray} {maxL nL n index : Nat} {ret : Option FieldType} {wy : List Cond} {rm : Room} {Ts : List Cond} {own C : String} {b : Nat} {As : List Value} {wc wr w1 ws1 : va_W} {tc : List (ClassId × FieldType)} {ans : Int32} (S : CallFix p m c cc nL s args Ts own) (hM : MMi l y wy rm (.ref b :: As) D wc tc ans w1) (cw : CallW R s args own C index y bytes maxL ret wy rm 0 0 n)
    (hK : va_K D vwCl tys s) (hN : NWs s) (hP : va_P D vwCl ws H) (hD : va_D A ws) (hS : va_S A H0 H locs) (hA : ∀ q, H0.size ≤ q → A q) (isC isR isT pm : List Nat) (hC : isC.map (fun i => ws[i]?) = wc.map some) (hCf : isC.filterMap (fun i => ws[i]?) = wc) (hCn' : va_nd isC = true) (hR : isR.map (fun i => ws[i]?) = wr.map some) (hnR : va_nd isR = true) (hdis : ∀ i ∈ isR, i ∉ isC) (hT : isT.filterMap (fun i => tys[i]?) = tc) (hpn : va_nd pm = true) (hpm : pm.map (fun i => (wr ++ w1)[i]?) = ws1.map some) (q0 ci : Nat) {r : vw_C} {fs : List Value} (hc : vwCl[ci]? = some r) (hCn : r.1 = C) (he : ws[q0]? = some (b, .inr (ci, fs)))
    (hn : As.length = n) (hsize : ls.size = nL) (hst : st0 = As.reverse ++ .ref b :: rest) (hW : (rest.map fun v => v.category).sum ≤ 8) (hdg : decode cc pc = .ok (.invokevirtual index, 3)) (hf : cells ≤ R.cells ∧ slots ≤ R.slots)
    (kk : ∀ (H1 : Heap) (locs1 : List Loc), H.size ≤ H1.size → va_P D vwCl ws1 H1 → va_D A ws1 → va_S A H0 H1 locs1 → W p l e R s m args below meth c H1 locs1 cells slots Q (F0 m (pc + 3) ls (.int ans :: rest))) : W p l e R s m args below meth c H locs cells slots Q (F0 m pc ls st0) := by
  have hfr := va_free (wc := wc) hD hS hA isC hC
  refine va_calli (va_runV (As := As) (rest := rest) (g := F0 m pc ls st0) S (hM H.size) cw (wk_preM hK hP hc hCn he (hP.sub isC hCf) (hK.sub isT hT) hN ((hD.sub isC hCn' hC).weaken (fun _ _ _ _ => trivial))) rfl hn hsize hst (lv_room hW) hdg hf) hS (fun q _ h => hfr q h) hfr (fun r u t H1 locs1 ht _ hw hB hz hk hS1 => ?_)
  subst hw
  obtain ⟨hP1, hD1⟩ := hB
  rw [ht] at hP1
  obtain ⟨g1, g2⟩ := wk_joinO hP hD isC isR hC hR hnR hdis hk hfr hP1 hD1 pm hpn hpm
  exact kk H1 locs1 hz g1 g2 hS1
theorem wv_callMl {y : MethodName} {bytes : ByteArray} {maxL nL n index : Nat} {ret : Option FieldType} {wy : List Cond} {rm : Room} {Ts : List Cond} {own C : String} {b : Nat} {As : List Value} {wc wr w1 ws1 : va_W} {tc : List (ClassId × FieldType)} {ans : Int64} (S : CallFix p m c cc nL s args Ts own) (hM : MMl l y wy rm (.ref b :: As) D wc tc ans w1) (cw : CallW R s args own C index y bytes maxL ret wy rm 0 0 n)
    (hK : va_K D vwCl tys s) (hN : NWs s) (hP : va_P D vwCl ws H) (hD : va_D A ws) (hS : va_S A H0 H locs) (hA : ∀ q, H0.size ≤ q → A q) (isC isR isT pm : List Nat) (hC : isC.map (fun i => ws[i]?) = wc.map some) (hCf : isC.filterMap (fun i => ws[i]?) = wc) (hCn' : va_nd isC = true) (hR : isR.map (fun i => ws[i]?) = wr.map some) (hnR : va_nd isR = true) (hdis : ∀ i ∈ isR, i ∉ isC) (hT : isT.filterMap (fun i => tys[i]?) = tc) (hpn : va_nd pm = true) (hpm : pm.map (fun i => (wr ++ w1)[i]?) = ws1.map some) (q0 ci : Nat) {r : vw_C} {fs : List Value} (hc : vwCl[ci]? = some r) (hCn : r.1 = C) (he : ws[q0]? = some (b, .inr (ci, fs)))
    (hn : As.length = n) (hsize : ls.size = nL) (hst : st0 = As.reverse ++ .ref b :: rest) (hW : (rest.map fun v => v.category).sum ≤ 8) (hdg : decode cc pc = .ok (.invokevirtual index, 3)) (hf : cells ≤ R.cells ∧ slots ≤ R.slots)
    (kk : ∀ (H1 : Heap) (locs1 : List Loc), H.size ≤ H1.size → va_P D vwCl ws1 H1 → va_D A ws1 → va_S A H0 H1 locs1 → W p l e R s m args below meth c H1 locs1 cells slots Q (F0 m (pc + 3) ls (.long ans :: rest))) : W p l e R s m args below meth c H locs cells slots Q (F0 m pc ls st0) := by
  have hfr := va_free (wc := wc) hD hS hA isC hC
  refine va_calll (va_runV (As := As) (rest := rest) (g := F0 m pc ls st0) S (hM H.size) cw (wk_preM hK hP hc hCn he (hP.sub isC hCf) (hK.sub isT hT) hN ((hD.sub isC hCn' hC).weaken (fun _ _ _ _ => trivial))) rfl hn hsize hst (lv_room hW) hdg hf) hS (fun q _ h => hfr q h) hfr (fun r u t H1 locs1 ht _ hw hB hz hk hS1 => ?_)
  subst hw
  obtain ⟨hP1, hD1⟩ := hB
  rw [ht] at hP1
  obtain ⟨g1, g2⟩ := wk_joinO hP hD isC isR hC hR hnR hdis hk hfr hP1 hD1 pm hpn hpm
  exact kk H1 locs1 hz g1 g2 hS1
theorem wv_callMv {y : MethodName} {bytes : ByteArray} {maxL nL n index : Nat} {ret : Option FieldType} {wy : List Cond} {rm : Room} {Ts : List Cond} {own C : String} {b : Nat} {As : List Value} {wc wr w1 ws1 : va_W} {tc : List (ClassId × FieldType)} (S : CallFix p m c cc nL s args Ts own) (hM : MMv l y wy rm (.ref b :: As) D wc tc w1) (cw : CallW R s args own C index y bytes maxL ret wy rm 0 0 n)
    (hK : va_K D vwCl tys s) (hN : NWs s) (hP : va_P D vwCl ws H) (hD : va_D A ws) (hS : va_S A H0 H locs) (hA : ∀ q, H0.size ≤ q → A q) (isC isR isT pm : List Nat) (hC : isC.map (fun i => ws[i]?) = wc.map some) (hCf : isC.filterMap (fun i => ws[i]?) = wc) (hCn' : va_nd isC = true) (hR : isR.map (fun i => ws[i]?) = wr.map some) (hnR : va_nd isR = true) (hdis : ∀ i ∈ isR, i ∉ isC) (hT : isT.filterMap (fun i => tys[i]?) = tc) (hpn : va_nd pm = true) (hpm : pm.map (fun i => (wr ++ w1)[i]?) = ws1.map some) (q0 ci : Nat) {r : vw_C} {fs : List Value} (hc : vwCl[ci]? = some r) (hCn : r.1 = C) (he : ws[q0]? = some (b, .inr (ci, fs)))
    (hn : As.length = n) (hsize : ls.size = nL) (hst : st0 = As.reverse ++ .ref b :: rest) (hW : (rest.map fun v => v.category).sum ≤ 8) (hdg : decode cc pc = .ok (.invokevirtual index, 3)) (hf : cells ≤ R.cells ∧ slots ≤ R.slots)
    (kk : ∀ (H1 : Heap) (locs1 : List Loc), H.size ≤ H1.size → va_P D vwCl ws1 H1 → va_D A ws1 → va_S A H0 H1 locs1 → W p l e R s m args below meth c H1 locs1 cells slots Q (F0 m (pc + 3) ls rest)) : W p l e R s m args below meth c H locs cells slots Q (F0 m pc ls st0) := by
  have hfr := va_free (wc := wc) hD hS hA isC hC
  refine va_callv (va_runV (As := As) (rest := rest) (g := F0 m pc ls st0) S (hM H.size) cw (wk_preM hK hP hc hCn he (hP.sub isC hCf) (hK.sub isT hT) hN ((hD.sub isC hCn' hC).weaken (fun _ _ _ _ => trivial))) rfl hn hsize hst (lv_room hW) hdg hf) hS (fun q _ h => hfr q h) hfr (fun u t H1 locs1 ht _ hw hB hz hk hS1 => ?_)
  obtain ⟨hP1, hD1⟩ := hB
  rw [ht] at hP1
  obtain ⟨g1, g2⟩ := wk_joinO hP hD isC isR hC hR hnR hdis hk hfr hP1 hD1 pm hpn hpm
  exact kk H1 locs1 hz g1 g2 hS1
end WK
