/-! The model: its array of longs by its components; compares of counted longs. -/
def bL (b : Bool) : Int64 := if b then lN 1 else lN 0
def sM (n b : Nat) (fl me : Bool) (st lk cm : Int64) (v nu : Nat → Int64) : Nat → Int64 := fun i => if i = 0 then lN n else if i = 1 then lN b else if i = 2 then bL fl else if i = 3 then bL me else if i = 4 then st else if i = 5 then lk else if i = 6 then cm else if i < 39 then v (i - 7) else if i < 71 then nu (i - 39) else 0
theorem bL_1 {b : Bool} : bL b = lN 1 ↔ b = true := by cases b <;> decide
theorem bL_i (b : Bool) : (bL b).toInt32 = bI b := by cases b <;> decide
theorem bL_t : lN 1 = bL true := rfl
theorem bL_f : lN 0 = bL false := rfl
section SM
variable {n b : Nat} {fl me : Bool} {st lk cm : Int64} {v nu : Nat → Int64}
theorem sM_0 : sM n b fl me st lk cm v nu 0 = lN n := rfl
theorem sM_1 : sM n b fl me st lk cm v nu 1 = lN b := rfl
theorem sM_2 : sM n b fl me st lk cm v nu 2 = bL fl := rfl
theorem sM_3 : sM n b fl me st lk cm v nu 3 = bL me := rfl
theorem sM_4 : sM n b fl me st lk cm v nu 4 = st := rfl
theorem sM_5 : sM n b fl me st lk cm v nu 5 = lk := rfl
theorem sM_6 : sM n b fl me st lk cm v nu 6 = cm := rfl
theorem sM_v {i k : Nat} (h : i = 7 + k) (hk : k < 32) : sM n b fl me st lk cm v nu i = v k := by
  subst h; unfold sM
  rw [if_neg (by omega), if_neg (by omega), if_neg (by omega), if_neg (by omega), if_neg (by omega), if_neg (by omega), if_neg (by omega), if_pos (by omega)]
  congr 1; omega
theorem sM_n {i k : Nat} (h : i = 39 + k) (hk : k < 32) : sM n b fl me st lk cm v nu i = nu k := by
  subst h; unfold sM
  rw [if_neg (by omega), if_neg (by omega), if_neg (by omega), if_neg (by omega), if_neg (by omega), if_neg (by omega), if_neg (by omega), if_neg (by omega), if_pos (by omega)]
  congr 1; omega
theorem of_0 : (sM n b fl me st lk cm v nu 0).toInt32 = nI n := lN_i n
theorem of_1 : (sM n b fl me st lk cm v nu 1).toInt32 = nI b := lN_i b
theorem of_2 : (sM n b fl me st lk cm v nu 2).toInt32 = bI fl := bL_i fl
theorem of_3 : (sM n b fl me st lk cm v nu 3).toInt32 = bI me := bL_i me
theorem of_4 : (sM n b fl me st lk cm v nu 4).toInt32 = st.toInt32 := rfl
theorem of_5 : (sM n b fl me st lk cm v nu 5).toInt32 = lk.toInt32 := rfl
theorem of_6 : (sM n b fl me st lk cm v nu 6).toInt32 = cm.toInt32 := rfl
theorem of_n {i k : Nat} (h : i = 39 + k) (hk : k < 32) : (sM n b fl me st lk cm v nu i).toInt32 = (nu k).toInt32 := by rw [sM_n h hk]
theorem sM_u0 (x : Nat) : vp_updL (sM n b fl me st lk cm v nu) 0 (lN x) = sM x b fl me st lk cm v nu := by
  funext j; unfold vp_updL sM
  by_cases h : j = 0
  · rw [if_pos h, if_pos h]
  · rw [if_neg h, if_neg h, if_neg h]
theorem sM_u1 (x : Nat) : vp_updL (sM n b fl me st lk cm v nu) 1 (lN x) = sM n x fl me st lk cm v nu := by
  funext j; unfold vp_updL sM
  by_cases h : j = 1
  · subst h; rfl
  · rw [if_neg h, if_neg h, if_neg h]
theorem sM_u2 (x : Bool) : vp_updL (sM n b fl me st lk cm v nu) 2 (bL x) = sM n b x me st lk cm v nu := by
  funext j; unfold vp_updL sM
  by_cases h : j = 2
  · subst h; rfl
  · rw [if_neg h, if_neg h, if_neg h]
theorem sM_u3 (x : Bool) : vp_updL (sM n b fl me st lk cm v nu) 3 (bL x) = sM n b fl x st lk cm v nu := by
  funext j; unfold vp_updL sM
  by_cases h : j = 3
  · subst h; rfl
  · rw [if_neg h, if_neg h, if_neg h]
theorem sM_u4 (x : Int64) : vp_updL (sM n b fl me st lk cm v nu) 4 x = sM n b fl me x lk cm v nu := by
  funext j; unfold vp_updL sM
  by_cases h : j = 4
  · subst h; rfl
  · rw [if_neg h, if_neg h, if_neg h]
theorem sM_u5 (x : Int64) : vp_updL (sM n b fl me st lk cm v nu) 5 x = sM n b fl me st x cm v nu := by
  funext j; unfold vp_updL sM
  by_cases h : j = 5
  · subst h; rfl
  · rw [if_neg h, if_neg h, if_neg h]
theorem sM_u6 (x : Int64) : vp_updL (sM n b fl me st lk cm v nu) 6 x = sM n b fl me st lk x v nu := by
  funext j; unfold vp_updL sM
  by_cases h : j = 6
  · subst h; rfl
  · rw [if_neg h, if_neg h, if_neg h]
theorem sM_uv {i k : Nat} (x : Int64) (h : i = 7 + k) (hk : k < 32) : vp_updL (sM n b fl me st lk cm v nu) i x = sM n b fl me st lk cm (vp_updL v k x) nu := by
  subst h
  funext j
  unfold vp_updL
  by_cases h : j = 7 + k
  · rw [if_pos h, sM_v h hk, if_pos rfl]
  · rw [if_neg h]; unfold sM
    by_cases h7 : j < 7 ∨ 39 ≤ j
    · rcases h7 with h7 | h7
      · rcases (by omega : j = 0 ∨ j = 1 ∨ j = 2 ∨ j = 3 ∨ j = 4 ∨ j = 5 ∨ j = 6) with e | e | e | e | e | e | e <;> subst e <;> rfl
      · rw [if_neg (show ¬ j < 39 by omega), if_neg (show ¬ j < 39 by omega)]
    · dsimp only; rw [if_neg (show ¬ j - 7 = k by omega)]
theorem sM_un {i k : Nat} (x : Int64) (h : i = 39 + k) (hk : k < 32) : vp_updL (sM n b fl me st lk cm v nu) i x = sM n b fl me st lk cm v (vp_updL nu k x) := by
  subst h
  funext j
  unfold vp_updL
  by_cases h : j = 39 + k
  · rw [if_pos h, sM_n h hk, if_pos rfl]
  · rw [if_neg h]; unfold sM
    by_cases h7 : j < 39
    · rw [if_pos h7, if_pos h7]
    · dsimp only; rw [if_neg (show ¬ j - 39 = k by omega)]
theorem sM_out {j : Nat} (h : 71 ≤ j) : sM n b fl me st lk cm v nu j = 0 := by
  unfold sM
  rw [if_neg (by omega), if_neg (by omega), if_neg (by omega), if_neg (by omega), if_neg (by omega), if_neg (by omega), if_neg (by omega), if_neg (by omega), if_neg (by omega)]
end SM
theorem wk_il {x : Int32} {n : Nat} (hn : n < 2 ^ 31) : lN n ≤ x.toInt64 ↔ nI n ≤ x := by
  rw [Int64.le_iff_toInt_le, Int32.le_iff_toInt_le, lN_toInt hn, nI_toInt hn, Int32.toInt_toInt64]
section WKN
variable {p : Program} {l : Launch} {e : Env} {R : Room} {s : State} {m : MethodId} {args : Array Value} {below : List Frame} {meth : Method} {c : Code} {H : Heap} {locs : List Loc} {cells slots : Nat} {Q : State → Prop}
variable {cc : ByteArray} {pc : Nat} {ls : Array Slot} {rest : List Value}
theorem wv_lcN_ge (hexec : p.tables.exec = Jvm.exec) (hb : c.code = cc) {x y : Nat} (hx : x < 2 ^ 31) (hy : y < 2 ^ 31) (hd1 : decode cc pc = .ok (.lcmp, 1)) {off : Int} {tgt : Nat} (hdg : decode cc (pc + 1) = .ok (.ifCond .ge off, 3)) (ht : ((pc + 1 : Nat) : Int) + off = (tgt : Int))
    (kt : y ≤ x → W p l e R s m args below meth c H locs cells slots Q (F0 m tgt ls rest)) (kf : x < y → W p l e R s m args below meth c H locs cells slots Q (F0 m (pc + 1 + 3) ls rest)) : W p l e R s m args below meth c H locs cells slots Q (F0 m pc ls (.long (lN y) :: .long (lN x) :: rest)) :=
  wv_lc_ge hexec hb hd1 hdg ht (fun h => kt ((lN_le hy hx).mp h)) (fun h => kf (Nat.lt_of_not_le fun z => h ((lN_le hy hx).mpr z)))
theorem wv_lcN_le (hexec : p.tables.exec = Jvm.exec) (hb : c.code = cc) {x y : Nat} (hx : x < 2 ^ 31) (hy : y < 2 ^ 31) (hd1 : decode cc pc = .ok (.lcmp, 1)) {off : Int} {tgt : Nat} (hdg : decode cc (pc + 1) = .ok (.ifCond .le off, 3)) (ht : ((pc + 1 : Nat) : Int) + off = (tgt : Int))
    (kt : x ≤ y → W p l e R s m args below meth c H locs cells slots Q (F0 m tgt ls rest)) (kf : y < x → W p l e R s m args below meth c H locs cells slots Q (F0 m (pc + 1 + 3) ls rest)) : W p l e R s m args below meth c H locs cells slots Q (F0 m pc ls (.long (lN y) :: .long (lN x) :: rest)) :=
  wv_lc_le hexec hb hd1 hdg ht (fun h => kt ((lN_le hx hy).mp h)) (fun h => kf (Nat.lt_of_not_le fun z => h ((lN_le hx hy).mpr z)))
theorem wv_lcN_gt (hexec : p.tables.exec = Jvm.exec) (hb : c.code = cc) {x y : Nat} (hx : x < 2 ^ 31) (hy : y < 2 ^ 31) (hd1 : decode cc pc = .ok (.lcmp, 1)) {off : Int} {tgt : Nat} (hdg : decode cc (pc + 1) = .ok (.ifCond .gt off, 3)) (ht : ((pc + 1 : Nat) : Int) + off = (tgt : Int))
    (kt : y < x → W p l e R s m args below meth c H locs cells slots Q (F0 m tgt ls rest)) (kf : x ≤ y → W p l e R s m args below meth c H locs cells slots Q (F0 m (pc + 1 + 3) ls rest)) : W p l e R s m args below meth c H locs cells slots Q (F0 m pc ls (.long (lN y) :: .long (lN x) :: rest)) :=
  wv_lc_gt hexec hb hd1 hdg ht (fun h => kt ((lN_lt hy hx).mp h)) (fun h => kf (Nat.le_of_not_lt fun z => h ((lN_lt hy hx).mpr z)))
theorem wv_lcN_lt (hexec : p.tables.exec = Jvm.exec) (hb : c.code = cc) {x y : Nat} (hx : x < 2 ^ 31) (hy : y < 2 ^ 31) (hd1 : decode cc pc = .ok (.lcmp, 1)) {off : Int} {tgt : Nat} (hdg : decode cc (pc + 1) = .ok (.ifCond .lt off, 3)) (ht : ((pc + 1 : Nat) : Int) + off = (tgt : Int))
    (kt : x < y → W p l e R s m args below meth c H locs cells slots Q (F0 m tgt ls rest)) (kf : y ≤ x → W p l e R s m args below meth c H locs cells slots Q (F0 m (pc + 1 + 3) ls rest)) : W p l e R s m args below meth c H locs cells slots Q (F0 m pc ls (.long (lN y) :: .long (lN x) :: rest)) :=
  wv_lc_lt hexec hb hd1 hdg ht (fun h => kt ((lN_lt hx hy).mp h)) (fun h => kf (Nat.le_of_not_lt fun z => h ((lN_lt hx hy).mpr z)))
theorem wv_lcN_ne (hexec : p.tables.exec = Jvm.exec) (hb : c.code = cc) {x y : Nat} (hx : x < 2 ^ 31) (hy : y < 2 ^ 31) (hd1 : decode cc pc = .ok (.lcmp, 1)) {off : Int} {tgt : Nat} (hdg : decode cc (pc + 1) = .ok (.ifCond .ne off, 3)) (ht : ((pc + 1 : Nat) : Int) + off = (tgt : Int))
    (kt : x ≠ y → W p l e R s m args below meth c H locs cells slots Q (F0 m tgt ls rest)) (kf : x = y → W p l e R s m args below meth c H locs cells slots Q (F0 m (pc + 1 + 3) ls rest)) : W p l e R s m args below meth c H locs cells slots Q (F0 m pc ls (.long (lN y) :: .long (lN x) :: rest)) :=
  wv_lc_ne hexec hb hd1 hdg ht (fun h => kt fun z => h ((lN_eq hx hy).mpr z)) (fun h => kf ((lN_eq hx hy).mp h))
end WKN
theorem dst_sz {fl : Bool} {v : Nat → Int64} {n k : Nat} (hk : k < n) (hn : n ≤ 32) : (if (0 : Int32) ≤ dst fl v n k then dst fl v n k else - dst fl v n k) = nI (far fl v n k) := by
  rw [← Int32.zero_sub]; exact dst_abs hk hn
theorem bst_s (fl : Bool) (v : Nat → Int64) (n b i : Nat) : bst fl v n b (i + 1) = if brk fl v n b i then bst fl v n b i ||| (lN 1 <<< ((nI i).toInt64 &&& 63)) else bst fl v n b i := rfl
theorem wk_or0 (x : Int64) : x ||| lN 0 = x := by
  apply Int64.toBitVec_inj.mp
  rw [Int64.toBitVec_or]
  show x.toBitVec ||| 0#64 = x.toBitVec
  exact BitVec.or_zero
theorem wk_l1 {x y : Int64} (h : x < y) : ¬ y ≤ x := by
  rw [Int64.lt_iff_toInt_lt] at h
  rw [Int64.le_iff_toInt_le]; omega
theorem wk_l2 {x y : Int64} (h : ¬ x < y) : y ≤ x := by
  rw [Int64.lt_iff_toInt_lt] at h
  rw [Int64.le_iff_toInt_le]; omega
