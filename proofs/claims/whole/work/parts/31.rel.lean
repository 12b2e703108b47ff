/-! Class and model tied together: a row's state on both sides, the undo stack on both sides, the runs of texts. -/
def n32 (nu : Nat → Int64) : Nat → Int32 := fun k => (nu k).toInt32
section NT
variable (f : Nat → Int64)
theorem nt_ins (n k : Nat) (x : Int64) : insA (n32 f) n k x.toInt32 = n32 (insA f n k x) := by
  funext j
  show (if j = k then x.toInt32 else if k < j ∧ j ≤ n then (f (j - 1)).toInt32 else (f j).toInt32) = (if j = k then x else if k < j ∧ j ≤ n then f (j - 1) else f j).toInt32
  split
  · rfl
  · split <;> rfl
theorem nt_cla (k i : Nat) : cla (n32 f) k i = n32 (cla f k i) := by
  funext j
  show (if k ≤ j ∧ j < i then (f (j + 1)).toInt32 else (f j).toInt32) = (if k ≤ j ∧ j < i then f (j + 1) else f j).toInt32
  split <;> rfl
theorem nt_swa (k : Nat) : swa (n32 f) k = n32 (swa f k) := by
  funext j
  show (if j = k then (f (k + 1)).toInt32 else if j = k + 1 then (f k).toInt32 else (f j).toInt32) = (if j = k then f (k + 1) else if j = k + 1 then f k else f j).toInt32
  split
  · rfl
  · split <;> rfl
end NT
theorem nt_sws : ∀ (L : List Nat) (f : Nat → Int64), sws (n32 f) L = n32 (sws f L)
  | [], _ => rfl
  | q :: L, f => by
    show sws (swa (n32 f) q) L = n32 (sws (swa f q) L)
    rw [nt_swa, nt_sws L]
theorem nt_swo (o : Option Nat) (f : Nat → Int64) : swo o (n32 f) = n32 (swo o f) := by
  cases o with
  | none => rfl
  | some q => exact nt_swa f q
theorem t32_add (a : Int64) (k : Nat) : (a + lN k).toInt32 = a.toInt32 + nI k := by rw [Int64.toInt32_add, lN_i]
/-- the class's row of the model's -/
def cZ (z : MT) (rk : Nat → Int32) : RT := (z.2.2.2.2.2.2.2.1, n32 z.2.2.2.2.2.2.2.2, rk, z.1, z.2.1, z.2.2.1, z.2.2.2.1, z.2.2.2.2.1.toInt32, z.2.2.2.2.2.1.toInt32, z.2.2.2.2.2.2.1.toInt32)
def RZ (z : RT) (m : MT) : Prop := okR z ∧ ∃ rk, z = cZ m rk
theorem RZ_en {z : RT} {m : MT} (h : RZ z m) : RZ (enS z) (enM m) := by
  refine ⟨okR_en h.1, ?_⟩
  obtain ⟨rk, rfl⟩ := h.2
  obtain ⟨n, b, fl, me, st, lk, cm, v, nu⟩ := m
  refine ⟨rks v rk (eL me fl n b v), ?_⟩
  show (sws v (eL me fl n b v), sws (n32 nu) (eL me fl n b v), rks v rk (eL me fl n b v), n, b, fl, me, st.toInt32 + (nI (eL me fl n b v).length), lk.toInt32, cm.toInt32) = (sws v (eL me fl n b v), n32 (sws nu (eL me fl n b v)), rks v rk (eL me fl n b v), n, b, fl, me, (st + (lN (eL me fl n b v).length)).toInt32, lk.toInt32, cm.toInt32)
  rw [nt_sws, t32_add]
theorem eL_done {me fl : Bool} {n b : Nat} {v : Nat → Int64} (hn : n ≤ 32) : eL me fl n b (sws v (mL fl n b 1000 v)) = [] := by
  have h1 := tin_le (fl := fl) (v := v) hn
  have h2 := mq_done (b := b) 1000 v (show tin fl v n ≤ 1000 by omega)
  unfold eL
  split
  · exact mL_n h2
  · rfl
section RZ0
variable {n b : Nat} {fl me : Bool} {st lk cm : Int64} {v nu : Nat → Int64} {rk : Nat → Int32}
theorem RZ_ok (h : RZ (v, n32 nu, rk, n, b, fl, me, st.toInt32, lk.toInt32, cm.toInt32) (n, b, fl, me, st, lk, cm, v, nu)) : n ≤ 32 ∧ b ≤ 31 ∧ ∀ i, i < n → rk i = nI (rk0 fl v n i) := h.1
theorem RZ_ins0 {k : Nat} {x : Int64} (hn : n < 32) (h : RZ (v, n32 nu, rk, n, b, fl, me, st.toInt32, lk.toInt32, cm.toInt32) (n, b, fl, me, st, lk, cm, v, nu)) :
    RZ (insA v n k x, insA (n32 nu) n k cm.toInt32, rfr fl (insA v n k x) (n + 1) rk (n + 1), n + 1, b, fl, me, st.toInt32, lk.toInt32, cm.toInt32 + (nI 1)) (n + 1, b, fl, me, st, lk, cm + (lN 1), insA v n k x, insA nu n k cm) := by
  refine ⟨⟨by show n + 1 ≤ 32; omega, h.1.2.1, rfr_hrk _ _ _ _⟩, rfr fl (insA v n k x) (n + 1) rk (n + 1), ?_⟩
  show _ = (insA v n k x, n32 (insA nu n k cm), rfr fl (insA v n k x) (n + 1) rk (n + 1), n + 1, b, fl, me, st.toInt32, lk.toInt32, (cm + lN 1).toInt32)
  rw [nt_ins, t32_add]
theorem RZ_cla0 {k : Nat} (h : RZ (v, n32 nu, rk, n, b, fl, me, st.toInt32, lk.toInt32, cm.toInt32) (n, b, fl, me, st, lk, cm, v, nu)) :
    RZ (cla v k (n - 1), cla (n32 nu) k (n - 1), rfr fl (cla v k (n - 1)) (n - 1) rk (n - 1), n - 1, b, fl, me, st.toInt32, lk.toInt32, cm.toInt32) (n - 1, b, fl, me, st, lk, cm, cla v k (n - 1), cla nu k (n - 1)) := by
  have hn : n ≤ 32 := h.1.1
  refine ⟨⟨by show n - 1 ≤ 32; omega, h.1.2.1, rfr_hrk _ _ _ _⟩, rfr fl (cla v k (n - 1)) (n - 1) rk (n - 1), ?_⟩
  show _ = (cla v k (n - 1), n32 (cla nu k (n - 1)), rfr fl (cla v k (n - 1)) (n - 1) rk (n - 1), n - 1, b, fl, me, st.toInt32, lk.toInt32, cm.toInt32)
  rw [nt_cla]
theorem RZ_upd0 {k : Nat} {x : Int64} (h : RZ (v, n32 nu, rk, n, b, fl, me, st.toInt32, lk.toInt32, cm.toInt32) (n, b, fl, me, st, lk, cm, v, nu)) :
    RZ (vp_updL v k x, n32 nu, rfr fl (vp_updL v k x) n rk n, n, b, fl, me, st.toInt32, lk.toInt32, cm.toInt32) (n, b, fl, me, st, lk, cm, vp_updL v k x, nu) :=
  ⟨⟨h.1.1, h.1.2.1, rfr_hrk _ _ _ _⟩, rfr fl (vp_updL v k x) n rk n, rfl⟩
theorem RZ_swa0 {k : Nat} (hk : k + 1 < n) (h : RZ (v, n32 nu, rk, n, b, fl, me, st.toInt32, lk.toInt32, cm.toInt32) (n, b, fl, me, st, lk, cm, v, nu)) :
    RZ (swa v k, swa (n32 nu) k, swr v rk k, n, b, fl, me, st.toInt32, lk.toInt32, cm.toInt32) (n, b, fl, me, st, lk, cm, swa v k, swa nu k) := by
  refine ⟨⟨h.1.1, h.1.2.1, swr_hrk hk h.1.2.2⟩, swr v rk k, ?_⟩
  show _ = (swa v k, n32 (swa nu k), swr v rk k, n, b, fl, me, st.toInt32, lk.toInt32, cm.toInt32)
  rw [nt_swa]
theorem RZ_bnd0 {k : Nat} (hk : k ≤ 31) (h : RZ (v, n32 nu, rk, n, b, fl, me, st.toInt32, lk.toInt32, cm.toInt32) (n, b, fl, me, st, lk, cm, v, nu)) :
    RZ (v, n32 nu, rk, n, k, fl, me, st.toInt32, lk.toInt32, cm.toInt32) (n, k, fl, me, st, lk, cm, v, nu) := ⟨⟨h.1.1, hk, h.1.2.2⟩, rk, rfl⟩
theorem RZ_ord0 {f : Bool} (h : RZ (v, n32 nu, rk, n, b, fl, me, st.toInt32, lk.toInt32, cm.toInt32) (n, b, fl, me, st, lk, cm, v, nu)) :
    RZ (v, n32 nu, rfr f v n rk n, n, b, f, me, st.toInt32, lk.toInt32, cm.toInt32) (n, b, f, me, st, lk, cm, v, nu) := ⟨⟨h.1.1, h.1.2.1, rfr_hrk _ _ _ _⟩, rfr f v n rk n, rfl⟩
theorem RZ_slf0 {f : Bool} (h : RZ (v, n32 nu, rk, n, b, fl, me, st.toInt32, lk.toInt32, cm.toInt32) (n, b, fl, me, st, lk, cm, v, nu)) :
    RZ (v, n32 nu, rk, n, b, fl, f, st.toInt32, lk.toInt32, cm.toInt32) (n, b, fl, f, st, lk, cm, v, nu) := ⟨h.1, rk, rfl⟩
theorem RZ_mend (h : RZ (v, n32 nu, rk, n, b, fl, me, st.toInt32, lk.toInt32, cm.toInt32) (n, b, fl, me, st, lk, cm, v, nu)) :
    RZ (sws v (mL fl n b 1000 v), sws (n32 nu) (mL fl n b 1000 v), rks v rk (mL fl n b 1000 v), n, b, fl, me, st.toInt32 + (nI (mL fl n b 1000 v).length), lk.toInt32, cm.toInt32) (n, b, fl, me, st + (lN (mL fl n b 1000 v).length), lk, cm, sws v (mL fl n b 1000 v), sws nu (mL fl n b 1000 v)) := by
  refine ⟨⟨h.1.1, h.1.2.1, mL_hrk h.1.2.2⟩, rks v rk (mL fl n b 1000 v), ?_⟩
  show _ = (sws v (mL fl n b 1000 v), n32 (sws nu (mL fl n b 1000 v)), rks v rk (mL fl n b 1000 v), n, b, fl, me, (st + (lN (mL fl n b 1000 v).length)).toInt32, lk.toInt32, cm.toInt32)
  rw [nt_sws, t32_add]
theorem RZ_step (h : RZ (v, n32 nu, rk, n, b, fl, me, st.toInt32, lk.toInt32, cm.toInt32) (n, b, fl, me, st, lk, cm, v, nu)) :
    RZ (swo (mq fl n b v) v, swo (mq fl n b v) (n32 nu), sro (mq fl n b v) v rk, n, b, fl, me, st.toInt32 + (nI (oln (mq fl n b v))), lk.toInt32, cm.toInt32) (n, b, fl, me, st + (lN (oln (mq fl n b v))), lk, cm, swo (mq fl n b v) v, swo (mq fl n b v) nu) := by
  refine ⟨⟨h.1.1, h.1.2.1, ?_⟩, sro (mq fl n b v) v rk, ?_⟩
  · cases hm : mq fl n b v with
    | none => exact h.1.2.2
    | some q => exact swr_hrk (fal_lt (mq_fal hm)) h.1.2.2
  · show _ = (swo (mq fl n b v) v, n32 (swo (mq fl n b v) nu), sro (mq fl n b v) v rk, n, b, fl, me, (st + (lN (oln (mq fl n b v)))).toInt32, lk.toInt32, cm.toInt32)
    rw [nt_swo, t32_add]
theorem RZ_look {k : Nat} (h : RZ (v, n32 nu, rk, n, b, fl, me, st.toInt32, lk.toInt32, cm.toInt32) (n, b, fl, me, st, lk, cm, v, nu)) :
    RZ (v, n32 nu, rk, n, b, fl, me, st.toInt32, lk.toInt32 + (nI k), cm.toInt32) (n, b, fl, me, st, lk + (lN k), cm, v, nu) := by
  refine ⟨h.1, rk, ?_⟩
  show _ = (v, n32 nu, rk, n, b, fl, me, st.toInt32, (lk + lN k).toInt32, cm.toInt32)
  rw [t32_add]
end RZ0
theorem RZ_co {k : Nat} {nb pl : Int32} {vl gv : Int64} {z : RT} {m : MT} (hk : k < 7) (h : RZ z m) (h1 : wnu k = true → nb = pl) (h2 : wva k = true → vl = gv) :
    ((coS k nb vl z).1 = true ∧ (dmS k pl gv m).1 = 0 ∧ RZ (enS (coS k nb vl z).2) (dmS k pl gv m).2) ∨ ((coS k nb vl z).1 = false ∧ ¬ (dmS k pl gv m).1 = 0 ∧ RZ (coS k nb vl z).2 (dmS k pl gv m).2) := by
  have hz := h
  obtain ⟨rk, rfl⟩ := h.2
  obtain ⟨n, b, fl, me, st, lk, cm, v, nu⟩ := m
  have hz : RZ (v, n32 nu, rk, n, b, fl, me, st.toInt32, lk.toInt32, cm.toInt32) (n, b, fl, me, st, lk, cm, v, nu) := hz
  have hn : n ≤ 32 := hz.1.1
  rcases (show k = 0 ∨ k = 1 ∨ k = 2 ∨ k = 3 ∨ k = 4 ∨ k = 5 ∨ k = 6 by omega) with rfl | rfl | rfl | rfl | rfl | rfl | rfl
  · obtain rfl := h2 rfl
    by_cases c : n < 32
    · left
      have e1 : coS 0 nb vl (cZ (n, b, fl, me, st, lk, cm, v, nu) rk) = (true, (insA v n n vl, insA (n32 nu) n n cm.toInt32, rfr fl (insA v n n vl) (n + 1) rk (n + 1), n + 1, b, fl, me, st.toInt32, lk.toInt32, cm.toInt32 + (nI 1))) := if_pos c
      have e2 : dmS 0 pl vl (n, b, fl, me, st, lk, cm, v, nu) = (0, enM (n + 1, b, fl, me, st, lk, cm + (lN 1), insA v n n vl, insA nu n n cm)) := if_pos c
      rw [e1, e2]
      exact ⟨rfl, rfl, RZ_en (RZ_ins0 c hz)⟩
    · right
      have e1 : coS 0 nb vl (cZ (n, b, fl, me, st, lk, cm, v, nu) rk) = (false, cZ (n, b, fl, me, st, lk, cm, v, nu) rk) := if_neg c
      have e2 : dmS 0 pl vl (n, b, fl, me, st, lk, cm, v, nu) = (1, (n, b, fl, me, st, lk, cm, v, nu)) := if_neg c
      rw [e1, e2]
      exact ⟨rfl, fun q => (by cases q), hz⟩
  · obtain rfl := h2 rfl
    obtain rfl := h1 rfl
    by_cases c : opn nb n = true
    · by_cases c2 : n < 32
      · left
        have e1 : coS 1 nb vl (cZ (n, b, fl, me, st, lk, cm, v, nu) rk) = (true, (insA v n nb.toNatClampNeg vl, insA (n32 nu) n nb.toNatClampNeg cm.toInt32, rfr fl (insA v n nb.toNatClampNeg vl) (n + 1) rk (n + 1), n + 1, b, fl, me, st.toInt32, lk.toInt32, cm.toInt32 + (nI 1))) := if_pos ⟨c2, c⟩
        have e2 : dmS 1 nb vl (n, b, fl, me, st, lk, cm, v, nu) = (0, enM (n + 1, b, fl, me, st, lk, cm + (lN 1), insA v n nb.toNatClampNeg vl, insA nu n nb.toNatClampNeg cm)) := (if_pos c).trans (if_pos c2)
        rw [e1, e2]
        exact ⟨rfl, rfl, RZ_en (RZ_ins0 c2 hz)⟩
      · right
        have e1 : coS 1 nb vl (cZ (n, b, fl, me, st, lk, cm, v, nu) rk) = (false, cZ (n, b, fl, me, st, lk, cm, v, nu) rk) := if_neg (fun q => c2 q.1)
        have e2 : dmS 1 nb vl (n, b, fl, me, st, lk, cm, v, nu) = (2, (n, b, fl, me, st, lk, cm, v, nu)) := (if_pos c).trans (if_neg c2)
        rw [e1, e2]
        exact ⟨rfl, fun q => (by cases q), hz⟩
    · right
      have e1 : coS 1 nb vl (cZ (n, b, fl, me, st, lk, cm, v, nu) rk) = (false, cZ (n, b, fl, me, st, lk, cm, v, nu) rk) := if_neg (fun q => c q.2)
      have e2 : dmS 1 nb vl (n, b, fl, me, st, lk, cm, v, nu) = (1, (n, b, fl, me, st, lk, cm, v, nu)) := if_neg c
      rw [e1, e2]
      exact ⟨rfl, fun q => (by cases q), hz⟩
  · obtain rfl := h1 rfl
    by_cases c : inR nb n = true
    · left
      have e1 : coS 2 nb vl (cZ (n, b, fl, me, st, lk, cm, v, nu) rk) = (true, (cla v nb.toNatClampNeg (n - 1), cla (n32 nu) nb.toNatClampNeg (n - 1), rfr fl (cla v nb.toNatClampNeg (n - 1)) (n - 1) rk (n - 1), n - 1, b, fl, me, st.toInt32, lk.toInt32, cm.toInt32)) := if_pos c
      have e2 : dmS 2 nb gv (n, b, fl, me, st, lk, cm, v, nu) = (0, enM (n - 1, b, fl, me, st, lk, cm, cla v nb.toNatClampNeg (n - 1), cla nu nb.toNatClampNeg (n - 1))) := if_pos c
      rw [e1, e2]
      exact ⟨rfl, rfl, RZ_en (RZ_cla0 hz)⟩
    · right
      have e1 : coS 2 nb vl (cZ (n, b, fl, me, st, lk, cm, v, nu) rk) = (false, cZ (n, b, fl, me, st, lk, cm, v, nu) rk) := if_neg c
      have e2 : dmS 2 nb gv (n, b, fl, me, st, lk, cm, v, nu) = (1, (n, b, fl, me, st, lk, cm, v, nu)) := if_neg c
      rw [e1, e2]
      exact ⟨rfl, fun q => (by cases q), hz⟩
  · obtain rfl := h1 rfl
    obtain rfl := h2 rfl
    by_cases c : inR nb n = true
    · left
      have e1 : coS 3 nb vl (cZ (n, b, fl, me, st, lk, cm, v, nu) rk) = (true, (vp_updL v nb.toNatClampNeg vl, n32 nu, rfr fl (vp_updL v nb.toNatClampNeg vl) n rk n, n, b, fl, me, st.toInt32, lk.toInt32, cm.toInt32)) := if_pos c
      have e2 : dmS 3 nb vl (n, b, fl, me, st, lk, cm, v, nu) = (0, enM (n, b, fl, me, st, lk, cm, vp_updL v nb.toNatClampNeg vl, nu)) := if_pos c
      rw [e1, e2]
      exact ⟨rfl, rfl, RZ_en (RZ_upd0 hz)⟩
    · right
      have e1 : coS 3 nb vl (cZ (n, b, fl, me, st, lk, cm, v, nu) rk) = (false, cZ (n, b, fl, me, st, lk, cm, v, nu) rk) := if_neg c
      have e2 : dmS 3 nb vl (n, b, fl, me, st, lk, cm, v, nu) = (1, (n, b, fl, me, st, lk, cm, v, nu)) := if_neg c
      rw [e1, e2]
      exact ⟨rfl, fun q => (by cases q), hz⟩
  · obtain rfl := h1 rfl
    by_cases c : hnx nb n = true
    · left
      have e1 : coS 4 nb vl (cZ (n, b, fl, me, st, lk, cm, v, nu) rk) = (true, (swa v nb.toNatClampNeg, swa (n32 nu) nb.toNatClampNeg, swr v rk nb.toNatClampNeg, n, b, fl, me, st.toInt32, lk.toInt32, cm.toInt32)) := if_pos c
      have e2 : dmS 4 nb gv (n, b, fl, me, st, lk, cm, v, nu) = (0, enM (n, b, fl, me, st, lk, cm, swa v nb.toNatClampNeg, swa nu nb.toNatClampNeg)) := if_pos c
      rw [e1, e2]
      exact ⟨rfl, rfl, RZ_en (RZ_swa0 (by obtain ⟨j, hj, ej⟩ := hnx_k c hn; rw [ej, nI_clamp (by omega)]; exact hj) hz)⟩
    · right
      have e1 : coS 4 nb vl (cZ (n, b, fl, me, st, lk, cm, v, nu) rk) = (false, cZ (n, b, fl, me, st, lk, cm, v, nu) rk) := if_neg c
      have e2 : dmS 4 nb gv (n, b, fl, me, st, lk, cm, v, nu) = (1, (n, b, fl, me, st, lk, cm, v, nu)) := if_neg c
      rw [e1, e2]
      exact ⟨rfl, fun q => (by cases q), hz⟩
  · obtain rfl := h1 rfl
    by_cases c : inB nb = true
    · left
      have e1 : coS 5 nb vl (cZ (n, b, fl, me, st, lk, cm, v, nu) rk) = (true, (v, n32 nu, rk, n, nb.toNatClampNeg, fl, me, st.toInt32, lk.toInt32, cm.toInt32)) := if_pos c
      have e2 : dmS 5 nb gv (n, b, fl, me, st, lk, cm, v, nu) = (0, enM (n, nb.toNatClampNeg, fl, me, st, lk, cm, v, nu)) := if_pos c
      rw [e1, e2]
      exact ⟨rfl, rfl, RZ_en (RZ_bnd0 (by obtain ⟨j, hj, ej⟩ := inB_k c; rw [ej, nI_clamp (by omega)]; exact hj) hz)⟩
    · right
      have e1 : coS 5 nb vl (cZ (n, b, fl, me, st, lk, cm, v, nu) rk) = (false, cZ (n, b, fl, me, st, lk, cm, v, nu) rk) := if_neg c
      have e2 : dmS 5 nb gv (n, b, fl, me, st, lk, cm, v, nu) = (1, (n, b, fl, me, st, lk, cm, v, nu)) := if_neg c
      rw [e1, e2]
      exact ⟨rfl, fun q => (by cases q), hz⟩
  · left
    have g := RZ_mend hz
    refine ⟨rfl, rfl, okR_en g.1, rks v rk (mL fl n b 1000 v), ?_⟩
    obtain ⟨rk2, e2⟩ := g.2
    show (sws (sws v (mL fl n b 1000 v)) (eL me fl n b (sws v (mL fl n b 1000 v))), sws (sws (n32 nu) (mL fl n b 1000 v)) (eL me fl n b (sws v (mL fl n b 1000 v))), rks (sws v (mL fl n b 1000 v)) (rks v rk (mL fl n b 1000 v)) (eL me fl n b (sws v (mL fl n b 1000 v))), n, b, fl, me, st.toInt32 + (nI (mL fl n b 1000 v).length) + (nI (eL me fl n b (sws v (mL fl n b 1000 v))).length), lk.toInt32, cm.toInt32)
      = (sws v (mL fl n b 1000 v), n32 (sws nu (mL fl n b 1000 v)), rks v rk (mL fl n b 1000 v), n, b, fl, me, (st + (lN (mL fl n b 1000 v).length)).toInt32, lk.toInt32, cm.toInt32)
    rw [eL_done hn, nt_sws, t32_add, show st.toInt32 + (nI (mL fl n b 1000 v).length) + (nI ([] : List Nat).length) = st.toInt32 + (nI (mL fl n b 1000 v).length) from Int32.add_zero _]
    rfl
/-- the runs of a text that has no fault -/
theorem rc_rm {c : Nat → Nat} {n : Nat} : ∀ (f : Nat) (q : PS) (s : MS) (z : RT) (m : MT), q.1 ≤ n → n - q.1 ≤ f → s.1 = skS c n q.1 → (ffM c n (f + 1) s).1 = none → RZ z m →
    (rcS c n f q z).1 = (rmS c n (f + 1) s m).1 ∧ RZ (rcS c n f q z).2.2 (rmS c n (f + 1) s m).2.2
  | 0, q, s, z, m, h1, h2, h3, h4, h5 => by
    have e : skS c n q.1 = q.1 := skS_e (by omega)
    rw [rmS_e (by rw [h3, e]; omega)]
    exact ⟨rfl, h5⟩
  | f + 1, q, s, z, m, h1, h2, h3, h4, h5 => by
    by_cases h : skS c n q.1 < n
    · have hs := skS_le (c := c) h1
      have hsn : s.1 < n := by rw [h3]; exact h
      have g := crS_md (c := c) (n := n) (s := (skS c n q.1, q.2)) (s' := s) h3.symm
      have hc : (crS c n (skS c n q.1, q.2)).1 = true := by
        rcases Bool.eq_false_or_eq_true (crS c n (skS c n q.1, q.2)).1 with hc | hc
        · exact hc
        · rw [ffM_n hsn (by rw [← g.1]; exact hc)] at h4
          cases h4
      have hm : (mdS c n s).1 = true := by rw [← g.1]; exact hc
      rw [ffM_t hsn hm] at h4
      obtain ⟨k, hk, hw, hko, v1, v2⟩ := crS_v (c := c) (n := n) (s := (skS c n q.1, q.2)) (s' := s) h3.symm hc
      have g1 : skS c n q.1 < (crS c n (skS c n q.1, q.2)).2.1 := crS_gt (c := c) (n := n) (s := (skS c n q.1, q.2)) hs.2 hc
      have g2 := crS_le (c := c) (n := n) (s := (skS c n q.1, q.2)) hs.2
      rcases RZ_co hk h5 v1 v2 with ⟨a1, a2, a3⟩ | ⟨a1, a2, a3⟩
      · rw [rcS_t h hc hw a1, rmS_t hsn (by rw [hko]; exact a2), hko]
        have ih := rc_rm f (crS c n (skS c n q.1, q.2)).2 (mdS c n s).2 _ _ g2 (by omega) (by rw [g.2, if_pos hc]) h4 a3
        exact ⟨congrArg (· + 1) ih.1, ih.2⟩
      · rw [rcS_c h hc hw a1, rmS_c hsn (by rw [hko]; exact a2), hko]
        exact ⟨rfl, a3⟩
    · rw [rcS_e h, rmS_e (by rw [h3]; exact h)]
      exact ⟨rfl, h5⟩
/-- a row's state and a row of 71 longs -/
def RR (T : RT) (f : Nat → Int64) : Prop := okR T ∧ f 0 = lN T.2.2.2.1 ∧ f 1 = lN T.2.2.2.2.1 ∧ f 2 = bL T.2.2.2.2.2.1 ∧ f 3 = bL T.2.2.2.2.2.2.1 ∧ (f 4).toInt32 = T.2.2.2.2.2.2.2.1 ∧ (f 5).toInt32 = T.2.2.2.2.2.2.2.2.1 ∧ (f 6).toInt32 = T.2.2.2.2.2.2.2.2.2 ∧ (∀ k, k < 32 → f (7 + k) = T.1 k) ∧ (∀ k, k < 32 → (f (39 + k)).toInt32 = T.2.1 k)
theorem RR_cg {T : RT} {f g : Nat → Int64} (h : RR T f) (e : ∀ i, i < 71 → g i = f i) : RR T g := by
  obtain ⟨h0, h1, h2, h3, h4, h5, h6, h7, h8, h9⟩ := h
  refine ⟨h0, ?_, ?_, ?_, ?_, ?_, ?_, ?_, fun k hk => ?_, fun k hk => ?_⟩
  · rw [e 0 (by decide)]; exact h1
  · rw [e 1 (by decide)]; exact h2
  · rw [e 2 (by decide)]; exact h3
  · rw [e 3 (by decide)]; exact h4
  · rw [e 4 (by decide)]; exact h5
  · rw [e 5 (by decide)]; exact h6
  · rw [e 6 (by decide)]; exact h7
  · rw [e (7 + k) (by omega)]; exact h8 k hk
  · rw [e (39 + k) (by omega)]; exact h9 k hk
theorem RR_sM {T : RT} {n b : Nat} {fl me : Bool} {st lk cm : Int64} {v nu : Nat → Int64} (h : RZ T (n, b, fl, me, st, lk, cm, v, nu)) : RR T (sM n b fl me st lk cm v nu) := by
  obtain ⟨h0, rk, rfl⟩ := h
  exact ⟨h0, rfl, rfl, rfl, rfl, rfl, rfl, rfl, fun k hk => sM_v rfl hk, fun k hk => congrArg Int64.toInt32 (sM_n rfl hk)⟩
theorem cp_lt {α : Type} {f g : Nat → α} {k : Nat} (h : k < 32) : cp32 f g k = f k := if_pos h
theorem rk0_cg {fl : Bool} {v w : Nat → Int64} {n k : Nat} (h : ∀ i, i < n → v i = w i) (hk : k < n) : rk0 fl v n k = rk0 fl w n k := by
  refine cnt_cg (fun o ho => ?_)
  unfold rkp
  rw [h o ho, h k hk]
theorem okR_cp {S N : RT} (h : okR N) : okR (cp32 N.1 S.1, cp32 N.2.1 S.2.1, cp32 N.2.2.1 S.2.2.1, N.2.2.2) := by
  obtain ⟨h1, h2, h3⟩ := h
  refine ⟨h1, h2, fun i hi => ?_⟩
  have hi' : i < N.2.2.2.1 := hi
  show cp32 N.2.2.1 S.2.2.1 i = nI (rk0 N.2.2.2.2.2.1 (cp32 N.1 S.1) N.2.2.2.1 i)
  rw [cp_lt (by omega), h3 i hi', rk0_cg (v := cp32 N.1 S.1) (w := N.1) (fun j hj => cp_lt (by omega)) hi']
theorem RR_cp {S N : RT} {f : Nat → Int64} (h : RR N f) : RR (cp32 N.1 S.1, cp32 N.2.1 S.2.1, cp32 N.2.2.1 S.2.2.1, N.2.2.2) f := by
  obtain ⟨h0, h1, h2, h3, h4, h5, h6, h7, h8, h9⟩ := h
  refine ⟨okR_cp h0, h1, h2, h3, h4, h5, h6, h7, fun k hk => ?_, fun k hk => ?_⟩
  · exact (h8 k hk).trans (cp_lt hk).symm
  · exact (h9 k hk).trans (cp_lt hk).symm
theorem RR_sv {S N : RT} {f : Nat → Int64} (h : RR N f) : RR (svS true S N) f := RR_cp h
/-- the model's row, told by its parts -/
def nuX (T : RT) (f : Nat → Int64) : Nat → Int64 := fun k => if k < 32 then f (39 + k) else (T.2.1 k).toInt64
theorem RR_canon {T : RT} {f : Nat → Int64} (h : RR T f) : RZ T (T.2.2.2.1, T.2.2.2.2.1, T.2.2.2.2.2.1, T.2.2.2.2.2.2.1, f 4, f 5, f 6, T.1, nuX T f) ∧ (∀ i, i < 71 → f i = sM T.2.2.2.1 T.2.2.2.2.1 T.2.2.2.2.2.1 T.2.2.2.2.2.2.1 (f 4) (f 5) (f 6) T.1 (nuX T f) i) := by
  obtain ⟨h0, h1, h2, h3, h4, h5, h6, h7, h8, h9⟩ := h
  obtain ⟨v, nu, rk, n, b, fl, me, st, lk, cm⟩ := T
  refine ⟨⟨h0, rk, ?_⟩, fun i hi => ?_⟩
  · have e : nu = n32 (nuX (v, nu, rk, n, b, fl, me, st, lk, cm) f) := by
      funext k
      show nu k = (if k < 32 then f (39 + k) else (nu k).toInt64).toInt32
      split
      · rename_i hk; exact (h9 k hk).symm
      · exact (Int32.toInt32_toInt64 _).symm
    show (v, nu, rk, n, b, fl, me, st, lk, cm) = (v, n32 (nuX (v, nu, rk, n, b, fl, me, st, lk, cm) f), rk, n, b, fl, me, (f 4).toInt32, (f 5).toInt32, (f 6).toInt32)
    rw [← e]
    have q5 : (f 4).toInt32 = st := h5
    have q6 : (f 5).toInt32 = lk := h6
    have q7 : (f 6).toInt32 = cm := h7
    rw [q5, q6, q7]
  · by_cases c : i < 7
    · rcases (show i = 0 ∨ i = 1 ∨ i = 2 ∨ i = 3 ∨ i = 4 ∨ i = 5 ∨ i = 6 by omega) with rfl | rfl | rfl | rfl | rfl | rfl | rfl
      · exact h1
      · exact h2
      · exact h3
      · exact h4
      · rfl
      · rfl
      · rfl
    · by_cases c2 : i < 39
      · rw [sM_v (k := i - 7) (by omega) (by omega), ← h8 (i - 7) (by omega), show 7 + (i - 7) = i by omega]
      · rw [sM_n (k := i - 39) (by omega) (by omega)]
        show f i = (if i - 39 < 32 then f (39 + (i - 39)) else _)
        rw [if_pos (by omega), show 39 + (i - 39) = i by omega]
/-- the undo stack on both sides -/
def HH (ol ct : Nat) (s0 s1 s2 s3 : RT) (pt : Nat → Int64) : Prop := ∀ j, j < ct → RR (sel4 ((ol + j) % 4) s0 s1 s2 s3) (fun i => pt (71 * j + i))
theorem sel4_sv {m t : Nat} {s0 s1 s2 s3 T : RT} (hm : m < 4) (ht : t < 4) : sel4 m (svS (decide (t = 0)) s0 T) (svS (decide (t = 1)) s1 T) (svS (decide (t = 2)) s2 T) (svS (decide (t = 3)) s3 T) = if t = m then svS true (sel4 m s0 s1 s2 s3) T else sel4 m s0 s1 s2 s3 := by
  rcases (show m = 0 ∨ m = 1 ∨ m = 2 ∨ m = 3 by omega) with rfl | rfl | rfl | rfl <;> rcases (show t = 0 ∨ t = 1 ∨ t = 2 ∨ t = 3 by omega) with rfl | rfl | rfl | rfl <;> rfl
theorem HH_save {ol ct : Nat} {s0 s1 s2 s3 T : RT} {pt ss : Nat → Int64} (ho : ol ≤ 3) (hc : ct ≤ 4) (h : HH ol ct s0 s1 s2 s3 pt) (hT : RR T ss) :
    HH (svo ol ct) (svc ct) (svS (decide ((ol + ct) % 4 = 0)) s0 T) (svS (decide ((ol + ct) % 4 = 1)) s1 T) (svS (decide ((ol + ct) % 4 = 2)) s2 T) (svS (decide ((ol + ct) % 4 = 3)) s3 T) (svP false pt ct ss) := by
  intro j hj
  rw [sel4_sv (Nat.mod_lt _ (by decide)) (Nat.mod_lt _ (by decide))]
  have e0 : svP false pt ct ss = svp pt ct ss := rfl
  rw [e0]
  by_cases c : ct = 4
  · subst c
    have hj' : j < 4 := hj
    have e1 : svo ol 4 = (ol + 1) % 4 := rfl
    have e2 : svp pt 4 ss = wrP (shP pt 213) 3 ss 71 := rfl
    rw [e1, e2]
    by_cases c2 : j = 3
    · subst c2
      rw [if_pos (by omega)]
      refine RR_cg (RR_sv hT) (fun i hi => ?_)
      show (if 71 * 3 ≤ 71 * 3 + i ∧ 71 * 3 + i < 71 * 3 + 71 then ss (71 * 3 + i - 71 * 3) else _) = ss i
      rw [if_pos (by omega), show 71 * 3 + i - 71 * 3 = i by omega]
    · rw [if_neg (by omega)]
      have g := h (j + 1) (by omega)
      rw [show (ol + (j + 1)) % 4 = ((ol + 1) % 4 + j) % 4 by omega] at g
      refine RR_cg g (fun i hi => ?_)
      show (if 71 * 3 ≤ 71 * j + i ∧ 71 * j + i < 71 * 3 + 71 then _ else (if 71 * j + i < 213 then pt (71 * j + i + 71) else _)) = pt (71 * (j + 1) + i)
      rw [if_neg (by omega), if_pos (by omega), show 71 * j + i + 71 = 71 * (j + 1) + i by omega]
  · have e1 : svo ol ct = ol := if_pos (by omega)
    have e2 : svp pt ct ss = wrP pt ct ss 71 := if_neg c
    have e3 : svc ct = ct + 1 := if_pos (by omega)
    rw [e3] at hj
    rw [e1, e2]
    by_cases c2 : j = ct
    · subst c2
      rw [if_pos rfl]
      refine RR_cg (RR_sv hT) (fun i hi => ?_)
      show (if 71 * j ≤ 71 * j + i ∧ 71 * j + i < 71 * j + 71 then ss (71 * j + i - 71 * j) else _) = ss i
      rw [if_pos (by omega), show 71 * j + i - 71 * j = i by omega]
    · rw [if_neg (by omega)]
      refine RR_cg (h j (by omega)) (fun i hi => ?_)
      show (if 71 * ct ≤ 71 * j + i ∧ 71 * j + i < 71 * ct + 71 then _ else pt (71 * j + i)) = pt (71 * j + i)
      rw [if_neg (by omega)]
theorem svo_le {ol ct : Nat} (h : ol ≤ 3) : svo ol ct ≤ 3 := by
  unfold svo
  split
  · exact h
  · omega
theorem svc_le {ct : Nat} (h : ct ≤ 4) : svc ct ≤ 4 := by
  unfold svc
  split <;> omega
theorem svN_svc {ct : Nat} (h : ct ≤ 4) : svN false ct = svc ct := by
  show (if ct = 4 then 4 else ct + 1) = (if ct < 4 then ct + 1 else ct)
  by_cases c : ct = 4
  · subst c; rfl
  · rw [if_neg c, if_pos (by omega)]
theorem HH_less {ol ct : Nat} {s0 s1 s2 s3 : RT} {pt : Nat → Int64} (h : HH ol ct s0 s1 s2 s3 pt) : HH ol (ct - 1) s0 s1 s2 s3 pt := fun j hj => h j (by omega)
theorem RR_undo {ol ct : Nat} {s0 s1 s2 s3 T : RT} {pt ss : Nat → Int64} (h : HH ol ct s0 s1 s2 s3 pt) (h0 : 0 < ct) :
    RR (cp32 (sel4 ((ol + (ct - 1)) % 4) s0 s1 s2 s3).1 T.1, cp32 (sel4 ((ol + (ct - 1)) % 4) s0 s1 s2 s3).2.1 T.2.1, cp32 (sel4 ((ol + (ct - 1)) % 4) s0 s1 s2 s3).2.2.1 T.2.2.1, (sel4 ((ol + (ct - 1)) % 4) s0 s1 s2 s3).2.2.2) (unp pt (ct - 1) ss 71) := by
  refine RR_cg (RR_cp (h (ct - 1) (by omega))) (fun i hi => ?_)
  exact if_pos hi
