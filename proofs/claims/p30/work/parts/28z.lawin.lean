/-! The law's own names: a long code. -/
theorem in_r {big ws : List Cond} (ps : List Nat) (hp : ws = ps.filterMap (fun i => big[i]?)) : ∀ w ∈ ws, w ∈ big := by
  intro w hw
  rw [hp] at hw
  obtain ⟨i, -, hi⟩ := List.mem_filterMap.mp hw
  exact List.mem_of_getElem? hi
set_option maxRecDepth 20000 in
theorem wsLi_10 : ∀ w ∈ wsL_law0_r10, w ∈ lw_tbl := in_r [331, 608, 609, 610, 611, 612, 457, 458, 459, 168, 169, 170, 171, 176, 177, 178, 179, 343, 172, 173, 174, 180, 181, 182] rfl
