section Lok
/-- the locals as the kit lists them -/
def lvl (g : aG) (l : List Value) (ll : List (Nat × Int64)) : List (Nat × Value) :=
  l.zipIdx.filterMap (fun q => if isj q.1 = true then none else some (q.2, cv g q.1)) ++ ll.map (fun q => (q.1, Value.long q.2))
theorem lok_in {g : aG} {l : List Value} {ll : List (Nat × Int64)} {i : Nat} {v : Value} (h : l[i]? = some v) (hj : isj v = false) : (i, cv g v) ∈ lvl g l ll := by
  refine List.mem_append_left _ (List.mem_filterMap.mpr ⟨(v, i), ?_, by simp [hj]⟩)
  rw [List.mk_mem_zipIdx_iff_getElem?]; exact h
theorem lok_inl {g : aG} {l : List Value} {ll : List (Nat × Int64)} {q : Nat × Int64} (h : q ∈ ll) : (q.1, Value.long q.2) ∈ lvl g l ll :=
  List.mem_append_right _ (List.mem_map.mpr ⟨q, h, rfl⟩)
theorem lok_has {g : aG} {ls : Array Slot} {l : List Value} {ll : List (Nat × Int64)} {nL : Nat} (h : lok g ls l ll nL) : lv_has ls nL (lvl g l ll) := by
  refine ⟨h.1, h.2.2.1, fun q hq => ?_⟩
  rcases List.mem_append.mp hq with h1 | h1
  · obtain ⟨⟨v, i⟩, h2, h3⟩ := List.mem_filterMap.mp h1
    rw [List.mk_mem_zipIdx_iff_getElem?] at h2
    by_cases hj : isj v = true
    · simp [hj] at h3
    · simp [hj] at h3
      subst h3
      exact h.2.2.2.2.1 i v h2 (by simpa using hj)
  · obtain ⟨z, h2, h3⟩ := List.mem_map.mp h1
    subst h3
    exact h.2.2.2.2.2 z h2
theorem lok_st1 {g : aG} {ls ls2 : Array Slot} {l : List Value} {ll : List (Nat × Int64)} {nL i : Nat} {v : Value} (h : lok g ls l ll nL) (hi : i < nL) (hc : v.category = 1) (hj : isj v = false)
    (h2 : lv_has ls2 nL ((i, cv g v) :: (lvl g l ll).filter (fun q => !(q.1 == i) && !(q.1 + 1 == i && q.2.category == 2)))) : lok g ls2 (l.set i v) (ll.filter (fun q => !(q.1 == i) && !(q.1 + 1 == i))) nL := by
  obtain ⟨a1, a2, a3⟩ := h2
  refine ⟨a1, by rw [List.length_set]; exact h.2.1, a2, fun w hw => ?_, fun j w hw hjw => ?_, fun q hq => ?_⟩
  · rcases List.mem_or_eq_of_mem_set hw with h3 | h3
    · exact h.2.2.2.1 w h3
    · subst h3; exact hc
  · by_cases e : j = i
    · subst e
      rw [List.getElem?_set_self (by rw [h.2.1]; exact hi)] at hw
      cases hw
      exact a3 _ List.mem_cons_self
    · rw [List.getElem?_set_ne (fun q => e q.symm)] at hw
      refine a3 (j, cv g w) (List.mem_cons_of_mem _ (List.mem_filter.mpr ⟨lok_in hw hjw, ?_⟩))
      have hcw : (cv g w).category = 1 := (cv_cat g w).trans (h.2.2.2.1 w (List.mem_of_getElem? hw))
      simp [e, hcw]
  · obtain ⟨h3, h4⟩ := List.mem_filter.mp hq
    refine a3 (q.1, .long q.2) (List.mem_cons_of_mem _ (List.mem_filter.mpr ⟨lok_inl h3, ?_⟩))
    simp only [Bool.and_eq_true, Bool.not_eq_true'] at h4 ⊢
    exact ⟨h4.1, by rw [h4.2]; rfl⟩
theorem lok_st2 {g : aG} {ls ls2 : Array Slot} {l : List Value} {ll : List (Nat × Int64)} {nL i : Nat} {x : Int64} (h : lok g ls l ll nL) (hi : i + 1 < nL)
    (h2 : lv_has ls2 nL ((i, .long x) :: (lvl g l ll).filter (fun q => !(q.1 == i) && (!(q.1 == i + 1) && !(q.1 + 1 == i && q.2.category == 2))))) : lok g ls2 ((l.set i (.retAddr 0)).set (i + 1) (.retAddr 0)) ((i, x) :: ll.filter (fun q => !(q.1 == i) && (!(q.1 == i + 1) && !(q.1 + 1 == i)))) nL := by
  obtain ⟨a1, a2, a3⟩ := h2
  refine ⟨a1, by rw [List.length_set, List.length_set]; exact h.2.1, a2, fun w hw => ?_, fun j w hw hjw => ?_, fun q hq => ?_⟩
  · rcases List.mem_or_eq_of_mem_set hw with h3 | h3
    · rcases List.mem_or_eq_of_mem_set h3 with h3 | h3
      · exact h.2.2.2.1 w h3
      · subst h3; rfl
    · subst h3; rfl
  · by_cases e1 : j = i + 1
    · subst e1
      rw [List.getElem?_set_self (by rw [List.length_set, h.2.1]; exact hi)] at hw
      cases hw; cases hjw
    · rw [List.getElem?_set_ne (fun q => e1 q.symm)] at hw
      by_cases e : j = i
      · subst e
        rw [List.getElem?_set_self (by rw [h.2.1]; omega)] at hw
        cases hw; cases hjw
      · rw [List.getElem?_set_ne (fun q => e q.symm)] at hw
        refine a3 (j, cv g w) (List.mem_cons_of_mem _ (List.mem_filter.mpr ⟨lok_in hw hjw, ?_⟩))
        have hcw : (cv g w).category = 1 := (cv_cat g w).trans (h.2.2.2.1 w (List.mem_of_getElem? hw))
        simp [e, e1, hcw]
  · rcases List.mem_cons.mp hq with rfl | hq
    · exact a3 _ List.mem_cons_self
    · obtain ⟨h3, h4⟩ := List.mem_filter.mp hq
      refine a3 (q.1, .long q.2) (List.mem_cons_of_mem _ (List.mem_filter.mpr ⟨lok_inl h3, ?_⟩))
      simp only [Bool.and_eq_true, Bool.not_eq_true'] at h4 ⊢
      exact ⟨h4.1, h4.2.1, by rw [h4.2.2]; rfl⟩
end Lok
