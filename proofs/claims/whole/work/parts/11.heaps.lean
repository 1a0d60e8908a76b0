section HeapS
variable {g : aG} {d : Nat} {y : aM} {pc : Nat} {l : List Value} {ll : List (Nat × Int64)} {st : List Value} {σ : aS} {Q : aO → aS → Prop}
theorem el_i {a j : Nat} (h : S0 a = 64 ∨ S0 a = 65) : elem σ a j = .int (aI σ a j) := by
  unfold elem; rcases h with h | h <;> rw [h] <;> rfl
theorem el_l {a j : Nat} (h : S0 a = 66) : elem σ a j = .long (aJ σ a j) := by unfold elem; rw [h]; rfl
theorem el_r {a j : Nat} (h : 67 ≤ S0 a) : elem σ a j = va_rf (aR σ a j) := by unfold elem; rw [if_neg (by omega), if_pos h]
theorem ty64 : aty 64 = .int := rfl
theorem ty65 : aty 65 = .byte := rfl
theorem ty66 : aty 66 = .long := rfl
theorem in_lt {i : Int32} {n : Nat} (h : vp_in i n) : i.toNatClampNeg < n := Nat.not_le.mp fun q => h (Or.inr q)
theorem s_iald {a : Nat} {i : Int32} (hd : decode y.2.1 pc = .ok (.iaload, 1)) (hS : S0 a = 64) (h1 : 1 ≤ a) (h2 : a ≤ aL σ) (hi : vp_in i (L0 a)) (kk : Rn g d y (pc + 1) l ll (.int (aI σ a i.toNatClampNeg) :: st) σ Q) : Rn g d y pc l ll (.int i :: .ref a :: st) σ Q := by
  intro p e R s m args below meth c H locs cells slots ls nc0 ns0 X
  have hc := wcell_arr ((aX_wd X).2.2.2.2 a h1 h2) hS (by omega)
  refine W.iald (v := .int (aI σ a i.toNatClampNeg)) X.2.1.1 X.2.1.2.1 hc ((aX_ar X (t := 64) (by omega) (by omega)).1 _ _) (fun h => by cases h) (by rw [arrV_size]; exact hi) ?_ rfl rfl hd (kk _ _ _ _ _ _ _ _ _ _ _ _ _ _ _ _ X)
  rw [arrV_read _ _ (in_lt hi), el_i (Or.inl hS)]; rfl
theorem s_bald {a : Nat} {i : Int32} (hd : decode y.2.1 pc = .ok (.baload, 1)) (hS : S0 a = 65) (h1 : 1 ≤ a) (h2 : a ≤ aL σ) (hi : vp_in i (L0 a)) (kk : Rn g d y (pc + 1) l ll (.int (aI σ a i.toNatClampNeg) :: st) σ Q) : Rn g d y pc l ll (.int i :: .ref a :: st) σ Q := by
  intro p e R s m args below meth c H locs cells slots ls nc0 ns0 X
  have hc := wcell_arr ((aX_wd X).2.2.2.2 a h1 h2) hS (by omega)
  refine W.bald (v := .int (aI σ a i.toNatClampNeg)) X.2.1.1 X.2.1.2.1 hc ((aX_ar X (t := 65) (by omega) (by omega)).1 _ _) (fun h => by cases h) (by rw [arrV_size]; exact hi) ?_ rfl rfl hd (kk _ _ _ _ _ _ _ _ _ _ _ _ _ _ _ _ X)
  rw [arrV_read _ _ (in_lt hi), el_i (Or.inr hS)]; rfl
theorem s_lald {a : Nat} {i : Int32} (hd : decode y.2.1 pc = .ok (.laload, 1)) (hS : S0 a = 66) (h1 : 1 ≤ a) (h2 : a ≤ aL σ) (hi : vp_in i (L0 a)) (kk : Rn g d y (pc + 1) l ll (.long (aJ σ a i.toNatClampNeg) :: st) σ Q) : Rn g d y pc l ll (.int i :: .ref a :: st) σ Q := by
  intro p e R s m args below meth c H locs cells slots ls nc0 ns0 X
  have hc := wcell_arr ((aX_wd X).2.2.2.2 a h1 h2) hS (by omega)
  refine W.lald (v := .long (aJ σ a i.toNatClampNeg)) X.2.1.1 X.2.1.2.1 hc ((aX_ar X (t := 66) (by omega) (by omega)).1 _ _) (fun h => by cases h) (by rw [arrV_size]; exact hi) ?_ rfl rfl hd (kk _ _ _ _ _ _ _ _ _ _ _ _ _ _ _ _ X)
  rw [arrV_read _ _ (in_lt hi), el_l hS]; rfl
theorem s_aald {a b : Nat} {i : Int32} (hd : decode y.2.1 pc = .ok (.aaload, 1)) (hS : S0 a = 67 ∨ S0 a = 68) (h1 : 1 ≤ a) (h2 : a ≤ aL σ) (hi : vp_in i (L0 a)) (hb : aR σ a i.toNatClampNeg = some b) (kk : Rn g d y (pc + 1) l ll (.ref b :: st) σ Q) : Rn g d y pc l ll (.int i :: .ref a :: st) σ Q := by
  intro p e R s m args below meth c H locs cells slots ls nc0 ns0 X
  have hc := wcell_arr ((aX_wd X).2.2.2.2 a h1 h2) rfl (by rcases hS with h | h <;> omega)
  refine W.aald (ty := aty (S0 a)) (v := cv g (.ref b)) X.2.1.1 X.2.1.2.1 hc ((aX_ar X (t := S0 a) (by rcases hS with h | h <;> omega) (by rcases hS with h | h <;> omega)).1 _ _) (by rcases hS with h | h <;> rw [h] <;> rfl) (fun h => by cases h) (by rw [arrV_size]; exact hi) ?_ rfl rfl hd (kk _ _ _ _ _ _ _ _ _ _ _ _ _ _ _ _ X)
  rw [arrV_read _ _ (in_lt hi), el_r (by rcases hS with h | h <;> omega), hb]; rfl
theorem s_alen {a : Nat} (hd : decode y.2.1 pc = .ok (.arraylength, 1)) (hS : 64 ≤ S0 a) (hS2 : S0 a ≤ 68) (h1 : 1 ≤ a) (h2 : a ≤ aL σ) (kk : Rn g d y (pc + 1) l ll (.int (nI (L0 a)) :: st) σ Q) : Rn g d y pc l ll (.ref a :: st) σ Q := by
  intro p e R s m args below meth c H locs cells slots ls nc0 ns0 X
  have hc := wcell_arr ((aX_wd X).2.2.2.2 a h1 h2) rfl hS
  exact W.alen (n := nI (L0 a)) X.2.1.1 X.2.1.2.1 hc ((aX_ar X (t := S0 a) hS hS2).1 _ _) (by rw [arrV_size]; rfl) rfl rfl hd (kk _ _ _ _ _ _ _ _ _ _ _ _ _ _ _ _ X)
theorem arr_upd {g : aG} {σ σ' : aS} {H H' : Heap} {a t j : Nat} {v : Value} (hS : S0 a = t) (ht : 64 ≤ t) (hc : H[aφ g a]? = some (arrV (gA g t) (L0 a) (fun j => cv g (elem σ a j)))) (e1 : H'[aφ g a]? = some ((arrV (gA g t) (L0 a) (fun j => cv g (elem σ a j))).setSlot j (cv g v)))
    (hv : ∀ i, elem σ' a i = if i = j then v else elem σ a i) : wcell g σ' a H' := by
  refine wcell_of_arr hS ht ?_
  rw [e1, arrV_store]
  congr 2
  funext i
  rw [hv i]
  by_cases e : i = j
  · simp [updV, e]
  · simp [updV, e]
theorem s_iast {a : Nat} {i x : Int32} (hd : decode y.2.1 pc = .ok (.iastore, 1)) (hS : S0 a = 64) (h1 : 1 ≤ a) (h2 : a ≤ aL σ) (hi : vp_in i (L0 a)) (kk : Rn g d y (pc + 1) l ll st (uI σ a i.toNatClampNeg x) Q) : Rn g d y pc l ll (.int x :: .int i :: .ref a :: st) σ Q := by
  intro p e R s m args below meth c H locs cells slots ls nc0 ns0 X
  have hw := aX_wd X
  have hc := wcell_arr (hw.2.2.2.2 a h1 h2) hS (by omega)
  refine W.iast X.2.1.1 X.2.1.2.1 hc ((aX_ar X (t := 64) (by omega) (by omega)).1 _ _) (fun h => by cases h) (by rw [arrV_size]; exact hi) rfl rfl hd (fun H' e1 e2 e3 => ?_)
  refine kk _ _ _ _ _ _ _ _ _ _ _ _ _ _ _ _ (aX_put X (wd_upd hw h1 h2 e2 e3 rfl rfl rfl (fun x hx j => uI_o hx) (arr_upd (v := .int x) hS (by omega) hc e1 (fun q => ?_))) h1 h2 rfl rfl)
  rw [el_i (Or.inl hS), el_i (Or.inl hS)]
  by_cases e : q = i.toNatClampNeg
  · simp [uI, aI, e]
  · simp [uI, aI, e]
theorem s_bast {a : Nat} {i x : Int32} (hd : decode y.2.1 pc = .ok (.bastore, 1)) (hS : S0 a = 65) (h1 : 1 ≤ a) (h2 : a ≤ aL σ) (hi : vp_in i (L0 a)) (kk : Rn g d y (pc + 1) l ll st (uI σ a i.toNatClampNeg x.toInt8.toInt32) Q) : Rn g d y pc l ll (.int x :: .int i :: .ref a :: st) σ Q := by
  intro p e R s m args below meth c H locs cells slots ls nc0 ns0 X
  have hw := aX_wd X
  have hc := wcell_arr (hw.2.2.2.2 a h1 h2) hS (by omega)
  refine W.bast X.2.1.1 X.2.1.2.1 hc ((aX_ar X (t := 65) (by omega) (by omega)).1 _ _) (fun h => by cases h) (by rw [arrV_size]; exact hi) rfl rfl hd (fun H' e1 e2 e3 => ?_)
  rw [narrow_byte] at e1
  refine kk _ _ _ _ _ _ _ _ _ _ _ _ _ _ _ _ (aX_put X (wd_upd hw h1 h2 e2 e3 rfl rfl rfl (fun x hx j => uI_o hx) (arr_upd (v := .int x.toInt8.toInt32) hS (by omega) hc e1 (fun q => ?_))) h1 h2 rfl rfl)
  rw [el_i (Or.inr hS), el_i (Or.inr hS)]
  by_cases e : q = i.toNatClampNeg
  · simp [uI, aI, e]
  · simp [uI, aI, e]
theorem s_last {a : Nat} {i : Int32} {x : Int64} (hd : decode y.2.1 pc = .ok (.lastore, 1)) (hS : S0 a = 66) (h1 : 1 ≤ a) (h2 : a ≤ aL σ) (hi : vp_in i (L0 a)) (kk : Rn g d y (pc + 1) l ll st (uJ σ a i.toNatClampNeg x) Q) : Rn g d y pc l ll (.long x :: .int i :: .ref a :: st) σ Q := by
  intro p e R s m args below meth c H locs cells slots ls nc0 ns0 X
  have hw := aX_wd X
  have hc := wcell_arr (hw.2.2.2.2 a h1 h2) hS (by omega)
  refine W.last X.2.1.1 X.2.1.2.1 hc ((aX_ar X (t := 66) (by omega) (by omega)).1 _ _) (fun h => by cases h) (by rw [arrV_size]; exact hi) rfl rfl hd (fun H' e1 e2 e3 => ?_)
  refine kk _ _ _ _ _ _ _ _ _ _ _ _ _ _ _ _ (aX_put X (wd_upd hw h1 h2 e2 e3 rfl rfl rfl (fun x hx j => uJ_o hx) (arr_upd (v := .long x) hS (by omega) hc e1 (fun q => ?_))) h1 h2 rfl rfl)
  rw [el_l hS, el_l hS]
  by_cases e : q = i.toNatClampNeg
  · simp [uJ, aJ, e]
  · simp [uJ, aJ, e]
/-- a row of references takes an object of its class -/
theorem s_aast {a b t ci : Nat} {i : Int32} (hd : decode y.2.1 pc = .ok (.aastore, 1)) (hS : S0 a = t) (ht : (t = 67 ∧ ci = 9) ∨ (t = 68 ∧ ci = 5)) (h1 : 1 ≤ a) (h2 : a ≤ aL σ) (hi : vp_in i (L0 a)) (hb : S0 b = ci) (hb1 : 1 ≤ b) (hb2 : b ≤ aL σ) (kk : Rn g d y (pc + 1) l ll st (uR σ a i.toNatClampNeg (some b)) Q) : Rn g d y pc l ll (.ref b :: .int i :: .ref a :: st) σ Q := by
  intro p e R s m args below meth c H locs cells slots ls nc0 ns0 X
  have hw := aX_wd X
  have ht1 : 64 ≤ t := by omega
  have hc := wcell_arr (hw.2.2.2.2 a h1 h2) hS ht1
  have hc13 : ci < 13 := by omega
  obtain ⟨cell, q1, q2, q3, -⟩ := wcell_obj (hw.2.2.2.2 b hb1 hb2) hb (by omega)
  obtain ⟨-, hfc, kC, hkC, hkind⟩ := aX_kn X hc13
  have hC : aty t = .object (cR ci) := by rcases ht with ⟨rfl, rfl⟩ | ⟨rfl, rfl⟩ <;> rfl
  have hRA := (aX_ar X (t := t) ht1 (by omega)).2
  rw [hC] at hRA
  obtain ⟨kA, comp, g1, g2, g3, g4⟩ := hRA
  have hcomp : comp = (gD g).1 ci := Option.some.inj (g3.symm.trans hfc)
  subst hcomp
  refine W.aast X.2.1.1 X.2.1.2.1 (k := kA) (kv := kC) (kcomp := kC) (comp := (gD g).1 ci) hc (fun q h => by cases h) (fun h => by cases h) g1 g2 rfl hkC ⟨fun q => hi (Or.inl q), by rw [arrV_size]; exact in_lt hi⟩ q1 (fun q h => by rw [q3] at h; cases h) (by rw [q2]; exact hkC) (by rw [q2]; exact va_assign ⟨hfc, kC, hkC, hkind⟩) rfl rfl hd (fun H' e1 e2 e3 => ?_)
  refine kk _ _ _ _ _ _ _ _ _ _ _ _ _ _ _ _ (aX_put X (wd_upd hw h1 h2 e2 e3 rfl rfl rfl (fun x hx j => uR_o hx) (arr_upd (v := .ref b) hS ht1 hc e1 (fun q => ?_))) h1 h2 rfl rfl)
  rw [el_r (by omega), el_r (by omega)]
  by_cases e : q = i.toNatClampNeg
  · simp [uR, aR, e, va_rf]
  · simp [uR, aR, e]
end HeapS
