section Made
variable {g : aG} {d : Nat} {y : aM} {pc : Nat} {l : List Value} {ll : List (Nat × Int64)} {st : List Value} {σ : aS} {Q : aO → aS → Prop}
variable {p : Program} {e : Env} {R : Room} {s : State} {m : MethodId} {args : Array Value} {below : List Frame} {meth : Method} {c : Code} {H : Heap} {locs : List Loc} {cells slots : Nat} {ls : Array Slot} {nc0 ns0 : Nat}
/-- one more cell, its fields at their defaults, of n slots -/
def nS (σ : aS) (n : Nat) : aS := (fun x j => if x = aL σ + 1 then 0 else σ.1 x j, fun x j => if x = aL σ + 1 then 0 else σ.2.1 x j, fun x j => if x = aL σ + 1 then none else σ.2.2.1 x j, aL σ + 1, aN σ + 1, aW σ + n)
theorem nS_o {n x j : Nat} (h : x ≠ aL σ + 1) : fval (nS σ n) x j = fval σ x j ∧ elem (nS σ n) x j = elem σ x j := by
  constructor <;> simp [fval, elem, nS, aI, aJ, aR, h]
theorem wd_new {H' : Heap} {n : Nat} (hw : aWd g σ H) (hsync : aL σ = aN σ) (hnc : aN σ + 1 ≤ 600000) (hns : aW σ + n ≤ 7000000) (hz : H'.size = H.size + 1) (ho : ∀ q, q < H.size → H'[q]? = H[q]?) (hc : wcell g (nS σ n) (aL σ + 1) H') : aWd g (nS σ n) H' := by
  refine ⟨by rw [hz, hw.1]; show _ = gz g + (aN σ + 1); omega, by show aL σ + 1 ≤ aN σ + 1; omega, by show aN σ + 1 ≤ 600000 ∧ aW σ + n ≤ 7000000; omega, fun q hq => ?_, fun x hx1 hx2 => ?_⟩
  · rw [ho q (by rw [hw.1]; omega)]; exact hw.2.2.2.1 q hq
  · by_cases e : x = aL σ + 1
    · subst e; exact hc
    · have hx3 : x ≤ aL σ := by have : x ≤ aL σ + 1 := hx2; omega
      exact wcell_keep (hw.2.2.2.2 x hx1 hx3) (ho _ (by rw [aφ_own hx1 (wd_le hw hx3), hw.1]; omega)) (fun k => nS_o e)
theorem aX_new (X : aX g d y l ll σ p e R s m args below meth c H locs cells slots ls nc0 ns0) {H' : Heap} {n : Nat} (hw : aWd g (nS σ n) H') : aX g d y l ll (nS σ n) p e R s m args below meth c H' locs (cells + 1) (slots + n) ls nc0 ns0 :=
  ⟨X.1, X.2.1, X.2.2.1, X.2.2.2.1, hw, X.2.2.2.2.2.1, by have := X.2.2.2.2.2.2.1; show cells + 1 + nc0 = aN σ + 1; omega, by have := X.2.2.2.2.2.2.2; show slots + n + ns0 = aW σ + n; omega⟩
theorem aX_room (X : aX g d y l ll σ p e R s m args below meth c H locs cells slots ls nc0 ns0) {n : Nat} (hnc : aN σ + 1 ≤ 600000) (hns : aW σ + n ≤ 7000000) : cells + 1 ≤ R.cells ∧ slots + n ≤ R.slots := by
  have h1 := X.2.2.1.2.2.1
  have h2 := X.2.2.1.2.2.2
  have h3 := X.2.2.2.2.2.2.1
  have h4 := X.2.2.2.2.2.2.2
  exact ⟨by omega, by omega⟩
theorem aφ_next (hw : aWd g σ H) (hsync : aL σ = aN σ) (hnc : aN σ + 1 ≤ 600000) : aφ g (aL σ + 1) = H.size := by
  rw [aφ_own (by omega) (by omega), hw.1]; omega
theorem s_new {idx ci : Nat} (hd : decode y.2.1 pc = .ok (.new idx, 3)) (hcl : Cond.classLink y.1.cls idx (cR ci) ∈ lw_good) (hc : ci < 13) (hsync : aL σ = aN σ) (hS : S0 (aL σ + 1) = ci) (hnc : aN σ + 1 ≤ 600000) (hns : aW σ + cN ci ≤ 7000000)
    (kk : Rn g d y (pc + 3) l ll (.ref (aL σ + 1) :: st) (nS σ (cN ci)) Q) : Rn g d y pc l ll st σ Q := by
  intro p e R s m args below meth c H locs cells slots ls nc0 ns0 X
  have hw := aX_wd X
  have hKn := aX_kn X hc
  refine W.newcK X.2.1.1 X.2.1.2.1 (aX_own X) (aX_g X _ hcl) (aX_g X _ (ii ci hc).1) (aX_g X _ (ii ci hc).2) rfl hd (aX_room X hnc hns).1 (aX_room X hnc hns).2 hKn.2.1 (aφ_next hw hsync hnc).symm fun H1 kC hkC e1 z1 o1 => ?_
  have ho : ∀ q, q < H.size → H1[q]? = H[q]? := fun q hq => o1 q (by rw [aφ_next hw hsync hnc]; exact hq)
  have hz : H1.size = H.size + 1 := by rw [z1, aφ_next hw hsync hnc]
  refine kk _ _ _ _ _ _ _ _ _ _ _ _ _ _ _ _ (aX_new X (wd_new hw hsync hnc hns hz ho (wcell_of_obj hS (by omega) ((u_born (cty ci) (aX_g X) (ly ci hc) hKn hkC e1 (ct_ok ci hc)).to (fun k hk => ?_)))))
  rcases ct_int ci hc k hk with h | h
  · have : fval (nS σ (cN ci)) (aL σ + 1) k = .null := by simp [fval, nS, aR, hS, h, va_rf]
    rw [this]
    cases h2 : cty ci k <;> rw [h2] at h <;> first | rfl | cases h
  · have : fval (nS σ (cN ci)) (aL σ + 1) k = .int 0 := by simp [fval, nS, aI, hS, h, FieldType.isReference]
    rw [this, h]; rfl
theorem nm_arr (X : aX g d y l ll σ p e R s m args below meth c H locs cells slots ls nc0 ns0) {t : Nat} (ht : t = 64 ∨ t = 65 ∨ t = 66) {cA : ClassId} (h : s.vm.findClass ("[" ++ (aty t).toString) = some cA) : cA = gA g t := by
  have h2 := (aX_ar X (t := t) (by omega) (by omega)).2
  rcases ht with rfl | rfl | rfl <;> exact Option.some.inj (h.symm.trans h2)
theorem s_newarr {t n : Nat} {atype : ArrayType} {x : Int32} (hd : decode y.2.1 pc = .ok (.newarray atype, 2)) (hty : newarray.typeOf atype = aty t) (ht : t = 64 ∨ t = 65 ∨ t = 66) (hcl : Cond.arrayClass (aty t) ∈ lw_good) (hx : ¬ x < 0) (hn : x.toNatClampNeg = n) (hn2 : n ≤ 10000) (hsync : aL σ = aN σ) (hS : S0 (aL σ + 1) = t) (hL : L0 (aL σ + 1) = n) (hnc : aN σ + 1 ≤ 600000) (hns : aW σ + n ≤ 7000000)
    (kk : Rn g d y (pc + 2) l ll (.ref (aL σ + 1) :: st) (nS σ n) Q) : Rn g d y pc l ll (.int x :: st) σ Q := by
  intro p e R s m args below meth c H locs cells slots ls nc0 ns0 X
  have hw := aX_wd X
  refine va_newaK X.2.1.1 X.2.1.2.1 (by rw [hty]; exact aX_g X _ hcl) rfl hd rfl hx hn (by rw [hty]; rcases ht with rfl | rfl | rfl <;> simp only [ty64, ty65, ty66, componentBytes] <;> omega) (aX_room X hnc hns).1 (aX_room X hnc hns).2 (aφ_next hw hsync hnc).symm fun H1 cA e1 z1 o1 _ hNm => ?_
  rw [hty] at e1 hNm
  have hcA := nm_arr X ht hNm
  subst hcA
  have ho : ∀ q, q < H.size → H1[q]? = H[q]? := fun q hq => o1 q (by rw [aφ_next hw hsync hnc]; exact hq)
  have hz : H1.size = H.size + 1 := by rw [z1, aφ_next hw hsync hnc]
  refine kk _ _ _ _ _ _ _ _ _ _ _ _ _ _ _ _ (aX_new X (wd_new hw hsync hnc hns hz ho (wcell_of_arr hS (by omega) ?_)))
  rw [e1, hL]
  congr 2
  funext j
  rcases ht with rfl | rfl | rfl
  · rw [el_i (Or.inl hS)]; simp [nS, aI, cv]; rfl
  · rw [el_i (Or.inr hS)]; simp [nS, aI, cv]; rfl
  · rw [el_l hS]; simp [nS, aJ, cv]; rfl
theorem s_anew {t ci n idx : Nat} {x : Int32} (hd : decode y.2.1 pc = .ok (.anewarray idx, 3)) (ht : (t = 67 ∧ ci = 9) ∨ (t = 68 ∧ ci = 5)) (hcl : Cond.classLink y.1.cls idx (cR ci) ∈ lw_good) (hao : Cond.arrayOver (.object (cR ci)) ∈ lw_tbl) (hx : ¬ x < 0) (hn : x.toNatClampNeg = n) (hn2 : n ≤ 10000) (hsync : aL σ = aN σ) (hS : S0 (aL σ + 1) = t) (hL : L0 (aL σ + 1) = n) (hnc : aN σ + 1 ≤ 600000) (hns : aW σ + n ≤ 7000000)
    (kk : Rn g d y (pc + 3) l ll (.ref (aL σ + 1) :: st) (nS σ n) Q) : Rn g d y pc l ll (.int x :: st) σ Q := by
  intro p e R s m args below meth c H locs cells slots ls nc0 ns0 X
  have hw := aX_wd X
  subst hn
  have hover : va_AO (cR ci) s := va_AO.moved (aX_wm X).alike (va_AO.of (by have := X.1.2.1 _ hao; exact this))
  refine W.anew X.2.1.1 X.2.1.2.1 (aX_own X) (aX_g X _ hcl) (va_AO.use hover) rfl hd rfl hx (by omega) (aX_room X hnc hns).1 (aX_room X hnc hns).2 fun cA kA comp f1 f2 f3 f4 => ?_
  have hC : aty t = .object (cR ci) := by rcases ht with ⟨rfl, rfl⟩ | ⟨rfl, rfl⟩ <;> rfl
  have hRA := (aX_ar X (t := t) (by omega) (by omega)).2
  rw [hC] at hRA
  obtain ⟨kA2, comp2, g1, g2, g3, g4⟩ := hRA
  have hcA : cA = gA g t := Option.some.inj (f1.symm.trans g4)
  subst hcA
  have e0 := aφ_next hw hsync hnc
  generalize hH1 : H.push ({ cls := gA g t, slots := Array.replicate x.toNatClampNeg .null, vm := .none } : Cell) = H1
  have z1 : H1.size = H.size + 1 := by rw [← hH1, Array.size_push]
  have e1 : H1[H.size]? = some (arrV (gA g t) x.toNatClampNeg (fun _ => .null)) := by rw [← hH1, Array.getElem?_push_size, ← arrV_new]
  have o1 : ∀ q : Nat, q < H.size → H1[q]? = H[q]? := fun q hq => by rw [← hH1, Array.getElem?_push, if_neg (Nat.ne_of_lt hq)]
  rw [← e0]
  refine kk _ _ _ _ _ _ _ _ _ _ _ _ _ _ _ _ (aX_new X (wd_new hw hsync hnc hns z1 o1 (wcell_of_arr hS (by omega) ?_)))
  rw [e0, e1, hL]
  congr 2
  funext j
  rw [el_r (by omega)]
  simp [nS, aR, va_rf, cv]
/-! constants -/
theorem s_ldc {idx : Nat} {v : Int32} (hd : decode y.2.1 pc = .ok (.ldc idx, 2)) (hw : Cond.constant y.1.cls idx v ∈ lw_good) (k : Rn g d y (pc + 2) l ll (.int v :: st) σ Q) : Rn g d y pc l ll st σ Q := by
  intro p e R s m args below meth c H locs cells slots ls nc0 ns0 X
  exact lv_ldc X.2.1.1 X.2.1.2.1 (aX_own X) (aX_g X _ hw) hd (k _ _ _ _ _ _ _ _ _ _ _ _ _ _ _ _ X)
theorem s_ldcw {idx : Nat} {v : Int32} (hd : decode y.2.1 pc = .ok (.ldc_w idx, 3)) (hw : Cond.constant y.1.cls idx v ∈ lw_good) (k : Rn g d y (pc + 3) l ll (.int v :: st) σ Q) : Rn g d y pc l ll st σ Q := by
  intro p e R s m args below meth c H locs cells slots ls nc0 ns0 X
  exact lv_ldcw X.2.1.1 X.2.1.2.1 (aX_own X) (aX_g X _ hw) hd (k _ _ _ _ _ _ _ _ _ _ _ _ _ _ _ _ X)
theorem s_ldc2 {idx : Nat} {v : Int64} (hd : decode y.2.1 pc = .ok (.ldc2_w idx, 3)) (hw : Cond.constantLong y.1.cls idx v ∈ lw_good) (k : Rn g d y (pc + 3) l ll (.long v :: st) σ Q) : Rn g d y pc l ll st σ Q := by
  intro p e R s m args below meth c H locs cells slots ls nc0 ns0 X
  exact lv_ldc2 X.2.1.1 X.2.1.2.1 (aX_own X) (aX_g X _ hw) hd (k _ _ _ _ _ _ _ _ _ _ _ _ _ _ _ _ X)
theorem aφ_str (g : aG) (j : Nat) : aφ g (1000000 + 2 * j) = gK g j := by
  unfold aφ; rw [if_neg (by omega), if_neg (by omega), if_pos (by omega)]; congr 1; omega
theorem aφ_sby (g : aG) (j : Nat) : aφ g (1000000 + 2 * j + 1) = gV g j := by
  unfold aφ; rw [if_neg (by omega), if_neg (by omega), if_neg (by omega)]; congr 1; omega
theorem s_ldcS {idx j : Nat} {tx : String} (hd : decode y.2.1 pc = .ok (.ldc idx, 2)) (hw : Cond.stringRef y.1.cls idx tx ∈ lw_tbl) (hj : stx[j]? = some tx) (k : Rn g d y (pc + 2) l ll (.ref (1000000 + 2 * j) :: st) σ Q) : Rn g d y pc l ll st σ Q := by
  intro p e R s m args below meth c H locs cells slots ls nc0 ns0 X
  have h := k _ _ _ _ _ _ _ _ _ _ _ _ _ _ _ _ X
  refine va_ldcS X.2.1.1 X.2.1.2.1 (aX_own X) (vk_R.warm (aX_wm X) (X.1.2.2.2.2.2.2.1 _ _ _ hw j hj)) hd ?_
  rw [← aφ_str g j]; exact h
/-- the script -/
theorem aX_x (X : aX g d y l ll σ p e R s m args below meth c H locs cells slots ls nc0 ns0) : va_X (gb g) (gL g) (gx g) s s.heap :=
  (va_X.moved (aX_wm X).alike X.1.2.2.2.2.1).kept (X.2.1.2.2.2.2.2.2.2.2.2.2 _ X.1.2.2.2.2.2.1)
theorem s_sld {i : Int32} (hd : decode y.2.1 pc = .ok (.iaload, 1)) (hi : vp_in i (gL g)) (k : Rn g d y (pc + 1) l ll (.int (gx g i.toNatClampNeg) :: st) σ Q) : Rn g d y pc l ll (.int i :: .ref 0 :: st) σ Q := by
  intro p e R s m args below meth c H locs cells slots ls nc0 ns0 X
  have hb := X.1.2.2.2.2.2.1
  have h1 := X.2.1.2.2.2.2.2.2.2.2.2.1
  exact va_sld X.2.1.1 X.2.1.2.1 (aX_x X) (by rw [h1]; omega) (by omega) (aX_S X) hi hd (k _ _ _ _ _ _ _ _ _ _ _ _ _ _ _ _ X)
theorem s_slen (hd : decode y.2.1 pc = .ok (.arraylength, 1)) (k : Rn g d y (pc + 1) l ll (.int (nI (gL g)) :: st) σ Q) : Rn g d y pc l ll (.ref 0 :: st) σ Q := by
  intro p e R s m args below meth c H locs cells slots ls nc0 ns0 X
  have hb := X.1.2.2.2.2.2.1
  have h1 := X.2.1.2.2.2.2.2.2.2.2.2.1
  exact va_slen (b := gb g) X.2.1.1 X.2.1.2.1 (aX_x X) (by rw [h1]; omega) (by omega) (aX_S X) hd (k _ _ _ _ _ _ _ _ _ _ _ _ _ _ _ _ X)
end Made
