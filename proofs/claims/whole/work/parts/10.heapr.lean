section HeapR
variable {g : aG} {d : Nat} {y : aM} {pc : Nat} {l : List Value} {ll : List (Nat × Int64)} {st : List Value} {σ : aS} {Q : aO → aS → Prop}
variable {p : Program} {e : Env} {R : Room} {s : State} {m : MethodId} {args : Array Value} {below : List Frame} {meth : Method} {c : Code} {H : Heap} {locs : List Loc} {cells slots : Nat} {ls : Array Slot} {nc0 ns0 : Nat}
theorem aX_wm (X : aX g d y l ll σ p e R s m args below meth c H locs cells slots ls nc0 ns0) : (gs g).WarmedH s.vm := X.2.1.2.2.2.2.2.2.1
theorem aX_own (X : aX g d y l ll σ p e R s m args below meth c H locs cells slots ls nc0 ns0) : s.vm.findClass y.1.cls = some m.cls := X.2.1.2.2.2.2.2.1
theorem aX_wd (X : aX g d y l ll σ p e R s m args below meth c H locs cells slots ls nc0 ns0) : aWd g σ H := X.2.2.2.2.1
theorem aX_w (X : aX g d y l ll σ p e R s m args below meth c H locs cells slots ls nc0 ns0) {w : Cond} (hw : w ∈ lw_tbl) (hg : goodWord w = true) : w.before args s = true :=
  word_at (aX_wm X) (good_of_word hg) (X.1.2.1 w hw)
theorem aX_g (X : aX g d y l ll σ p e R s m args below meth c H locs cells slots ls nc0 ns0) : ∀ w ∈ lw_good, w.before args s = true := fun w hw =>
  aX_w X (List.mem_filter.mp hw).1 (List.mem_filter.mp hw).2
theorem aX_kn (X : aX g d y l ll σ p e R s m args below meth c H locs cells slots ls nc0 ns0) {ci : Nat} (hc : ci < 13) : u_Kn s (cR ci) (fT ci) (cN ci) ((gD g).1 ci) ((gD g).2 ci) :=
  u_Kn_moved (aX_wm X).alike (X.1.2.2.1 ci _ (cl_at ci hc))
theorem aX_ar (X : aX g d y l ll σ p e R s m args below meth c H locs cells slots ls nc0 ns0) {t : Nat} (h1 : 64 ≤ t) (h2 : t ≤ 68) : ArrOfT s (gA g t) (aty t) ∧ va_RA s (gA g t) (aty t) :=
  ⟨arrOfT_moved (aX_wm X).alike (X.1.2.2.2.1 t h1 h2).1, (X.1.2.2.2.1 t h1 h2).2.moved (aX_wm X).alike⟩
/-- the frame condition as the kit says it -/
theorem aX_S (X : aX g d y l ll σ p e R s m args below meth c H locs cells slots ls nc0 ns0) : va_S (fun q => gz g ≤ q) s.heap H locs := by
  have hw := aX_wd X
  have h1 := X.2.1.2.2.2.2.2.2.2.2.2.1
  have h2 := X.2.1.2.2.2.2.2.2.2.2.2.2
  have h3 := X.2.2.2.2.2.2.1
  refine ⟨by rw [h1, hw.1]; omega, fun q _ hq => ?_, X.2.2.2.2.2.1⟩
  rw [hw.2.2.2.1 q (by omega), h2 q (by omega)]
theorem aX_put (X : aX g d y l ll σ p e R s m args below meth c H locs cells slots ls nc0 ns0) {σ' : aS} {H' : Heap} {a k : Nat} (hw : aWd g σ' H') (h1 : 1 ≤ a) (h2 : a ≤ aL σ) (hN : aN σ' = aN σ) (hW : aW σ' = aW σ) : aX g d y l ll σ' p e R s m args below meth c H' (locs ++ [⟨aφ g a, k⟩]) cells slots ls nc0 ns0 := by
  refine ⟨X.1, X.2.1, X.2.2.1, X.2.2.2.1, hw, fun q hq => ?_, by rw [hN]; exact X.2.2.2.2.2.2.1, by rw [hW]; exact X.2.2.2.2.2.2.2⟩
  rcases List.mem_append.mp hq with h | h
  · exact X.2.2.2.2.2.1 q h
  · rw [List.mem_singleton.mp h]
    show gz g ≤ aφ g a
    rw [aφ_own h1 (wd_le (aX_wd X) h2)]; omega
/-! getfield -/
theorem s_get {idx ci k a : Nat} (hd : decode y.2.1 pc = .ok (.getfield idx, 3)) (hf : fldW y.1.cls idx ci k) (hS : S0 a = ci) (h1 : 1 ≤ a) (h2 : a ≤ aL σ) (kk : Rn g d y (pc + 3) l ll (fval σ a k :: st) σ Q) : Rn g d y pc l ll (.ref a :: st) σ Q := by
  intro p e R s m args below meth c H locs cells slots ls nc0 ns0 X
  obtain ⟨hc, hk, hlk⟩ := hf
  have hw := aX_wd X
  obtain ⟨cell, q1, q2, q3, q4⟩ := wcell_obj (hw.2.2.2.2 a h1 h2) hS (by omega)
  obtain ⟨hSl, hfc, kC, hkC, hkind⟩ := aX_kn X hc
  obtain ⟨cf, kf, fi, f, hi, hsl⟩ := hSl k hk
  have hst := (u_facts hfc hkC (u_lays (aX_g X) (ly ci hc) hk) hi).1
  rcases hlk with hl | ⟨host, hl⟩
  · exact W.getf X.2.1.1 X.2.1.2.1 (aX_own X) (aX_w X hl rfl) hi hst q1 (by rw [q3]; exact fun h => by cases h) (v := cv g (fval σ a k)) (by rw [hsl]; exact q4 k hk) rfl rfl hd (kk _ _ _ _ _ _ _ _ _ _ _ _ _ _ _ _ X)
  · have hl2 : (Cond.fieldLinkNest y.1.cls idx (fT ci k).1 (fT ci k).2.1 (fT ci k).2.2.1 host).before args s = true := va_Nw.use rfl (va_Nw.warmF (aX_wm X) (va_Nw.of rfl (X.1.2.1 _ hl)))
    exact va_Wgetf X.2.1.1 X.2.1.2.1 (aX_own X) hl2 hi hst q1 (by rw [q3]; exact fun h => by cases h) (v := cv g (fval σ a k)) (by rw [hsl]; exact q4 k hk) rfl rfl hd (kk _ _ _ _ _ _ _ _ _ _ _ _ _ _ _ _ X)
theorem fv_i {ci k a : Nat} (hS : S0 a = ci) (hr : (cty ci k).isReference = false) : fval σ a k = .int (aI σ a k) := by unfold fval; rw [hS, hr]; rfl
theorem fv_r {ci k a b : Nat} (hS : S0 a = ci) (hr : (cty ci k).isReference = true) (h : aR σ a k = some b) : fval σ a k = .ref b := by unfold fval; rw [hS, hr, h]; rfl
theorem s_geti {idx ci k a : Nat} (hd : decode y.2.1 pc = .ok (.getfield idx, 3)) (hf : fldW y.1.cls idx ci k) (hr : (cty ci k).isReference = false) (hS : S0 a = ci) (h1 : 1 ≤ a) (h2 : a ≤ aL σ) (kk : Rn g d y (pc + 3) l ll (.int (aI σ a k) :: st) σ Q) : Rn g d y pc l ll (.ref a :: st) σ Q :=
  s_get hd hf hS h1 h2 (by rw [fv_i hS hr]; exact kk)
theorem s_getr {idx ci k a b : Nat} (hd : decode y.2.1 pc = .ok (.getfield idx, 3)) (hf : fldW y.1.cls idx ci k) (hr : (cty ci k).isReference = true) (hS : S0 a = ci) (h1 : 1 ≤ a) (h2 : a ≤ aL σ) (hb : aR σ a k = some b) (kk : Rn g d y (pc + 3) l ll (.ref b :: st) σ Q) : Rn g d y pc l ll (.ref a :: st) σ Q :=
  s_get hd hf hS h1 h2 (by rw [fv_r hS hr hb]; exact kk)
/-! putfield -/
theorem uI_o {a k x j : Nat} {v : Int32} (h : x ≠ a) : fval (uI σ a k v) x j = fval σ x j ∧ elem (uI σ a k v) x j = elem σ x j := by
  constructor <;> simp [fval, elem, uI, aI, aJ, aR, h]
theorem uR_o {a k x j : Nat} {v : Option Nat} (h : x ≠ a) : fval (uR σ a k v) x j = fval σ x j ∧ elem (uR σ a k v) x j = elem σ x j := by
  constructor <;> simp [fval, elem, uR, aI, aJ, aR, h]
theorem uJ_o {a k x j : Nat} {v : Int64} (h : x ≠ a) : fval (uJ σ a k v) x j = fval σ x j ∧ elem (uJ σ a k v) x j = elem σ x j := by
  constructor <;> simp [fval, elem, uJ, aI, aJ, aR, h]
theorem ap_slots (X : aX g d y l ll σ p e R s m args below meth c H locs cells slots ls nc0 ns0) {ci : Nat} (hc : ci < 13) : ∀ x z, x < cN ci → z < cN ci → x ≠ z → (gD g).2 ci x ≠ (gD g).2 ci z := by
  intro x z hx hz hne
  obtain ⟨hSl, -⟩ := aX_kn X hc
  obtain ⟨_, _, _, fa, hia, ea⟩ := hSl x hx
  obtain ⟨_, _, _, fb, hib, eb⟩ := hSl z hz
  rw [← ea, ← eb]
  refine u_apart (u_lays (aX_g X) (ly ci hc) hx) (u_lays (aX_g X) (ly ci hc) hz) hia hib ?_
  rw [(State.fieldFound?_type hia (ct_ok ci hc x hx)).1, (State.fieldFound?_type hib (ct_ok ci hc z hz)).1]
  exact cn_ok ci hc x hx z hz hne
theorem s_put {idx ci k a : Nat} {v : Value} {σ' : aS} (hd : decode y.2.1 pc = .ok (.putfield idx, 3)) (hf : fldW y.1.cls idx ci k) (hS : S0 a = ci) (h1 : 1 ≤ a) (h2 : a ≤ aL σ)
    (hfin : (fT ci k).2.2.2 = false ∨ ((fT ci k).2.2.2 = true ∧ y.1.name = "<init>" ∧ (fT ci k).1 = y.1.cls)) (hn : narrow (cty ci k) (cv g v) = cv g v) (hfit : fits (cty ci k) (cv g v) = true)
    (hL : aL σ' = aL σ) (hN : aN σ' = aN σ) (hW : aW σ' = aW σ) (ho : ∀ x, x ≠ a → ∀ j, fval σ' x j = fval σ x j ∧ elem σ' x j = elem σ x j) (hv : ∀ j, fval σ' a j = if j = k then v else fval σ a j)
    (kk : Rn g d y (pc + 3) l ll st σ' Q) : Rn g d y pc l ll (v :: .ref a :: st) σ Q := by
  intro p e R s m args below meth c H locs cells slots ls nc0 ns0 X
  obtain ⟨hc, hk, hlk⟩ := hf
  have hw := aX_wd X
  obtain ⟨cell, q1, q2, q3, q4⟩ := wcell_obj (hw.2.2.2.2 a h1 h2) hS (by omega)
  obtain ⟨hSl, hfc, kC, hkC, hkind⟩ := aX_kn X hc
  obtain ⟨cf, kf, fi, f, hi, hsl⟩ := hSl k hk
  have hst := (u_facts hfc hkC (u_lays (aX_g X) (ly ci hc) hk) hi).1
  have hap := ap_slots X hc
  have hlay := aX_g X _ (ly ci hc _ (u_in_lay hk))
  unfold u_lay at hlay
  have fin : ∀ (H' : Heap), H'[aφ g a]? = some (cell.setSlot f.slot (cv g v)) → H'.size = H.size → (∀ q : Nat, q ≠ aφ g a → H'[q]? = H[q]?) → aWd g σ' H' := by
    intro H' e1 e2 e3
    refine wd_upd hw h1 h2 e2 e3 hL hN hW ho (wcell_of_obj hS (by omega) ?_)
    rw [hsl] at e1
    refine t_OB.to (V := updV (fun k => cv g (fval σ a k)) k (cv g v)) ⟨_, e1, q2, q3, t_set q4 hap hk (cv g v)⟩ (fun j _ => ?_)
    rw [hv j]
    by_cases ej : j = k
    · simp [updV, ej]
    · simp [updV, ej]
  have hlt : f.slot < cell.slots.size := by rw [hsl]; exact k2_hasslot (q4 k hk)
  rcases hfin with hfin | ⟨hfin, hini, hdecl⟩
  · rw [if_neg (by rw [hfin]; decide)] at hlay
    have h6 := u_store hfc hkC hkind hlay hi (ct_ok ci hc k hk) hn hfit
    rcases hlk with hl | ⟨host, hl⟩
    · exact W.putK X.2.1.1 X.2.1.2.1 (f := f) ⟨aX_own X, aX_w X hl rfl, ⟨_, _, _, hi⟩, hst⟩ (by rw [q2]; exact h6) q1 q3 hlt rfl rfl hd fun H' e1 e2 e3 => kk _ _ _ _ _ _ _ _ _ _ _ _ _ _ _ _ (aX_put X (fin H' e1 e2 e3) h1 h2 hN hW)
    · have hl2 : (Cond.fieldLinkNest y.1.cls idx (fT ci k).1 (fT ci k).2.1 (fT ci k).2.2.1 host).before args s = true := va_Nw.use rfl (va_Nw.warmF (aX_wm X) (va_Nw.of rfl (X.1.2.1 _ hl)))
      exact va_WputK X.2.1.1 X.2.1.2.1 (f := f) (aX_own X) hl2 hi hst (by rw [q2]; exact h6) q1 q3 hlt rfl rfl hd fun H' e1 e2 e3 => kk _ _ _ _ _ _ _ _ _ _ _ _ _ _ _ _ (aX_put X (fin H' e1 e2 e3) h1 h2 hN hW)
  · rw [if_pos hfin] at hlay
    have hcf : m.cls = cf := by
      obtain ⟨_, _, c', _, _, _, -, -, hf', -, -, -, hown2, -⟩ := Cond.laysFinal_spec hlay
      have e1 : c' = cf := by have := hi.symm.trans hf'; simp at this; exact this.1.symm
      rw [hdecl] at hown2
      rw [← e1]; exact Option.some.inj ((aX_own X).symm.trans hown2)
    have h6 := u_fits hfc hkC hkind (Or.inr hlay) hi (ct_ok ci hc k hk) hn hfit
    have hnm : meth.name = "<init>" := X.2.1.2.2.2.2.2.2.2.1.trans hini
    rcases hlk with hl | ⟨host, hl⟩
    · exact W.putFinK X.2.1.1 X.2.1.2.1 (aX_own X) (aX_w X hl rfl) hi hst hcf hnm (by rw [q2]; exact h6) q1 q3 hlt rfl rfl hd fun H' e1 e2 e3 => kk _ _ _ _ _ _ _ _ _ _ _ _ _ _ _ _ (aX_put X (fin H' e1 e2 e3) h1 h2 hN hW)
    · have hl2 : (Cond.fieldLinkNest y.1.cls idx (fT ci k).1 (fT ci k).2.1 (fT ci k).2.2.1 host).before args s = true := va_Nw.use rfl (va_Nw.warmF (aX_wm X) (va_Nw.of rfl (X.1.2.1 _ hl)))
      refine va_Wputf X.2.1.1 X.2.1.2.1 (f := f) (aX_own X) hl2 hi hst (Or.inr ⟨hcf, hnm⟩) q1 (by rw [q3]; exact fun h => by cases h) hlt h6.1 (by rw [q2, q3]; exact h6.2) rfl rfl hd ?_
      have hlt2 : aφ g a < H.size := (Array.getElem?_eq_some_iff.mp q1).1
      exact kk _ _ _ _ _ _ _ _ _ _ _ _ _ _ _ _ (aX_put X (fin _ (by simp [Array.getElem?_setIfInBounds, hlt2]) (by simp) (fun q hq => by simp [Array.getElem?_setIfInBounds, Ne.symm hq])) h1 h2 hN hW)
theorem s_puti {idx ci k a : Nat} {v : Int32} (hd : decode y.2.1 pc = .ok (.putfield idx, 3)) (hf : fldW y.1.cls idx ci k) (hr : cty ci k = .int) (hS : S0 a = ci) (h1 : 1 ≤ a) (h2 : a ≤ aL σ) (hfin : (fT ci k).2.2.2 = false)
    (kk : Rn g d y (pc + 3) l ll st (uI σ a k v) Q) : Rn g d y pc l ll (.int v :: .ref a :: st) σ Q :=
  s_put (σ' := uI σ a k v) hd hf hS h1 h2 (Or.inl hfin) (by rw [hr]; rfl) (by rw [hr]; rfl) rfl rfl rfl (fun x hx j => uI_o hx) (fun j => by
    by_cases e : j = k
    · subst e; simp [fval, uI, aI, aR, hS, hr, FieldType.isReference]
    · simp [fval, uI, aI, aR, e]) kk
/-- a reference into its field, final or not -/
theorem s_putr {idx ci k a b : Nat} (hd : decode y.2.1 pc = .ok (.putfield idx, 3)) (hf : fldW y.1.cls idx ci k) (hr : (cty ci k).isReference = true) (hS : S0 a = ci) (h1 : 1 ≤ a) (h2 : a ≤ aL σ) (hfin : (fT ci k).2.2.2 = true) (hini : y.1.name = "<init>") (hdc : (fT ci k).1 = y.1.cls)
    (kk : Rn g d y (pc + 3) l ll st (uR σ a k (some b)) Q) : Rn g d y pc l ll (.ref b :: .ref a :: st) σ Q :=
  s_put (σ' := uR σ a k (some b)) hd hf hS h1 h2 (Or.inr ⟨hfin, hini, hdc⟩) (by cases h : cty ci k <;> rw [h] at hr <;> first | rfl | cases hr) (by cases h : cty ci k <;> rw [h] at hr <;> first | rfl | cases hr) rfl rfl rfl (fun x hx j => uR_o hx) (fun j => by
    by_cases e : j = k
    · subst e; simp [fval, uR, aI, aR, hS, hr, va_rf]
    · simp [fval, uR, aI, aR, e]) kk
end HeapR
