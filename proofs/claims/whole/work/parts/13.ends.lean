section Ends
variable {g : aG} {d : Nat} {y : aM} {pc : Nat} {l : List Value} {ll : List (Nat × Int64)} {st : List Value} {σ : aS} {Q : aO → aS → Prop}
theorem W_mono {p : Program} {lc : Launch} {e : Env} {R : Room} {s : State} {m : MethodId} {args : Array Value} {below : List Frame} {meth : Method} {c : Code} {H : Heap} {locs : List Loc} {cells slots : Nat} {Q1 Q2 : State → Prop} {f : JFrame} (h : ∀ t, Q1 t → Q2 t) (k : W p lc e R s m args below meth c H locs cells slots Q1 f) : W p lc e R s m args below meth c H locs cells slots Q2 f := by
  intro T hT X
  obtain ⟨t, a, b⟩ := k T hT X
  exact ⟨t, a, h t b⟩
theorem Rn_mono {Q' : aO → aS → Prop} (h : ∀ o σ, Q' o σ → Q o σ) (k : Rn g d y pc l ll st σ Q') : Rn g d y pc l ll st σ Q := by
  intro p e R s m args below meth c H locs cells slots ls nc0 ns0 X
  refine W_mono (fun t ht => ?_) (k _ _ _ _ _ _ _ _ _ _ _ _ _ _ _ _ X)
  obtain ⟨o, out, σ', Ls, k1, n1, a1, a2, a3, a4, a5, a6, a7, a8, a9, a10⟩ := ht
  exact ⟨o, out, σ', Ls, k1, n1, a1, a2, a3, a4, a5, a6, a7, a8, a9, h _ _ a10⟩
theorem Rn_deep {d' : Nat} (hd : d' ≤ d) (k : Rn g d' y pc l ll st σ Q) : Rn g d y pc l ll st σ Q := by
  intro p e R s m args below meth c H locs cells slots ls nc0 ns0 X
  have h := X.2.2.1
  exact k _ _ _ _ _ _ _ _ _ _ _ _ _ _ _ _ ⟨X.1, X.2.1, ⟨by omega, by omega, h.2.2⟩, X.2.2.2⟩
theorem end_of {p : Program} {e : Env} {R : Room} {s : State} {m : MethodId} {args : Array Value} {below : List Frame} {meth : Method} {c : Code} {H : Heap} {locs : List Loc} {cells slots : Nat} {ls : Array Slot} {nc0 ns0 : Nat} {v : Option Value} {f : JFrame}
    (X : aX g d y l ll σ p e R s m args below meth c H locs cells slots ls nc0 ns0) (hq : Q (.inl v) σ)
    (h : W p (gl g) e R s m args below meth c H locs cells slots (MQ below (fun _ _ o t => o = .returned (v.map (cv g)) ∧ t.heap = H) args s cells slots (fun q => gz g ≤ q)) f) : W p (gl g) e R s m args below meth c H locs cells slots (aQ g below s nc0 ns0 Q) f := by
  refine W_mono (fun t ht => ?_) h
  obtain ⟨o, a1, a2, ⟨rfl, a3⟩, L, ⟨-, a4, a5⟩, a6⟩ := ht
  exact ⟨_, .inl v, σ, L, cells, slots, a1, a2, a4, a5, a6, X.2.2.2.2.2.2.1, X.2.2.2.2.2.2.2, by rw [a3]; exact aX_wd X, rfl, hq⟩
theorem s_ireturn {x : Int32} {ty : FieldType} (hd : decode y.2.1 pc = .ok (.ireturn, 1)) (hr : y.2.2.2.1 = some ty) (hn : narrow ty (.int x) = .int x) (hq : Q (.inl (some (.int x))) σ) : Rn g d y pc l ll [.int x] σ Q := by
  intro p e R s m args below meth c H locs cells slots ls nc0 ns0 X
  have hlocks : meth.locks = false := X.2.1.2.2.2.2.1
  exact end_of X hq (W.zret X.2.1.1 X.2.1.2.1 (X.2.1.2.2.2.1.trans hr) hn (fun t ht _ => ⟨rfl, ht⟩) (fun q h => X.2.2.2.2.2.1 q h) hd hlocks)
theorem s_lreturn {x : Int64} (hd : decode y.2.1 pc = .ok (.lreturn, 1)) (hr : y.2.2.2.1 = some .long) (hq : Q (.inl (some (.long x))) σ) : Rn g d y pc l ll [.long x] σ Q := by
  intro p e R s m args below meth c H locs cells slots ls nc0 ns0 X
  have hlocks : meth.locks = false := X.2.1.2.2.2.2.1
  exact end_of X hq (W.lret X.2.1.1 X.2.1.2.1 (X.2.1.2.2.2.1.trans hr) (fun t ht _ => ⟨rfl, ht⟩) (fun q h => X.2.2.2.2.2.1 q h) hd hlocks)
theorem s_return (hd : decode y.2.1 pc = .ok (.return_, 1)) (hr : y.2.2.2.1 = none) (hq : Q (.inl none) σ) : Rn g d y pc l ll [] σ Q := by
  intro p e R s m args below meth c H locs cells slots ls nc0 ns0 X
  have hlocks : meth.locks = false := X.2.1.2.2.2.2.1
  exact end_of X hq (W.vret X.2.1.1 X.2.1.2.1 (X.2.1.2.2.2.1.trans hr) (fun t ht _ => ⟨rfl, ht⟩) (fun q h => X.2.2.2.2.2.1 q h) hd hlocks)
/-! a method's entry -/
def eL : List Value → List Value
  | [] => []
  | .long _ :: vs => .retAddr 0 :: .retAddr 0 :: eL vs
  | v :: vs => v :: eL vs
def eLL : Nat → List Value → List (Nat × Int64)
  | _, [] => []
  | i, .long x :: vs => (i, x) :: eLL (i + 2) vs
  | i, _ :: vs => eLL (i + 1) vs
def okv : Value → Bool
  | .int _ => true
  | .long _ => true
  | .ref _ => true
  | .null => true
  | _ => false
/-- the locals of a method of n slots called with these -/
def eLn (n : Nat) (vs : List Value) : List Value := eL vs ++ List.replicate (n - (eL vs).length) (.retAddr 0)
theorem eL_len (g : aG) : ∀ (vs : List Value), vs.all okv = true → (eL vs).length = (lg_sl (vs.map (cv g))).length
  | [], _ => rfl
  | v :: vs, h => by
    simp only [List.all_cons, Bool.and_eq_true] at h
    have ih := eL_len g vs h.2
    cases v <;> simp_all [eL, lg_sl, cv, okv, Value.category] <;> omega
theorem la_1 {i : Nat} {v : Value} {vs : List Value} (h : v.category = 1) : lv_args i (v :: vs) = (i, v) :: lv_args (i + 1) vs := by
  rw [lv_args, if_neg (by omega)]
theorem la_2 {i : Nat} {v : Value} {vs : List Value} (h : v.category = 2) : lv_args i (v :: vs) = (i, v) :: lv_args (i + 2) vs := by
  rw [lv_args, if_pos h]
theorem eL_in (g : aG) : ∀ (vs : List Value) (i j : Nat) (v : Value), vs.all okv = true → (eL vs)[j]? = some v → isj v = false → (i + j, cv g v) ∈ lv_args i (vs.map (cv g))
  | [], i, j, v, _, h, _ => by simp [eL] at h
  | w :: vs, i, j, v, ho, h, hj => by
    simp only [List.all_cons, Bool.and_eq_true] at ho
    rw [List.map_cons]
    have one : eL (w :: vs) = w :: eL vs → (cv g w).category = 1 → (i + j, cv g v) ∈ lv_args i (cv g w :: vs.map (cv g)) := by
      intro e1 e2
      rw [e1] at h
      rw [la_1 e2]
      cases j with
      | zero => simp at h; subst h; simp
      | succ j =>
        simp at h
        have := eL_in g vs (i + 1) j v ho.2 h hj
        refine List.mem_cons_of_mem _ ?_
        rw [show i + (j + 1) = i + 1 + j by omega]
        exact this
    cases w with
    | long x =>
      simp only [eL] at h
      cases j with
      | zero => simp at h; subst h; cases hj
      | succ j =>
        cases j with
        | zero => simp at h; subst h; cases hj
        | succ j =>
          simp at h
          have := eL_in g vs (i + 2) j v ho.2 h hj
          rw [la_2 rfl]
          refine List.mem_cons_of_mem _ ?_
          rw [show i + (j + 1 + 1) = i + 2 + j by omega]
          exact this
    | int x => exact one rfl rfl
    | ref x => exact one rfl rfl
    | null => exact one rfl rfl
    | float x => cases ho.1
    | double x => cases ho.1
    | retAddr x => cases ho.1
theorem eLL_in (g : aG) : ∀ (vs : List Value) (i : Nat) (q : Nat × Int64), vs.all okv = true → q ∈ eLL i vs → (q.1, Value.long q.2) ∈ lv_args i (vs.map (cv g))
  | [], i, q, _, h => by simp [eLL] at h
  | w :: vs, i, q, ho, h => by
    simp only [List.all_cons, Bool.and_eq_true] at ho
    rw [List.map_cons]
    cases w with
    | long x =>
      simp only [eLL, List.mem_cons] at h
      rw [la_2 rfl]
      rcases h with rfl | h
      · exact List.mem_cons_self
      · exact List.mem_cons_of_mem _ (eLL_in g vs (i + 2) q ho.2 h)
    | int x => rw [la_1 rfl]; exact List.mem_cons_of_mem _ (eLL_in g vs (i + 1) q ho.2 h)
    | ref x => rw [la_1 rfl]; exact List.mem_cons_of_mem _ (eLL_in g vs (i + 1) q ho.2 h)
    | null => rw [la_1 rfl]; exact List.mem_cons_of_mem _ (eLL_in g vs (i + 1) q ho.2 h)
    | float x => cases ho.1
    | double x => cases ho.1
    | retAddr x => cases ho.1
theorem eL_cat : ∀ (vs : List Value), vs.all okv = true → ∀ v ∈ eL vs, v.category = 1
  | [], _, v, h => by simp [eL] at h
  | w :: vs, ho, v, h => by
    simp only [List.all_cons, Bool.and_eq_true] at ho
    have ih := eL_cat vs ho.2
    cases w with
    | long x =>
      simp only [eL, List.mem_cons] at h
      rcases h with rfl | rfl | h
      · rfl
      · rfl
      · exact ih v h
    | int x => simp only [eL, List.mem_cons] at h; rcases h with rfl | h; rfl; exact ih v h
    | ref x => simp only [eL, List.mem_cons] at h; rcases h with rfl | h; rfl; exact ih v h
    | null => simp only [eL, List.mem_cons] at h; rcases h with rfl | h; rfl; exact ih v h
    | float x => cases ho.1
    | double x => cases ho.1
    | retAddr x => cases ho.1
theorem lok_entry {g : aG} {vs : List Value} {n : Nat} (ho : vs.all okv = true) (h : (eL vs).length ≤ n) : lok g ((lg_sl (vs.map (cv g)) ++ List.replicate (n - (lg_sl (vs.map (cv g))).length) Slot.unset).toArray) (eLn n vs) (eLL 0 vs) n := by
  have hl := eL_len g vs ho
  obtain ⟨a1, a2, a3⟩ := lv_entry (vs.map (cv g)) (n := n) (by rw [← hl]; exact h)
  refine ⟨a1, by simp [eLn]; omega, a2, fun v hv => ?_, fun i v hv hj => ?_, fun q hq => ?_⟩
  · unfold eLn at hv
    rcases List.mem_append.mp hv with h1 | h1
    · exact eL_cat vs ho v h1
    · rw [List.eq_of_mem_replicate h1]; rfl
  · unfold eLn at hv
    by_cases hi : i < (eL vs).length
    · rw [List.getElem?_append_left hi] at hv
      have := a3 _ (eL_in g vs 0 i v ho hv hj)
      simpa using this
    · rw [List.getElem?_append_right (by omega)] at hv
      have := List.eq_of_mem_replicate (List.mem_of_getElem? hv)
      subst this; cases hj
  · exact a3 _ (eLL_in g vs 0 q ho hq)
end Ends
