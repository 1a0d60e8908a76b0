section CallR
variable {g : aG} {d : Nat} {y : aM} {pc : Nat} {l : List Value} {ll : List (Nat × Int64)} {st st0 : List Value} {σ : aS} {Q : aO → aS → Prop}
/-- what comes behind a call: the answer on the stack; an exception goes on -/
def Kt (g : aG) (d : Nat) (y : aM) (pc : Nat) (l : List Value) (ll : List (Nat × Int64)) (st : List Value) (Q : aO → aS → Prop) : aO → aS → Prop := fun o σ' => match o with
  | .inl v => Rn g d y pc l ll (v.toList ++ st) σ' Q
  | .inr k => Q (.inr k) σ'
/-- a call's own contract -/
def Cn (g : aG) (d : Nat) (y : aM) (As : List Value) (σ : aS) (Q : aO → aS → Prop) : Prop := Rn g d y 0 (eLn y.2.2.1 As) (eLL 0 As) [] σ Q
def linkM (own : String) (idx : Nat) (y : aM) : Prop := Cond.methodLink own idx y.1 ∈ lw_good ∨ ∃ host, Cond.methodLinkNest own idx y.1 host ∈ lw_tbl
/-- a method as the tables have it, of n parameters -/
def okm (y : aM) (n : Nat) : Prop := (plainName y.1.cls = true ∧ y.1.cls ≠ "java/lang/invoke/MethodHandle" ∧ y.1.cls ≠ "java/lang/invoke/VarHandle") ∧ Cond.initialized y.1.cls ∈ lw_good ∧ Cond.code y.1 y.2.1 y.2.2.1 y.2.2.2.1 ∈ lw_good ∧ y.2.2.2.2 = [] ∧ (parseMethodDescriptor y.1.desc).map (fun q => q.parameters.length) = some n
def rcv (σ : aS) (a : Nat) (C : String) : Prop := (∃ ci, ci < 13 ∧ cR ci = C ∧ S0 a = ci ∧ 1 ≤ a ∧ a ≤ aL σ) ∨ (C = "java/lang/String" ∧ ∃ j, j < 18 ∧ a = 1000000 + 2 * j)
variable {p : Program} {e : Env} {R : Room} {s : State} {m : MethodId} {args : Array Value} {below : List Frame} {meth : Method} {c : Code} {H : Heap} {locs : List Loc} {cells slots : Nat} {ls : Array Slot} {nc0 ns0 : Nat}
theorem aX_str (X : aX g d y l ll σ p e R s m args below meth c H locs cells slots ls nc0 ns0) : aStr g s s.heap := by
  have h := X.1.2.2.2.2.2.2.2.1
  have h2 := X.2.1.2.2.2.2.2.2.2.2.2.2
  have kp : ∀ a : Nat, a < (gs g).heap.size → ¬ gz g ≤ a → s.heap[a]? = (gs g).heap[a]? := fun a ha _ => h2 a ha
  intro j hj
  obtain ⟨a1, a2, a3, a4⟩ := h j hj
  exact ⟨(a1.kept kp).moved (aX_wm X).alike, (a2.kept kp).moved (aX_wm X).alike, (a3.kept kp).moved (aX_wm X).alike, (a4.kept kp).moved (aX_wm X).alike⟩
theorem aX_rcv (X : aX g d y l ll σ p e R s m args below meth c H locs cells slots ls nc0 ns0) {a : Nat} {C : String} (hr : rcv σ a C) : ∃ cellB : Cell, H[aφ g a]? = some cellB ∧ cellB.vm.isStatics = false ∧ s.vm.findClass C = some cellB.cls := by
  rcases hr with ⟨ci, hc, rfl, hS, h1, h2⟩ | ⟨rfl, j, hj, rfl⟩
  · obtain ⟨cell, q1, q2, q3, -⟩ := wcell_obj ((aX_wd X).2.2.2.2 a h1 h2) hS (by omega)
    exact ⟨cell, q1, by rw [q3]; rfl, by rw [q2]; exact (aX_kn X hc).2.1⟩
  · obtain ⟨cell, q1, q2, q3, q4⟩ := ((aX_str X) j hj).2.2.2
    refine ⟨cell, ?_, q2, q3⟩
    rw [aφ_str, (aX_S X).2.1 _ (Array.getElem?_eq_some_iff.mp q1).1 q4]; exact q1
theorem sum_cv (g : aG) (st : List Value) : ((st.map (cv g)).map fun v => v.category).sum = (st.map fun v => v.category).sum := by
  rw [List.map_map]; congr 1; apply List.map_congr_left; intro v _; exact cv_cat g v
theorem lift_out {d' : Nat} {y' : aM} {As : List Value} {mk : MethodId} {methk : Method} {ck : Code} {gf : JFrame} {ig : Instr} {T : State} {vm₁ : Vm} (hexc : y.2.2.2.2 = [])
    (X : aX g d y l ll σ p e R s m args below meth c H locs cells slots ls nc0 ns0) (hT : T.heap = H) (X₁ : Stand p (gl g) e R s m args below meth c (T.setVm vm₁) locs cells slots)
    (hgf : gf = F0 m pc ls (st.map (cv g))) (hdg : decode c.code gf.pc = .ok (ig, 3)) (hmk : (T.setVm vm₁).vm.method? mk = some methk) (hck : methk.code = some ck) (hlk : methk.locks = false) (hpk : (T.setVm vm₁).plainMethod mk)
    (f1 : ck.code = y'.2.1) (f2 : ck.maxLocals = y'.2.2.1) (f3 : methk.sig.returnType = y'.2.2.2.1) (f4 : (T.setVm vm₁).vm.findClass y'.1.cls = some mk.cls) (f5 : methk.name = y'.1.name) (f6 : ck.exceptionTable.toList.map (fun h => (h.startPc, h.endPc, h.handlerPc, h.catchType)) = y'.2.2.2.2)
    (ho : As.all okv = true) (hlen : (eL As).length ≤ y'.2.2.1) (hdp : d' + 1 ≤ d) (hsm : (st.map fun v => v.category).sum + y'.2.2.1 + 11 ≤ 200)
    (k : Cn g d' y' As σ (Kt g d y (pc + 3) l ll st Q)) :
    ∃ t, (∀ acts, Steps p.tables e below (doInvoke e ((T.setVm vm₁).setTop gf) acts mk ((As.map (cv g)).toArray)).1 t) ∧ aQ g below s nc0 ns0 Q t := by
  have hR := X.2.2.1
  obtain ⟨t, out, σ', T', Ls, k1, n1, hst, X', hlo, hc1, hs1, hwd, hq, hm⟩ := call_core X.1 X₁ X.2.1.1 (aX_wm X) (by rw [show (T.setVm vm₁).heap = T.heap from rfl, hT]; exact aX_wd X) X.2.2.2.2.2.1 X.2.2.2.2.2.2.1 X.2.2.2.2.2.2.2 hR.2.2.1 hR.2.2.2
    (gf := gf) (by rw [hgf]) (by rw [hgf]; exact X.2.2.2.1.1.trans X.2.1.2.2.1.symm) hdg hmk hck hlk hpk f1 f2 f3 f4 f5 f6 ho hlen (by omega)
    (by rw [hgf]; show 2 * 0 + _ + _ + _ ≤ _; rw [sum_cv]; omega) k
  cases out with
  | inl v =>
    have hW := hq p e R s m args below meth c T'.heap (locs ++ Ls) (cells + k1) (slots + n1) ls nc0 ns0 ⟨X.1, X.2.1, X.2.2.1, X.2.2.2.1, hwd, hlo, hc1, hs1⟩
    obtain ⟨t2, h1, h2⟩ := hW T' rfl X'
    refine ⟨t2, fun acts => (hst acts).trans ?_, h2⟩
    have hm2 : t = T'.setTop { gf with pc := gf.pc + 3, stack := (v.map (cv g)).toList ++ gf.stack } := hm
    rw [hm2, hgf]
    have e2 : (v.toList ++ st).map (cv g) = (v.map (cv g)).toList ++ st.map (cv g) := by cases v <;> simp
    rw [e2] at h1
    exact h1
  | inr kx =>
    obtain ⟨q, ce, h1, h2, h3, h4, h5, h6⟩ := (hm : ∃ (q : Nat) (ce : Cell), t = (T'.setTop gf).pushFrame (.throwing q) ∧ _)
    have hnil : c.exceptionTable.toList = [] := by
      have h9 := X.2.1.2.2.2.2.2.2.2.2.1
      rw [hexc] at h9
      exact List.map_eq_nil_iff.mp h9
    have hlocks : meth.locks = false := X.2.1.2.2.2.2.1
    obtain ⟨hwalk, hrun, hended, hWU, hsame⟩ := X'.leaveThrown q (g := gf) (by rw [hgf]) (by rw [hgf]) (by rw [hgf]) (by rw [hnil]; intro x hx; cases hx) hlocks
    refine ⟨_, fun acts => (hst acts).trans (by rw [h1]; exact hwalk), .threw q, .inr kx, σ', _, _, _, hrun, hended, hWU, hsame, hlo, hc1, hs1, hwd, ⟨q, ce, rfl, h2, h3, h4, h5, h6⟩, hq⟩
theorem meth_facts (hW0 : (gs g).WarmedH s.vm) (hEw : ∀ w ∈ lw_good, w.before args s = true) {y' : aM} {n : Nat} (hm : okm y' n) : ∃ (mk : MethodId) (methk : Method) (ck : Code), s.methodNamed? y'.1 = some mk ∧ s.vm.method? mk = some methk ∧ methk.code = some ck ∧ ck.code = y'.2.1 ∧ ck.maxLocals = y'.2.2.1 ∧ methk.sig.returnType = y'.2.2.2.1 ∧ methk.locks = false ∧
    ck.exceptionTable.toList.map (fun h => (h.startPc, h.endPc, h.handlerPc, h.catchType)) = y'.2.2.2.2 ∧ s.vm.findClass y'.1.cls = some mk.cls ∧ methk.name = y'.1.name ∧ (∀ k, s.vm.classes[mk.cls]? = some k → plainName k.name = true) ∧ parseMethodDescriptor y'.1.desc = some methk.sig ∧ methk.sig.parameters.length = n := by
  obtain ⟨hp, hi, hcode, hexc, hpd⟩ := hm
  obtain ⟨mk, hnamed⟩ := Cond.code_named (hEw _ hcode)
  obtain ⟨methk, ck, a1, a2, a3, a4, a5, a6, a7, a8⟩ := Cond.code_spec hnamed (hEw _ hcode)
  obtain ⟨kP, hkP, hkn⟩ := className_of_methodNamed hnamed
  refine ⟨mk, methk, ck, hnamed, a1, a2, a3, a4, a5, a6, ?_, findClass_of_methodNamed hnamed, (name_of_methodNamed hnamed a1).1, fun k hk => ?_, a8, ?_⟩
  · rw [hexc]
    have : ck.exceptionTable.toList = [] := by
      have h9 := a7
      rw [Array.isEmpty_iff] at h9
      rw [h9]
    rw [this]; rfl
  · cases hkP.symm.trans hk
    rw [hkn]; exact hp.1
  · rw [a8] at hpd
    exact Option.some.inj hpd
theorem s_callV {d' idx n a : Nat} {y' : aM} {As : List Value} (hd : decode y.2.1 pc = .ok (.invokevirtual idx, 3)) (hl : linkM y.1.cls idx y') (hm : okm y' n) (hi : Cond.instanceMethod y'.1 ∈ lw_good) (hsel : Cond.selects y'.1.cls y'.1 y'.1 ∈ lw_good) (hr : rcv σ a y'.1.cls)
    (hst : st0 = As.reverse ++ .ref a :: st) (hn : As.length = n) (ho : As.all okv = true) (hlen : (eL As).length + 1 ≤ y'.2.2.1) (hexc : y.2.2.2.2 = []) (hdp : d' + 1 ≤ d) (hsm : (st.map fun v => v.category).sum + y'.2.2.1 + 11 ≤ 200)
    (k : Cn g d' y' (.ref a :: As) σ (Kt g d y (pc + 3) l ll st Q)) : Rn g d y pc l ll st0 σ Q := by
  intro p e R s m args below meth c H locs cells slots ls nc0 ns0 X T hT XS
  subst hst
  obtain ⟨mk, methk, ck, hnamed, hmethM, b2, b3, b4, b5, b6, b7, b8, b9, b10, b11, b12⟩ := meth_facts (aX_wm X) (aX_g X) hm
  obtain ⟨mk', methM, hnamed', hmethM', hstM, habM⟩ := Cond.instanceMethod_spec (aX_g X _ hi)
  cases hnamed.symm.trans hnamed'
  cases hmethM.symm.trans hmethM'
  obtain ⟨cellB, hcell, hobj, hcls⟩ := aX_rcv X hr
  obtain ⟨c2, r2, m2, q1, q2, q3, q4, kP, hkP, hkPi⟩ := Cond.selects_spec (aX_g X _ hsel)
  cases hcls.symm.trans q1
  cases (State.methodFound?_of_named hnamed hm.1.2).symm.trans q2
  cases hnamed.symm.trans q3
  have hselP : selectMethod e.platform s.vm cellB.cls mk = .method mk := by rw [Launch.admits_selectMethod XS.admits]; exact q4
  have hstk : (As.reverse ++ .ref a :: st).map (cv g) = (As.map (cv g)).reverse ++ .ref (aφ g a) :: st.map (cv g) := by simp [cv]
  have hdc : decode c.code pc = .ok (.invokevirtual idx, 3) := by rw [X.2.1.2.1]; exact hd
  have fin : ∀ (vm₁ : Vm), Stand p (gl g) e R s m args below meth c (T.setVm vm₁) locs cells slots → s.WarmedH vm₁ → ∃ t, (∀ acts, Steps p.tables e below (doInvoke e ((T.setVm vm₁).setTop (F0 m pc ls (st.map (cv g)))) acts mk (((Value.ref a :: As).map (cv g)).toArray)).1 t) ∧ aQ g below s nc0 ns0 Q t := fun vm₁ X₁ hW₁ =>
    lift_out hexc X hT X₁ rfl hdc (by show vm₁.method? mk = _; rw [hW₁.alike.method?]; exact hmethM) b2 b6 (State.WarmedH.plainAt (s₀ := s) (U := T.setVm vm₁) hW₁ b10) b3 b4 b5 (by show vm₁.findClass _ = _; rw [hW₁.alike.findClass]; exact b8) b9 b7
      (by simp only [List.all_cons, ho, okv, Bool.and_self]) (by show (eL As).length + 1 ≤ _; exact hlen) hdp hsm k
  have hlenA : (As.map (cv g)).length = methk.sig.parameters.length := by rw [List.length_map, hn, b12]
  rcases hl with hl | ⟨host, hl⟩
  · obtain ⟨vm₁, X₁, hstep₁⟩ := XS.invokevirtual X.2.1.1 (aX_own X) (aX_g X _ hl) hnamed hmethM hstM hkP hkPi hm.1.2 (a := aφ g a) (cell := cellB) (by rw [hT]; exact hcell) (fun z h => by rw [h] at hobj; cases hobj) hselP hmethM habM hkP hkPi
      (g := F0 m pc ls ((As.reverse ++ .ref a :: st).map (cv g))) rfl (argsL := As.map (cv g)) (rest := st.map (cv g)) hlenA hstk hdc
    obtain ⟨t, h1, h2⟩ := fin vm₁ X₁ X₁.warmed
    exact ⟨t, hstep₁ _ fun acts => h1 acts, h2⟩
  · have hl2 : (Cond.methodLinkNest y.1.cls idx y'.1 host).before args s = true := va_Nw.use rfl (va_Nw.warmM (aX_wm X) (va_Nw.of rfl (X.1.2.1 _ hl)))
    obtain ⟨vm₁, X₁, hstep₁⟩ := XS.invokevirtualNest X.2.1.1 (aX_own X) hl2 hnamed hmethM hstM hkP hkPi hm.1.2 (a := aφ g a) (cell := cellB) (by rw [hT]; exact hcell) (fun z h => by rw [h] at hobj; cases hobj) hselP hmethM habM hkP hkPi
      (g := F0 m pc ls ((As.reverse ++ .ref a :: st).map (cv g))) rfl (argsL := As.map (cv g)) (rest := st.map (cv g)) hlenA hstk hdc
    obtain ⟨t, h1, h2⟩ := fin vm₁ X₁ X₁.warmed
    exact ⟨t, hstep₁ _ fun acts => h1 acts, h2⟩
theorem s_callS {d' idx n : Nat} {y' : aM} {As : List Value} (hd : decode y.2.1 pc = .ok (.invokestatic idx, 3)) (hl : linkM y.1.cls idx y') (hm : okm y' n) (hi : Cond.static y'.1 ∈ lw_good)
    (hst : st0 = As.reverse ++ st) (hn : As.length = n) (ho : As.all okv = true) (hlen : (eL As).length ≤ y'.2.2.1) (hexc : y.2.2.2.2 = []) (hdp : d' + 1 ≤ d) (hsm : (st.map fun v => v.category).sum + y'.2.2.1 + 11 ≤ 200)
    (k : Cn g d' y' As σ (Kt g d y (pc + 3) l ll st Q)) : Rn g d y pc l ll st0 σ Q := by
  intro p e R s m args below meth c H locs cells slots ls nc0 ns0 X T hT XS
  subst hst
  obtain ⟨mk, methk, ck, hnamed, hmethM, b2, b3, b4, b5, b6, b7, b8, b9, b10, b11, b12⟩ := meth_facts (aX_wm X) (aX_g X) hm
  have hstatic : methk.isStatic = true := Cond.static_spec hnamed hmethM (aX_g X _ hi)
  obtain ⟨kP, hkP, -⟩ := className_of_methodNamed hnamed
  have hinitP : kP.init = .initialized := Cond.initialized_spec (findClass_of_methodNamed hnamed) hkP (aX_g X _ hm.2.1)
  have hstk : (As.reverse ++ st).map (cv g) = (As.map (cv g)).reverse ++ st.map (cv g) := by simp
  have hdc : decode c.code pc = .ok (.invokestatic idx, 3) := by rw [X.2.1.2.1]; exact hd
  have fin : ∀ (vm₁ : Vm), Stand p (gl g) e R s m args below meth c (T.setVm vm₁) locs cells slots → s.WarmedH vm₁ → ∃ t, (∀ acts, Steps p.tables e below (doInvoke e ((T.setVm vm₁).setTop (F0 m pc ls (st.map (cv g)))) acts mk ((As.map (cv g)).toArray)).1 t) ∧ aQ g below s nc0 ns0 Q t := fun vm₁ X₁ hW₁ =>
    lift_out hexc X hT X₁ rfl hdc (by show vm₁.method? mk = _; rw [hW₁.alike.method?]; exact hmethM) b2 b6 (State.WarmedH.plainAt (s₀ := s) (U := T.setVm vm₁) hW₁ b10) b3 b4 b5 (by show vm₁.findClass _ = _; rw [hW₁.alike.findClass]; exact b8) b9 b7
      ho hlen hdp hsm k
  have hlenA : (As.map (cv g)).length = methk.sig.parameters.length := by rw [List.length_map, hn, b12]
  rcases hl with hl | ⟨host, hl⟩
  · obtain ⟨vm₁, X₁, hstep₁⟩ := XS.invokestatic X.2.1.1 (aX_own X) (aX_g X _ hl) hnamed hmethM hstatic hkP hinitP hm.1.2
      (g := F0 m pc ls ((As.reverse ++ st).map (cv g))) rfl (argsL := As.map (cv g)) (rest := st.map (cv g)) hlenA hstk hdc
    obtain ⟨t, h1, h2⟩ := fin vm₁ X₁ X₁.warmed
    exact ⟨t, hstep₁ _ fun acts => h1 acts, h2⟩
  · have hl2 : (Cond.methodLinkNest y.1.cls idx y'.1 host).before args s = true := va_Nw.use rfl (va_Nw.warmM (aX_wm X) (va_Nw.of rfl (X.1.2.1 _ hl)))
    obtain ⟨vm₁, X₁, hstep₁⟩ := XS.invokestaticNest X.2.1.1 (aX_own X) hl2 hnamed hmethM hstatic hkP hinitP hm.1.2
      (g := F0 m pc ls ((As.reverse ++ st).map (cv g))) rfl (argsL := As.map (cv g)) (rest := st.map (cv g)) hlenA hstk hdc
    obtain ⟨t, h1, h2⟩ := fin vm₁ X₁ X₁.warmed
    exact ⟨t, hstep₁ _ fun acts => h1 acts, h2⟩
theorem s_callI {d' idx n a : Nat} {y' : aM} {As : List Value} (hd : decode y.2.1 pc = .ok (.invokespecial idx, 3)) (hl : linkM y.1.cls idx y') (hm : okm y' n) (hi : Cond.instanceMethod y'.1 ∈ lw_good) (hini : y'.1.name = "<init>") (hret : y'.2.2.2.1 = none)
    (hst : st0 = As.reverse ++ .ref a :: st) (hn : As.length = n) (ho : As.all okv = true) (hlen : (eL As).length + 1 ≤ y'.2.2.1) (hexc : y.2.2.2.2 = []) (hdp : d' + 1 ≤ d) (hsm : (st.map fun v => v.category).sum + y'.2.2.1 + 11 ≤ 200)
    (k : Cn g d' y' (.ref a :: As) σ (Kt g d y (pc + 3) l ll st Q)) : Rn g d y pc l ll st0 σ Q := by
  intro p e R s m args below meth c H locs cells slots ls nc0 ns0 X T hT XS
  subst hst
  have hpl : e.platform.magicAccessors = ({} : Platform).magicAccessors := by rw [XS.admits.platform]
  obtain ⟨mk, methk, ck, hnamed, hmethM, b2, b3, b4, b5, b6, b7, b8, b9, b10, b11, b12⟩ := meth_facts (aX_wm X) (aX_g X) hm
  have hstk : (As.reverse ++ .ref a :: st).map (cv g) = (As.map (cv g)).reverse ++ .ref (aφ g a) :: st.map (cv g) := by simp [cv]
  have hdc : decode c.code pc = .ok (.invokespecial idx, 3) := by rw [X.2.1.2.1]; exact hd
  have hcode := aX_g X _ hm.2.2.1
  rw [hret] at hcode
  have fin : ∀ (vm₁ : Vm), Stand p (gl g) e R s m args below meth c (T.setVm vm₁) locs cells slots → s.WarmedH vm₁ → ∃ t, (∀ acts, Steps p.tables e below (doInvoke e ((T.setVm vm₁).setTop (F0 m pc ls (st.map (cv g)))) acts mk (((Value.ref a :: As).map (cv g)).toArray)).1 t) ∧ aQ g below s nc0 ns0 Q t := fun vm₁ X₁ hW₁ =>
    lift_out hexc X hT X₁ rfl hdc (by show vm₁.method? mk = _; rw [hW₁.alike.method?]; exact hmethM) b2 b6 (State.WarmedH.plainAt (s₀ := s) (U := T.setVm vm₁) hW₁ b10) b3 b4 b5 (by show vm₁.findClass _ = _; rw [hW₁.alike.findClass]; exact b8) b9 b7
      (by simp only [List.all_cons, ho, okv, Bool.and_self]) (by show (eL As).length + 1 ≤ _; exact hlen) hdp hsm k
  have hlenA : ∀ sig, parseMethodDescriptor y'.1.desc = some sig → (As.map (cv g)).length = sig.parameters.length := fun sig h => by
    cases b11.symm.trans h
    rw [List.length_map, hn, b12]
  rcases hl with hl | ⟨host, hl⟩
  · obtain ⟨mk', methM, cM, kP, vm₁, hnamed', -, -, -, -, -, -, -, hW₁, hstep₁⟩ := Steps.initColdArgs (e := e) XS.here X.2.1.1 XS.warmed hpl (aX_own X) hini hm.1.2 (aX_g X _ hl) (aX_g X _ hi) hcode (f := F0 m pc ls ((As.reverse ++ .ref a :: st).map (cv g))) rfl hlenA hstk hdc
    cases hnamed.symm.trans hnamed'
    obtain ⟨t, h1, h2⟩ := fin vm₁ (XS.noted hW₁) hW₁
    exact ⟨t, hstep₁ _ fun acts => h1 acts, h2⟩
  · have hl2 : (Cond.methodLinkNest y.1.cls idx y'.1 host).before args s = true := va_Nw.use rfl (va_Nw.warmM (aX_wm X) (va_Nw.of rfl (X.1.2.1 _ hl)))
    obtain ⟨mk', methM, cM, kP, vm₁, hnamed', -, -, -, -, -, -, -, hW₁, hstep₁⟩ := Steps.initColdArgsNest (e := e) XS.here X.2.1.1 XS.warmed hpl (aX_own X) hini hm.1.2 hl2 (aX_g X _ hi) hcode (f := F0 m pc ls ((As.reverse ++ .ref a :: st).map (cv g))) rfl hlenA hstk hdc
    cases hnamed.symm.trans hnamed'
    obtain ⟨t, h1, h2⟩ := fin vm₁ (XS.noted hW₁) hW₁
    exact ⟨t, hstep₁ _ fun acts => h1 acts, h2⟩
/-- Object's constructor -/
theorem s_objI {idx a : Nat} (hd : decode y.2.1 pc = .ok (.invokespecial idx, 3)) (hl : Cond.methodLink y.1.cls idx objectInit ∈ lw_good) (hi : Cond.instanceMethod objectInit ∈ lw_good) (hcd : Cond.code objectInit ⟨#[0xb1]⟩ 1 none ∈ lw_good) (hdp : 1 ≤ d) (hsm : (st.map fun v => v.category).sum + 12 ≤ 200)
    (k : Rn g d y (pc + 3) l ll st σ Q) : Rn g d y pc l ll (.ref a :: st) σ Q := by
  intro p e R s m args below meth c H locs cells slots ls nc0 ns0 X
  have hR := X.2.2.1
  exact W.objInit X.2.1.1 X.2.1.2.1 (aX_own X) (aX_g X _ hl) (aX_g X _ hi) (aX_g X _ hcd) (a := aφ g a) (rest := st.map (cv g)) rfl (X.2.2.2.1.1.trans X.2.1.2.2.1.symm) rfl hd (by omega) (by show 2 * 0 + _ + 12 ≤ _; rw [sum_cv]; omega) (k _ _ _ _ _ _ _ _ _ _ _ _ _ _ _ _ X)
end CallR
