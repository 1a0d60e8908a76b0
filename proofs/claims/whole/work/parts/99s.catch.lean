section RowsX
variable {p : Program} {l : Launch} {e : Env} {R : Room} {s : State} {m : MethodId} {args : Array Value} {below : List Frame} {meth : Method} {c : Code} {H : Heap} {locs : List Loc} {cells slots : Nat} {Q : State → Prop}
variable {mc ms : Nat} {free : Addr → Prop} {A0 A1 : Nat → Prop} {H0 : Heap} {a : Array Value} {pc : Nat} {ls : Array Slot} {st0 rest : List Value}
/-- caught by the row x of this method's table; the rows ahead don't take it -/
theorem vx_catch {own name : String} {E : String} {ce : Cell} {q : Addr} (hown : s.vm.findClass own = some m.cls) (pre : List ExceptionTableEntry) (x : ExceptionTableEntry) (suf : List ExceptionTableEntry) (hsplit : c.exceptionTable.toList = pre ++ x :: suf)
    (hpass : ∀ z ∈ pre, covers z pc = false ∨ (z.catchType ≠ 0 ∧ ∃ nm : String, (Cond.classLink own z.catchType nm).before args s = true ∧ va_Nc E nm s)) (hx : covers x pc = true) (h0 : x.catchType ≠ 0)
    (hlink : (Cond.classLink own x.catchType name).before args s = true) (hcast : (Cond.castable E name).before args s = true) (hcell : H[q]? = some ce) (hv : ce.vm = .none) (hcl : s.vm.findClass E = some ce.cls)
    (kk : W p l e R s m args below meth c H locs cells slots Q (F0 m x.handlerPc ls [.ref q])) : vx_W p l e R s m args below meth c H locs cells slots Q (F0 m pc ls rest) q := by
  intro T hT X
  have hpl : e.platform.magicAccessors = ({} : Platform).magicAccessors := by rw [X.admits.platform]
  obtain ⟨c3, c4, hc3, hc4, hasg⟩ := Cond.castable_spec hcast
  cases Option.some.inj (hc3.symm.trans hcl)
  obtain ⟨c5, hc5, hcl5⟩ := Cond.classLink_spec hown hlink e.platform hpl
  cases Option.some.inj (hc4.symm.trans hc5)
  obtain ⟨vm', X', st⟩ := Jvm.Stand.thenCaughtThrough X q (g := F0 m pc ls rest) rfl (Steps.refl _) (by rw [hT]; exact hcell) (by rw [hv]; rfl) (by obtain ⟨k9, h9, -⟩ := Vm.findClass_spec hcl; exact ⟨k9, h9⟩) pre x suf hsplit
    (fun z hz => by
      rcases hpass z hz with h | ⟨hz0, nm, hl1, hn1⟩
      · exact Or.inl h
      · obtain ⟨c6, hc6, hcl6⟩ := Cond.classLink_spec hown hl1 e.platform hpl
        obtain ⟨a8, b8, h1, h2, h3⟩ := hn1
        cases Option.some.inj (h1.symm.trans hcl)
        cases Option.some.inj (h2.symm.trans hc6)
        exact Or.inr ⟨hz0, _, hcl6, h3⟩) hx (Or.inr ⟨h0, c4, hcl5, hasg⟩)
  obtain ⟨t, a1, b1⟩ := kk (T.setVm vm') hT X'
  exact ⟨t, st.trans a1, b1⟩
end RowsX
section CatchR
variable {g : aG} {d : Nat} {y : aM} {pc : Nat} {l : List Value} {ll : List (Nat × Int64)} {st st0 : List Value} {σ : aS} {Q : aO → aS → Prop}
/-- what comes behind a call whose throws are caught here -/
def Kh (g : aG) (d : Nat) (y : aM) (pc : Nat) (l : List Value) (ll : List (Nat × Int64)) (st : List Value) (hk : Nat → Option Nat) (Q : aO → aS → Prop) : aO → aS → Prop := fun o σ' => match o with
  | .inl v => Rn g d y pc l ll (v.toList ++ st) σ' Q
  | .inr k => ∃ hp, hk k = some hp ∧ ∀ a, Rn g d y hp l ll [.ref a] σ' Q
/-- the row of the table that takes the throw -/
def cthX (g : aG) (own : String) (tab : List (Nat × Nat × Nat × Nat)) (pc k hp : Nat) : Prop := ∃ (pre : List (Nat × Nat × Nat × Nat)) (x : Nat × Nat × Nat × Nat) (suf : List (Nat × Nat × Nat × Nat)), tab = pre ++ x :: suf ∧ x.2.2.1 = hp ∧ x.1 ≤ pc ∧ pc < x.2.1 ∧ x.2.2.2 ≠ 0 ∧ Cond.classLink own x.2.2.2 (xNm k) ∈ lw_good ∧ Cond.castable (xNm k) (xNm k) ∈ lw_tbl ∧ ∀ z ∈ pre, z.2.2.2 ≠ 0 ∧ ∃ nm : String, Cond.classLink own z.2.2.2 nm ∈ lw_good ∧ va_Nc (xNm k) nm (gs g)
variable {p : Program} {e : Env} {R : Room} {s : State} {m : MethodId} {args : Array Value} {below : List Frame} {meth : Method} {c : Code} {H : Heap} {locs : List Loc} {cells slots : Nat} {ls : Array Slot} {nc0 ns0 : Nat}
theorem lift_outX {d' : Nat} {y' : aM} {As : List Value} {mk : MethodId} {methk : Method} {ck : Code} {gf : JFrame} {ig : Instr} {T : State} {vm₁ : Vm} {hk : Nat → Option Nat} (hch : ∀ k hp, hk k = some hp → cthX g y.1.cls y.2.2.2.2 pc k hp)
    (X : aX g d y l ll σ p e R s m args below meth c H locs cells slots ls nc0 ns0) (hT : T.heap = H) (X₁ : Stand p (gl g) e R s m args below meth c (T.setVm vm₁) locs cells slots)
    (hgf : gf = F0 m pc ls (st.map (cv g))) (hdg : decode c.code gf.pc = .ok (ig, 3)) (hmk : (T.setVm vm₁).vm.method? mk = some methk) (hck : methk.code = some ck) (hlk : methk.locks = false) (hpk : (T.setVm vm₁).plainMethod mk)
    (f1 : ck.code = y'.2.1) (f2 : ck.maxLocals = y'.2.2.1) (f3 : methk.sig.returnType = y'.2.2.2.1) (f4 : (T.setVm vm₁).vm.findClass y'.1.cls = some mk.cls) (f5 : methk.name = y'.1.name) (f6 : ck.exceptionTable.toList.map (fun h => (h.startPc, h.endPc, h.handlerPc, h.catchType)) = y'.2.2.2.2)
    (ho : As.all okv = true) (hlen : (eL As).length ≤ y'.2.2.1) (hdp : d' + 1 ≤ d) (hsm : (st.map fun v => v.category).sum + y'.2.2.1 + 11 ≤ 200)
    (k : Cn g d' y' As σ (Kh g d y (pc + 3) l ll st hk Q)) :
    ∃ t, (∀ acts, Steps p.tables e below (doInvoke e ((T.setVm vm₁).setTop gf) acts mk ((As.map (cv g)).toArray)).1 t) ∧ aQ g below s nc0 ns0 Q t := by
  have hR := X.2.2.1
  obtain ⟨t, out, σ', T', Ls, k1, n1, hst, X', hlo, hc1, hs1, hwd, hq, hm⟩ := call_core X.1 X₁ X.2.1.1 (aX_wm X) (by rw [show (T.setVm vm₁).heap = T.heap from rfl, hT]; exact aX_wd X) X.2.2.2.2.2.1 X.2.2.2.2.2.2.1 X.2.2.2.2.2.2.2 hR.2.2.1 hR.2.2.2
    (gf := gf) (by rw [hgf]) (by rw [hgf]; exact X.2.2.2.1.1.trans X.2.1.2.2.1.symm) hdg hmk hck hlk hpk f1 f2 f3 f4 f5 f6 ho hlen (by omega)
    (by rw [hgf]; show 2 * 0 + _ + _ + _ ≤ _; rw [sum_cv]; omega) k
  cases out with
  | inl v =>
    have hW := hq p e R s m args below meth c T'.heap (locs ++ Ls) (cells + k1) (slots + n1) ls nc0 ns0 ⟨X.1, X.2.1, X.2.2.1, X.2.2.2.1, hwd, hlo, hc1, hs1⟩
    obtain ⟨t2, h1, h2⟩ := hW T' rfl X'
    refine ⟨t2, fun acts => (hst acts).trans ?_, h2⟩
    have hm2 : t = T'.setTop { gf with pc := gf.pc + 3, stack := (v.map (cv g)).toList ++ gf.stack } := hm
    rw [hm2, hgf]
    have e2 : (v.toList ++ st).map (cv g) = (v.map (cv g)).toList ++ st.map (cv g) := by cases v <;> simp
    rw [e2] at h1
    exact h1
  | inr kx =>
    obtain ⟨q, ce, h1, h2, h3, h4, h5, h6⟩ := (hm : ∃ (q : Nat) (ce : Cell), t = (T'.setTop gf).pushFrame (.throwing q) ∧ _)
    obtain ⟨hp, hhp, hq⟩ := (hq : ∃ hp, hk kx = some hp ∧ _)
    obtain ⟨pre, x, suf, t1, t2, t3, t4, t5, t6, t7, t8⟩ := hch kx hp hhp
    have h9 := X.2.1.2.2.2.2.2.2.2.2.1
    rw [t1] at h9
    obtain ⟨pre', r1, e1, e2, e3⟩ := List.map_eq_append_iff.mp h9
    obtain ⟨x', suf', e4, e5, e6⟩ := List.map_eq_cons_iff.mp e3
    have a1 : x'.startPc = x.1 := by rw [← e5]
    have a2 : x'.endPc = x.2.1 := by rw [← e5]
    have a3 : x'.handlerPc = x.2.2.1 := by rw [← e5]
    have a4 : x'.catchType = x.2.2.2 := by rw [← e5]
    have hcov : covers x' pc = true := by simp [covers, a1, a2, t3, t4]
    have hg9 := aX_g X
    have hW : W p (gl g) e R s m args below meth c T'.heap (locs ++ Ls) (cells + k1) (slots + n1) (aQ g below s nc0 ns0 Q) (F0 m x'.handlerPc ls [.ref q]) := by
      have hW := hq (q - gz g + 1) p e R s m args below meth c T'.heap (locs ++ Ls) (cells + k1) (slots + n1) ls nc0 ns0 ⟨X.1, X.2.1, X.2.2.1, X.2.2.2.1, hwd, hlo, hc1, hs1⟩
      have eq : aφ g (q - gz g + 1) = q := by
        unfold aφ
        rw [if_neg (by omega), if_pos (by omega)]; omega
      rw [a3, t2]
      have e7 : [Value.ref (q - gz g + 1)].map (cv g) = [.ref q] := by
        show [Value.ref (aφ g (q - gz g + 1))] = _
        rw [eq]
      rw [e7] at hW; exact hW
    have hV := vx_catch (rest := st.map (cv g)) (pc := pc) (ls := ls) (own := y.1.cls) (name := xNm kx) (E := xNm kx) (ce := ce) (q := q) (aX_own X) pre' x' suf' (by rw [e1, e4]) (fun z hz => by
        have hz2 : (z.startPc, z.endPc, z.handlerPc, z.catchType) ∈ pre := by rw [← e2]; exact List.mem_map.mpr ⟨z, hz, rfl⟩
        obtain ⟨b1, nm, b2, b3⟩ := t8 _ hz2
        exact Or.inr ⟨b1, nm, hg9 _ b2, b3.moved (aX_wm X).alike⟩) hcov (by rw [a4]; exact t5) (by rw [a4]; exact hg9 _ t6) (va_Nw.use rfl (va_Nw.warmC (aX_wm X) (va_Nw.of rfl (X.1.2.1 _ t7)))) h4 h5 h6 hW
    obtain ⟨t9, s1, s2⟩ := hV T' rfl X'
    refine ⟨t9, fun acts => (hst acts).trans ?_, s2⟩
    rw [h1, hgf]; exact s1
theorem s_callVx {d' idx n a : Nat} {y' : aM} {As : List Value} {hk : Nat → Option Nat} (hd : decode y.2.1 pc = .ok (.invokevirtual idx, 3)) (hl : Cond.methodLink y.1.cls idx y'.1 ∈ lw_good) (hm : okm y' n) (hi : Cond.instanceMethod y'.1 ∈ lw_good) (hsel : Cond.selects y'.1.cls y'.1 y'.1 ∈ lw_good) (hr : rcv σ a y'.1.cls)
    (hst : st0 = As.reverse ++ .ref a :: st) (hn : As.length = n) (ho : As.all okv = true) (hlen : (eL As).length + 1 ≤ y'.2.2.1) (hch : ∀ k hp, hk k = some hp → cthX g y.1.cls y.2.2.2.2 pc k hp) (hdp : d' + 1 ≤ d) (hsm : (st.map fun v => v.category).sum + y'.2.2.1 + 11 ≤ 200)
    (k : Cn g d' y' (.ref a :: As) σ (Kh g d y (pc + 3) l ll st hk Q)) : Rn g d y pc l ll st0 σ Q := by
  intro p e R s m args below meth c H locs cells slots ls nc0 ns0 X T hT XS
  subst hst
  obtain ⟨mk, methk, ck, hnamed, hmethM, b2, b3, b4, b5, b6, b7, b8, b9, b10, b11, b12⟩ := meth_facts (aX_wm X) (aX_g X) hm
  obtain ⟨mk', methM, hnamed', hmethM', hstM, habM⟩ := Cond.instanceMethod_spec (aX_g X _ hi)
  cases hnamed.symm.trans hnamed'
  cases hmethM.symm.trans hmethM'
  obtain ⟨cellB, hcell, hobj, hcls⟩ := aX_rcv X hr
  obtain ⟨c2, r2, m2, q1, q2, q3, q4, kP, hkP, hkPi⟩ := Cond.selects_spec (aX_g X _ hsel)
  cases hcls.symm.trans q1
  cases (State.methodFound?_of_named hnamed hm.1.2).symm.trans q2
  cases hnamed.symm.trans q3
  have hselP : selectMethod e.platform s.vm cellB.cls mk = .method mk := by rw [Launch.admits_selectMethod XS.admits]; exact q4
  have hstk : (As.reverse ++ .ref a :: st).map (cv g) = (As.map (cv g)).reverse ++ .ref (aφ g a) :: st.map (cv g) := by simp [cv]
  have hdc : decode c.code pc = .ok (.invokevirtual idx, 3) := by rw [X.2.1.2.1]; exact hd
  have hlenA : (As.map (cv g)).length = methk.sig.parameters.length := by rw [List.length_map, hn, b12]
  obtain ⟨vm₁, X₁, hstep₁⟩ := XS.invokevirtual X.2.1.1 (aX_own X) (aX_g X _ hl) hnamed hmethM hstM hkP hkPi hm.1.2 (a := aφ g a) (cell := cellB) (by rw [hT]; exact hcell) (fun z h => by rw [h] at hobj; cases hobj) hselP hmethM habM hkP hkPi
      (g := F0 m pc ls ((As.reverse ++ .ref a :: st).map (cv g))) rfl (argsL := As.map (cv g)) (rest := st.map (cv g)) hlenA hstk hdc
  have hW₁ : s.WarmedH vm₁ := X₁.warmed
  obtain ⟨t, h1, h2⟩ := lift_outX hch X hT X₁ rfl hdc (by show vm₁.method? mk = _; rw [hW₁.alike.method?]; exact hmethM) b2 b6 (State.WarmedH.plainAt (s₀ := s) (U := T.setVm vm₁) hW₁ b10) b3 b4 b5 (by show vm₁.findClass _ = _; rw [hW₁.alike.findClass]; exact b8) b9 b7
      (by simp only [List.all_cons, ho, okv, Bool.and_self]) (by show (eL As).length + 1 ≤ _; exact hlen) hdp hsm k
  exact ⟨t, hstep₁ _ fun acts => h1 acts, h2⟩
/-- a helper of the law, with its table -/
def okx (y : aM) (n : Nat) : Prop := (plainName y.1.cls = true ∧ y.1.cls ≠ "java/lang/invoke/MethodHandle" ∧ y.1.cls ≠ "java/lang/invoke/VarHandle") ∧ Cond.initialized y.1.cls ∈ lw_good ∧ Cond.codeWith y.1 y.2.1 y.2.2.1 y.2.2.2.1 y.2.2.2.2 ∈ lw_good ∧ (parseMethodDescriptor y.1.desc).map (fun q => q.parameters.length) = some n
theorem s_callSx {d' idx n : Nat} {y' : aM} {As : List Value} (hd : decode y.2.1 pc = .ok (.invokestatic idx, 3)) (hl : Cond.methodLink y.1.cls idx y'.1 ∈ lw_good) (hm : okx y' n) (hi : Cond.static y'.1 ∈ lw_good)
    (hst : st0 = As.reverse ++ st) (hn : As.length = n) (ho : As.all okv = true) (hlen : (eL As).length ≤ y'.2.2.1) (hexc : y.2.2.2.2 = []) (hdp : d' + 1 ≤ d) (hsm : (st.map fun v => v.category).sum + y'.2.2.1 + 11 ≤ 200)
    (k : Cn g d' y' As σ (Kt g d y (pc + 3) l ll st Q)) : Rn g d y pc l ll st0 σ Q := by
  intro p e R s m args below meth c H locs cells slots ls nc0 ns0 X T hT XS
  subst hst
  obtain ⟨hp, hi9, hcode, hpd⟩ := hm
  obtain ⟨mk, methk, ck, hnamed, hmethM, b2, b3, b4, b7, b5, b6, b11⟩ := Cond.codeWith_spec (aX_g X _ hcode)
  have b8 := findClass_of_methodNamed hnamed
  have b9 := (name_of_methodNamed hnamed hmethM).1
  obtain ⟨kP, hkP, hkn⟩ := className_of_methodNamed hnamed
  have b10 : ∀ k, s.vm.classes[mk.cls]? = some k → plainName k.name = true := fun k hk => by
    cases hkP.symm.trans hk
    rw [hkn]; exact hp.1
  have b12 : methk.sig.parameters.length = n := by
    rw [b11] at hpd
    exact Option.some.inj hpd
  have hstatic : methk.isStatic = true := Cond.static_spec hnamed hmethM (aX_g X _ hi)
  have hinitP : kP.init = .initialized := Cond.initialized_spec (findClass_of_methodNamed hnamed) hkP (aX_g X _ hi9)
  have hstk : (As.reverse ++ st).map (cv g) = (As.map (cv g)).reverse ++ st.map (cv g) := by simp
  have hdc : decode c.code pc = .ok (.invokestatic idx, 3) := by rw [X.2.1.2.1]; exact hd
  have hlenA : (As.map (cv g)).length = methk.sig.parameters.length := by rw [List.length_map, hn, b12]
  obtain ⟨vm₁, X₁, hstep₁⟩ := XS.invokestatic X.2.1.1 (aX_own X) (aX_g X _ hl) hnamed hmethM hstatic hkP hinitP hp.2
      (g := F0 m pc ls ((As.reverse ++ st).map (cv g))) rfl (argsL := As.map (cv g)) (rest := st.map (cv g)) hlenA hstk hdc
  have hW₁ : s.WarmedH vm₁ := X₁.warmed
  obtain ⟨t, h1, h2⟩ := lift_out hexc X hT X₁ rfl hdc (by show vm₁.method? mk = _; rw [hW₁.alike.method?]; exact hmethM) b2 b6 (State.WarmedH.plainAt (s₀ := s) (U := T.setVm vm₁) hW₁ b10) b3 b4 b5 (by show vm₁.findClass _ = _; rw [hW₁.alike.findClass]; exact b8) b9 b7
      ho hlen hdp hsm k
  exact ⟨t, hstep₁ _ fun acts => h1 acts, h2⟩
end CatchR
section WordsX
theorem cw_L_court : Cond.codeWith yL_court cL_court 4 (some .int) [(0, 9, 12, 13)] ∈ lw_good := List.mem_filter.mpr ⟨tm_3 (List.mem_of_getElem? (i := 1) rfl), rfl⟩
theorem ok_L_court : okx mL_court 3 := ⟨⟨by decide +kernel, by decide +kernel, by decide +kernel⟩, iz_RL, cw_L_court, by decide +kernel⟩
theorem cw_L_law : Cond.codeWith yL_law cL_law 4 (some .int) [(0, 9, 12, 13)] ∈ lw_good := List.mem_filter.mpr ⟨tm_3 (List.mem_of_getElem? (i := 223) rfl), rfl⟩
theorem ok_L_law : okx mL_law 3 := ⟨⟨by decide +kernel, by decide +kernel, by decide +kernel⟩, iz_RL, cw_L_law, by decide +kernel⟩
theorem cw_L_work : Cond.codeWith yL_work cL_work 4 (some .int) [(0, 9, 12, 13)] ∈ lw_good := List.mem_filter.mpr ⟨tm_4 (List.mem_of_getElem? (i := 53) rfl), rfl⟩
theorem ok_L_work : okx mL_work 3 := ⟨⟨by decide +kernel, by decide +kernel, by decide +kernel⟩, iz_RL, cw_L_work, by decide +kernel⟩
theorem cw_L_book : Cond.codeWith yL_book cL_book 4 (some .int) [(0, 9, 12, 13)] ∈ lw_good := List.mem_filter.mpr ⟨tm_4 (List.mem_of_getElem? (i := 214) rfl), rfl⟩
theorem ok_L_book : okx mL_book 3 := ⟨⟨by decide +kernel, by decide +kernel, by decide +kernel⟩, iz_RL, cw_L_book, by decide +kernel⟩
theorem cw_L_told : Cond.codeWith yL_told cL_told 4 (some .int) [(0, 9, 12, 13)] ∈ lw_good := List.mem_filter.mpr ⟨tm_5 (List.mem_of_getElem? (i := 2) rfl), rfl⟩
theorem ok_L_told : okx mL_told 3 := ⟨⟨by decide +kernel, by decide +kernel, by decide +kernel⟩, iz_RL, cw_L_told, by decide +kernel⟩
theorem cw_L_back : Cond.codeWith yL_back cL_back 5 (some .int) [(0, 10, 13, 31), (0, 10, 17, 13)] ∈ lw_good := List.mem_filter.mpr ⟨tm_5 (List.mem_of_getElem? (i := 33) rfl), rfl⟩
theorem ok_L_back : okx mL_back 4 := ⟨⟨by decide +kernel, by decide +kernel, by decide +kernel⟩, iz_RL, cw_L_back, by decide +kernel⟩
theorem cw_L_council : Cond.codeWith yL_council cL_council 5 (some .int) [(0, 10, 13, 31), (0, 10, 17, 13)] ∈ lw_good := List.mem_filter.mpr ⟨tm_5 (List.mem_of_getElem? (i := 62) rfl), rfl⟩
theorem ok_L_council : okx mL_council 4 := ⟨⟨by decide +kernel, by decide +kernel, by decide +kernel⟩, iz_RL, cw_L_council, by decide +kernel⟩
theorem cw_L_hearing : Cond.codeWith yL_hearing cL_hearing 5 (some .int) [(0, 10, 13, 31)] ∈ lw_good := List.mem_filter.mpr ⟨tm_5 (List.mem_of_getElem? (i := 78) rfl), rfl⟩
theorem ok_L_hearing : okx mL_hearing 4 := ⟨⟨by decide +kernel, by decide +kernel, by decide +kernel⟩, iz_RL, cw_L_hearing, by decide +kernel⟩
theorem cw_L_load : Cond.codeWith yL_load cL_load 5 (some .int) [(0, 10, 13, 31)] ∈ lw_good := List.mem_filter.mpr ⟨tm_5 (List.mem_of_getElem? (i := 86) rfl), rfl⟩
theorem ok_L_load : okx mL_load 4 := ⟨⟨by decide +kernel, by decide +kernel, by decide +kernel⟩, iz_RL, cw_L_load, by decide +kernel⟩
theorem cw_L_burden : Cond.codeWith yL_burden cL_burden 5 (some .int) [(0, 10, 13, 31)] ∈ lw_good := List.mem_filter.mpr ⟨tm_5 (List.mem_of_getElem? (i := 94) rfl), rfl⟩
theorem ok_L_burden : okx mL_burden 4 := ⟨⟨by decide +kernel, by decide +kernel, by decide +kernel⟩, iz_RL, cw_L_burden, by decide +kernel⟩
theorem cw_L_would : Cond.codeWith yL_would cL_would 12 (some .int) [(0, 24, 27, 13)] ∈ lw_good := List.mem_filter.mpr ⟨tm_5 (List.mem_of_getElem? (i := 102) rfl), rfl⟩
theorem ok_L_would : okx mL_would 11 := ⟨⟨by decide +kernel, by decide +kernel, by decide +kernel⟩, iz_RL, cw_L_would, by decide +kernel⟩
theorem cw_L_ahead : Cond.codeWith yL_ahead cL_ahead 5 (some .int) [(0, 10, 13, 13)] ∈ lw_good := List.mem_filter.mpr ⟨tm_5 (List.mem_of_getElem? (i := 113) rfl), rfl⟩
theorem ok_L_ahead : okx mL_ahead 4 := ⟨⟨by decide +kernel, by decide +kernel, by decide +kernel⟩, iz_RL, cw_L_ahead, by decide +kernel⟩
theorem cw_L_could : Cond.codeWith yL_could cL_could 4 (some .int) [(0, 9, 12, 31)] ∈ lw_good := List.mem_filter.mpr ⟨tm_5 (List.mem_of_getElem? (i := 121) rfl), rfl⟩
theorem ok_L_could : okx mL_could 3 := ⟨⟨by decide +kernel, by decide +kernel, by decide +kernel⟩, iz_RL, cw_L_could, by decide +kernel⟩
theorem cw_L_roster : Cond.codeWith yL_roster cL_roster 4 (some .int) [(0, 9, 12, 13)] ∈ lw_good := List.mem_filter.mpr ⟨tm_5 (List.mem_of_getElem? (i := 132) rfl), rfl⟩
theorem ok_L_roster : okx mL_roster 3 := ⟨⟨by decide +kernel, by decide +kernel, by decide +kernel⟩, iz_RL, cw_L_roster, by decide +kernel⟩
theorem cw_L_gives : Cond.codeWith yL_gives cL_gives 5 (some .int) [(0, 10, 13, 31), (0, 10, 17, 13)] ∈ lw_good := List.mem_filter.mpr ⟨tm_5 (List.mem_of_getElem? (i := 165) rfl), rfl⟩
theorem ok_L_gives : okx mL_gives 4 := ⟨⟨by decide +kernel, by decide +kernel, by decide +kernel⟩, iz_RL, cw_L_gives, by decide +kernel⟩
theorem cw_L_word : Cond.codeWith yL_word cL_word 4 (some .int) [(0, 9, 12, 31)] ∈ lw_good := List.mem_filter.mpr ⟨tm_5 (List.mem_of_getElem? (i := 176) rfl), rfl⟩
theorem ok_L_word : okx mL_word 3 := ⟨⟨by decide +kernel, by decide +kernel, by decide +kernel⟩, iz_RL, cw_L_word, by decide +kernel⟩
theorem cw_L_ease : Cond.codeWith yL_ease cL_ease 5 (some .int) [(0, 10, 13, 13)] ∈ lw_good := List.mem_filter.mpr ⟨tm_5 (List.mem_of_getElem? (i := 187) rfl), rfl⟩
theorem ok_L_ease : okx mL_ease 4 := ⟨⟨by decide +kernel, by decide +kernel, by decide +kernel⟩, iz_RL, cw_L_ease, by decide +kernel⟩
theorem cw_L_fits : Cond.codeWith yL_fits cL_fits 4 (some .int) [(0, 9, 12, 13)] ∈ lw_good := List.mem_filter.mpr ⟨tm_5 (List.mem_of_getElem? (i := 199) rfl), rfl⟩
theorem ok_L_fits : okx mL_fits 3 := ⟨⟨by decide +kernel, by decide +kernel, by decide +kernel⟩, iz_RL, cw_L_fits, by decide +kernel⟩
theorem cw_L_look : Cond.codeWith yL_look cL_look 4 (some .int) [(0, 9, 12, 13)] ∈ lw_good := List.mem_filter.mpr ⟨tm_5 (List.mem_of_getElem? (i := 221) rfl), rfl⟩
theorem ok_L_look : okx mL_look 3 := ⟨⟨by decide +kernel, by decide +kernel, by decide +kernel⟩, iz_RL, cw_L_look, by decide +kernel⟩
theorem cw_L_quorum : Cond.codeWith yL_quorum cL_quorum 5 (some .int) [(0, 10, 13, 13)] ∈ lw_good := List.mem_filter.mpr ⟨tm_5 (List.mem_of_getElem? (i := 239) rfl), rfl⟩
theorem ok_L_quorum : okx mL_quorum 4 := ⟨⟨by decide +kernel, by decide +kernel, by decide +kernel⟩, iz_RL, cw_L_quorum, by decide +kernel⟩
theorem cw_L_lies : Cond.codeWith yL_lies cL_lies 7 (some .int) [(0, 13, 16, 13)] ∈ lw_good := List.mem_filter.mpr ⟨tm_6 (List.mem_of_getElem? (i := 14) rfl), rfl⟩
theorem ok_L_lies : okx mL_lies 6 := ⟨⟨by decide +kernel, by decide +kernel, by decide +kernel⟩, iz_RL, cw_L_lies, by decide +kernel⟩
theorem cw_L_kneel : Cond.codeWith yL_kneel cL_kneel 6 (some .int) [(0, 12, 15, 13)] ∈ lw_good := List.mem_filter.mpr ⟨tm_6 (List.mem_of_getElem? (i := 28) rfl), rfl⟩
theorem ok_L_kneel : okx mL_kneel 5 := ⟨⟨by decide +kernel, by decide +kernel, by decide +kernel⟩, iz_RL, cw_L_kneel, by decide +kernel⟩
theorem cw_L_balm : Cond.codeWith yL_balm cL_balm 6 (some .int) [(0, 12, 15, 31), (0, 12, 19, 13)] ∈ lw_good := List.mem_filter.mpr ⟨tm_6 (List.mem_of_getElem? (i := 41) rfl), rfl⟩
theorem ok_L_balm : okx mL_balm 5 := ⟨⟨by decide +kernel, by decide +kernel, by decide +kernel⟩, iz_RL, cw_L_balm, by decide +kernel⟩
theorem cw_L_weariest : Cond.codeWith yL_weariest cL_weariest 4 (some .int) [(0, 9, 12, 13)] ∈ lw_good := List.mem_filter.mpr ⟨tm_6 (List.mem_of_getElem? (i := 52) rfl), rfl⟩
theorem ok_L_weariest : okx mL_weariest 3 := ⟨⟨by decide +kernel, by decide +kernel, by decide +kernel⟩, iz_RL, cw_L_weariest, by decide +kernel⟩
theorem cw_L_heaviest : Cond.codeWith yL_heaviest cL_heaviest 5 (some .int) [(0, 10, 13, 31), (0, 10, 17, 13)] ∈ lw_good := List.mem_filter.mpr ⟨tm_6 (List.mem_of_getElem? (i := 59) rfl), rfl⟩
theorem ok_L_heaviest : okx mL_heaviest 4 := ⟨⟨by decide +kernel, by decide +kernel, by decide +kernel⟩, iz_RL, cw_L_heaviest, by decide +kernel⟩
theorem cw_L_listeners : Cond.codeWith yL_listeners cL_listeners 4 (some .int) [(0, 9, 12, 31)] ∈ lw_good := List.mem_filter.mpr ⟨tm_6 (List.mem_of_getElem? (i := 66) rfl), rfl⟩
theorem ok_L_listeners : okx mL_listeners 3 := ⟨⟨by decide +kernel, by decide +kernel, by decide +kernel⟩, iz_RL, cw_L_listeners, by decide +kernel⟩
theorem cw_L_ready : Cond.codeWith yL_ready cL_ready 5 (some .int) [(0, 10, 13, 31)] ∈ lw_good := List.mem_filter.mpr ⟨tm_6 (List.mem_of_getElem? (i := 74) rfl), rfl⟩
theorem ok_L_ready : okx mL_ready 4 := ⟨⟨by decide +kernel, by decide +kernel, by decide +kernel⟩, iz_RL, cw_L_ready, by decide +kernel⟩
theorem cw_L_sure : Cond.codeWith yL_sure cL_sure 5 (some .int) [(0, 10, 13, 31), (0, 10, 17, 13)] ∈ lw_good := List.mem_filter.mpr ⟨tm_6 (List.mem_of_getElem? (i := 81) rfl), rfl⟩
theorem ok_L_sure : okx mL_sure 4 := ⟨⟨by decide +kernel, by decide +kernel, by decide +kernel⟩, iz_RL, cw_L_sure, by decide +kernel⟩
theorem cw_L_bearers : Cond.codeWith yL_bearers cL_bearers 4 (some .int) [(0, 9, 12, 31)] ∈ lw_good := List.mem_filter.mpr ⟨tm_6 (List.mem_of_getElem? (i := 88) rfl), rfl⟩
theorem ok_L_bearers : okx mL_bearers 3 := ⟨⟨by decide +kernel, by decide +kernel, by decide +kernel⟩, iz_RL, cw_L_bearers, by decide +kernel⟩
theorem cw_L_rumour : Cond.codeWith yL_rumour cL_rumour 5 (some .int) [(0, 10, 13, 31), (0, 10, 17, 13)] ∈ lw_good := List.mem_filter.mpr ⟨tm_6 (List.mem_of_getElem? (i := 95) rfl), rfl⟩
theorem ok_L_rumour : okx mL_rumour 4 := ⟨⟨by decide +kernel, by decide +kernel, by decide +kernel⟩, iz_RL, cw_L_rumour, by decide +kernel⟩
theorem cw_L_lied : Cond.codeWith yL_lied cL_lied 5 (some .int) [(0, 10, 13, 13)] ∈ lw_good := List.mem_filter.mpr ⟨tm_6 (List.mem_of_getElem? (i := 102) rfl), rfl⟩
theorem ok_L_lied : okx mL_lied 4 := ⟨⟨by decide +kernel, by decide +kernel, by decide +kernel⟩, iz_RL, cw_L_lied, by decide +kernel⟩
theorem cw_L_reign : Cond.codeWith yL_reign cL_reign 7 (some .int) [(0, 14, 17, 13)] ∈ lw_good := List.mem_filter.mpr ⟨tm_6 (List.mem_of_getElem? (i := 109) rfl), rfl⟩
theorem ok_L_reign : okx mL_reign 6 := ⟨⟨by decide +kernel, by decide +kernel, by decide +kernel⟩, iz_RL, cw_L_reign, by decide +kernel⟩
theorem cw_L_span : Cond.codeWith yL_span cL_span 9 (some .int) [(0, 18, 21, 13)] ∈ lw_good := List.mem_filter.mpr ⟨tm_6 (List.mem_of_getElem? (i := 138) rfl), rfl⟩
theorem ok_L_span : okx mL_span 8 := ⟨⟨by decide +kernel, by decide +kernel, by decide +kernel⟩, iz_RL, cw_L_span, by decide +kernel⟩
theorem cs_0 : Cond.castable "java/util/NoSuchElementException" "java/util/NoSuchElementException" ∈ lw_tbl := tm_5 (List.mem_of_getElem? (i := 45) rfl)
theorem cs_1 : Cond.castable "java/lang/IllegalArgumentException" "java/lang/IllegalArgumentException" ∈ lw_tbl := tm_3 (List.mem_of_getElem? (i := 20) rfl)
/-- an argument isn't an element: the first row doesn't take it -/
def aNx (g : aG) : Prop := va_Nc "java/lang/IllegalArgumentException" "java/util/NoSuchElementException" (gs g)
theorem ch_0 {g : aG} {e pc hp : Nat} {suf : List (Nat × Nat × Nat × Nat)} (h : pc < e) : cthX g RL ((0, e, hp, 31) :: suf) pc 0 hp := ⟨[], (0, e, hp, 31), suf, rfl, rfl, Nat.zero_le _, h, Nat.succ_ne_zero _, kl_L_31, cs_0, fun z hz => absurd hz List.not_mem_nil⟩
theorem ch_1 {g : aG} {e pc hp : Nat} {suf : List (Nat × Nat × Nat × Nat)} (h : pc < e) : cthX g RL ((0, e, hp, 13) :: suf) pc 1 hp := ⟨[], (0, e, hp, 13), suf, rfl, rfl, Nat.zero_le _, h, Nat.succ_ne_zero _, kl_L_13, cs_1, fun z hz => absurd hz List.not_mem_nil⟩
theorem ch_2 {g : aG} {e e2 pc hp hp2 : Nat} {suf : List (Nat × Nat × Nat × Nat)} (hN : aNx g) (h : pc < e2) : cthX g RL ((0, e, hp, 31) :: (0, e2, hp2, 13) :: suf) pc 1 hp2 := ⟨[(0, e, hp, 31)], (0, e2, hp2, 13), suf, rfl, rfl, Nat.zero_le _, h, Nat.succ_ne_zero _, kl_L_13, cs_1, fun z hz => by
  rw [List.mem_singleton.mp hz]
  exact ⟨Nat.succ_ne_zero _, _, kl_L_31, hN⟩⟩
end WordsX
