section CallsA
theorem st_up {tb : Tables} {e : Env} {f : JFrame} {below : List Frame} {s t : State} (h : Steps tb e (.java f :: below) s t) : Steps tb e below s t := by
  obtain ⟨n, hn, hw⟩ := h
  refine ⟨n, hn, fun k hk => ?_⟩
  obtain ⟨above, h1, h2, h3⟩ := hw k hk
  refine ⟨above ++ [.java f], by rw [h1]; simp, by simp, fun a ha => ?_⟩
  cases above with
  | nil => exact h2 rfl
  | cons x xs =>
    have := congrArg List.length ha
    simp at this
variable {g : aG} {d' : Nat} {y' : aM} {σ : aS} {Q' : aO → aS → Prop}
variable {p : Program} {e : Env} {R : Room} {s : State} {m : MethodId} {args : Array Value} {below : List Frame} {meth : Method} {c : Code} {T : State} {locs : List Loc} {cells slots nc0 ns0 : Nat}
theorem call_core (E : aE g) (X : Stand p (gl g) e R s m args below meth c T locs cells slots) (hexec : p.tables.exec = Jvm.exec) (hwarm0 : (gs g).WarmedH s.vm) (hw : aWd g σ T.heap) (hlo : ∀ q ∈ locs, gz g ≤ q.base) (hc : cells + nc0 = aN σ) (hs : slots + ns0 = aW σ) (hC : 600000 ≤ R.cells + nc0) (hS : 7000000 ≤ R.slots + ns0)
    {gf : JFrame} (hg : gf.method = m) (hsize : gf.locals.size = c.maxLocals) {ig : Instr} {len : Nat} (hdg : decode c.code gf.pc = .ok (ig, len))
    {mk : MethodId} {methk : Method} {ck : Code} (hmk : T.vm.method? mk = some methk) (hck : methk.code = some ck) (hlk : methk.locks = false) (hpk : T.plainMethod mk)
    (f1 : ck.code = y'.2.1) (f2 : ck.maxLocals = y'.2.2.1) (f3 : methk.sig.returnType = y'.2.2.2.1) (f4 : T.vm.findClass y'.1.cls = some mk.cls) (f5 : methk.name = y'.1.name) (f6 : ck.exceptionTable.toList.map (fun h => (h.startPc, h.endPc, h.handlerPc, h.catchType)) = y'.2.2.2.2)
    {As : List Value} (ho : As.all okv = true) (hlen : (eL As).length ≤ y'.2.2.1)
    (hR : d' + 1 ≤ R.frames) (hRl : 2 * gf.monitorRoom + (gf.stack.map fun v => v.category).sum + (y'.2.2.1 + 11) + 200 * d' ≤ R.locals)
    (k : Rn g d' y' 0 (eLn y'.2.2.1 As) (eLL 0 As) [] σ Q') :
    ∃ (t : State) (out : aO) (σ' : aS) (T' : State) (Ls : List Loc) (k n : Nat), (∀ acts, Steps p.tables e below (doInvoke e (T.setTop gf) acts mk ((As.map (cv g)).toArray)).1 t) ∧
      Stand p (gl g) e R s m args below meth c T' (locs ++ Ls) (cells + k) (slots + n) ∧ (∀ q ∈ locs ++ Ls, gz g ≤ q.base) ∧ cells + k + nc0 = aN σ' ∧ slots + n + ns0 = aW σ' ∧ aWd g σ' T'.heap ∧ Q' out σ' ∧
      (match out with
        | .inl v => t = T'.setTop { gf with pc := gf.pc + len, stack := (v.map (cv g)).toList ++ gf.stack }
        | .inr kx => ∃ (q : Nat) (ce : Cell), t = (T'.setTop gf).pushFrame (.throwing q) ∧ gz g ≤ q ∧ q < gz g + 900000 ∧ T'.heap[q]? = some ce ∧ ce.vm = .none ∧ s.vm.findClass (xNm kx) = some ce.cls) := by
  have hN := hw.2.2.1.1
  have hWm := hw.2.2.1.2
  obtain ⟨Y, hdo⟩ := X.into hg hsize hdg ((As.map (cv g)).toArray) (R' := { frames := d', locals := 200 * d', cells := 600000 - aN σ, slots := 7000000 - aW σ }) hmk hck hlk hpk hR (by rw [f2]; exact hRl) (by show cells + (600000 - aN σ) ≤ _; omega) (by show slots + (7000000 - aW σ) ≤ _; omega)
  have h0 : (T.calling gf mk ((As.map (cv g)).toArray)).heap = T.heap := rfl
  have hent : entryFrame mk ((As.map (cv g)).toArray) ck.maxLocals = F0 mk 0 ((lg_sl (As.map (cv g)) ++ List.replicate (y'.2.2.1 - (lg_sl (As.map (cv g))).length) Slot.unset).toArray) [] := by rw [f2, lg_entry_eq]
  have hW := k p e { frames := d', locals := 200 * d', cells := 600000 - aN σ, slots := 7000000 - aW σ } (T.calling gf mk ((As.map (cv g)).toArray)) mk ((As.map (cv g)).toArray) (.java gf :: below) methk ck T.heap [] 0 0 _ (aN σ) (aW σ)
    ⟨E, ⟨hexec, f1, f2, f3, hlk, f4, State.WarmedH.trans hwarm0 X.warmed, f5, f6, by rw [h0]; exact hw.1, fun q hq => by rw [h0]; exact hw.2.2.2.1 q hq⟩,
      ⟨Nat.le_refl d', Nat.le_refl _, by show 600000 ≤ (600000 - aN σ) + aN σ; omega, by show 7000000 ≤ (7000000 - aW σ) + aW σ; omega⟩, lok_entry ho hlen, hw, ⟨fun q hq => absurd hq List.not_mem_nil, by omega, by omega⟩⟩
  obtain ⟨t, hst, o, out, σ', Ls, k1, n1, hrun, hend, hWm2, hsame, hL, hk1, hn1, hwd, hout, hq⟩ := hW ((T.setTop gf).pushFrame (.java (entryFrame mk ((As.map (cv g)).toArray) ck.maxLocals))) (by simp [State.pushFrame, State.setFrames, State.setTop, State.modifyTopJava]) Y
  have hst2 : ∀ acts, Steps p.tables e below (doInvoke e (T.setTop gf) acts mk ((As.map (cv g)).toArray)).1 t := fun acts => by
    rw [hdo acts]
    have h2 := st_up hst
    rw [show F0 mk 0 _ (List.map (cv g) []) = _ from hent.symm] at h2
    exact h2
  have hlo2 : ∀ q ∈ locs ++ Ls, gz g ≤ q.base := fun q hq => (List.mem_append.mp hq).elim (hlo q) (hL q)
  cases out with
  | inl v =>
    have ho2 : o = .returned (v.map (cv g)) := hout
    subst ho2
    obtain ⟨T', X', hTW, hTs, rfl⟩ := X.outOf hg hdg hend hWm2 hsame
    exact ⟨_, .inl v, σ', T', Ls, k1, n1, hst2, X', hlo2, by omega, by omega, hwd, hq, rfl⟩
  | inr kx =>
    obtain ⟨q, ce, rfl, hq1, hq2, hq3, hq4, hq5⟩ := (hout : ∃ (q : Nat) (ce : Cell), o = .threw q ∧ gz g ≤ q ∧ q < gz g + 900000 ∧ t.heap[q]? = some ce ∧ ce.vm = .none ∧ _)
    obtain ⟨T', X', hTW, hTs, rfl⟩ := X.outOfThrown hg hend hWm2 hsame
    have hheap : ((T'.setTop gf).pushFrame (.throwing q)).heap = T'.heap := throwing_heap T' gf q
    rw [hheap] at hwd hq3
    refine ⟨_, .inr kx, σ', T', Ls, k1, n1, hst2, X', hlo2, by omega, by omega, hwd, hq, q, ce, rfl, hq1, hq2, hq3, hq4, ?_⟩
    have : T.vm.findClass (xNm kx) = some ce.cls := hq5
    rw [← X.warmed.alike.findClass]; exact this
end CallsA
