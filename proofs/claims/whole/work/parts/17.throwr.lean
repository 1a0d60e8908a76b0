section ThrowR
variable {g : aG} {d : Nat} {y : aM} {pc : Nat} {l : List Value} {ll : List (Nat × Int64)} {st : List Value} {σ : aS} {Q : aO → aS → Prop}
variable {p : Program} {e : Env} {R : Room} {s : State} {m : MethodId} {args : Array Value} {below : List Frame} {meth : Method} {c : Code} {H : Heap} {locs : List Loc} {cells slots : Nat} {ls : Array Slot} {nc0 ns0 : Nat}
/-- an exception was made: one cell of six slots more, which nobody reads -/
def xS (σ : aS) : aS := (σ.1, σ.2.1, σ.2.2.1, aL σ, aN σ + 1, aW σ + 6)
theorem wd_x {H' : Heap} (hw : aWd g σ H) (hnc : aN σ + 1 ≤ 600000) (hns : aW σ + 6 ≤ 7000000) (hz : H'.size = H.size + 1) (ho : ∀ q, q < H.size → H'[q]? = H[q]?) : aWd g (xS σ) H' := by
  refine ⟨by rw [hz, hw.1]; show _ = gz g + (aN σ + 1); omega, by have := hw.2.1; show aL σ ≤ aN σ + 1; omega, ⟨hnc, hns⟩, fun q hq => ?_, fun x hx1 hx2 => ?_⟩
  · rw [ho q (by rw [hw.1]; omega)]; exact hw.2.2.2.1 q hq
  · have hx3 : x ≤ aL σ := hx2
    have := hw.2.1
    exact wcell_keep (hw.2.2.2.2 x hx1 hx3) (ho _ (by rw [aφ_own hx1 (wd_le hw hx3), hw.1]; omega)) (fun k => ⟨rfl, rfl⟩)
/-- the words of a throw: of the tables, or said of the start -/
def isDecl : Cond → Bool
  | .declares _ => true
  | _ => false
def tOk (w : Cond) : Prop := w ∈ lw_good ∨ (isDecl w = true ∧ w ∈ lw_tbl) ∨ w = .isRef (.static Bundle.tN "UNASSIGNED_STACK" Bundle.steD) ∨ w = .isRef (.static Bundle.tN "SUPPRESSED_SENTINEL" Bundle.listD) ∨ w = .laysStatic Bundle.tN "UNASSIGNED_STACK" Bundle.steD ∨ w = .laysStatic Bundle.tN "SUPPRESSED_SENTINEL" Bundle.listD
theorem s_throw {ik is ic ix kx j : Nat} {rx : ByteArray} {sup tx : String} {names : List String} (hexc : y.2.2.2.2 = [])
    (d0 : decode y.2.1 pc = .ok (.new ik, 3)) (d3 : decode y.2.1 (pc + 3) = .ok (.dup, 1)) (d4 : decode y.2.1 (pc + 4) = .ok (.ldc_w is, 3)) (d7 : decode y.2.1 (pc + 7) = .ok (.invokespecial ic, 3)) (d10 : decode y.2.1 (pc + 10) = .ok (.athrow, 1))
    (hk : Cond.classLink y.1.cls ik (xNm kx) ∈ lw_good) (hini : Cond.initialized (xNm kx) ∈ lw_good) (hstr : Cond.stringRef y.1.cls is tx ∈ lw_tbl) (hj : stx[j]? = some tx)
    (hcls : Bundle.fit (xNm kx) = true) (hsup : Bundle.fit sup = true) (hnames : ∀ n ∈ names, Bundle.fit n = true) (hnl : names.length = 1)
    (r0 : decode rx 0 = .ok (.aload_n 0, 1)) (r1 : decode rx 1 = .ok (.aload_n 1, 1)) (r2 : decode rx 2 = .ok (.invokespecial ix, 3)) (r5 : decode rx 5 = .ok (.return_, 1))
    (hat : ∀ w ∈ tAt y.1.cls ic (xNm kx) ix rx sup names, tOk w) (hdp : 6 ≤ d) (hsm : (st.map fun v => v.category).sum ≤ 100) (hnc : aN σ + 1 ≤ 600000) (hns : aW σ + 6 ≤ 7000000)
    (hq : Q (.inr kx) (xS σ)) : Rn g d y pc l ll st σ Q := by
  intro p e R s m args below meth c H locs cells slots ls nc0 ns0 X T hT XS
  have hexec := X.2.1.1
  have hb := X.2.1.2.1
  have hR := X.2.2.1
  have hw := aX_wd X
  have hroom := aX_room X (n := 6) hnc hns
  have htr : e.platform.stackTraces = false := (show e.platform.stackTraces = (gl g).stackTraces by rw [XS.admits.platform]).trans X.1.1
  have Y := vx_rebase XS (R' := { frames := R.frames, locals := R.locals, cells := 1, slots := 6 }) (Nat.le_refl _) (Nat.le_refl _) hroom.1 hroom.2
  obtain ⟨s', hA⟩ : ∃ z, z = (T.setVm s.vm).setFrames (.invoking m args :: below) := ⟨_, rfl⟩
  rw [← hA] at Y
  have hvm : s'.vm = s.vm := by rw [hA]; rfl
  have hhp : s'.heap = H := by rw [hA]; exact hT
  have hW0 : s.WarmedH s'.vm := by rw [hvm]; exact State.WarmedH.refl s
  have hWg : (gs g).WarmedH s'.vm := by rw [hvm]; exact aX_wm X
  have kp : ∀ a : Nat, a < (gs g).heap.size → ¬ gz g ≤ a → s'.heap[a]? = (gs g).heap[a]? := fun a ha _ => by rw [hhp]; exact hw.2.2.2.1 a ha
  have hU' : vx_Zq Bundle.tN "UNASSIGNED_STACK" Bundle.steD (fun q => gz g ≤ q) s' s'.heap := (X.1.2.2.2.2.2.2.2.2.2.1.kept kp).moved hWg.alike
  have hN' : vx_Zq Bundle.tN "SUPPRESSED_SENTINEL" Bundle.listD (fun q => gz g ≤ q) s' s'.heap := (X.1.2.2.2.2.2.2.2.2.2.2.1.kept kp).moved hWg.alike
  have gw : ∀ w ∈ lw_good, w.before args s' = true := fun w hw => word_at hWg (good_of_word (List.mem_filter.mp hw).2) (X.1.2.1 w (List.mem_filter.mp hw).1)
  have h : ∀ w ∈ tAt y.1.cls ic (xNm kx) ix rx sup names, w.before args s' = true := by
    intro w hw
    rcases hat w hw with h | ⟨h1, h2⟩ | rfl | rfl | rfl | rfl
    · exact gw w h
    · cases w with
      | declares x => exact va_Nw.use rfl (va_Nw.warmD hWg (va_Nw.of rfl (X.1.2.1 _ h2)))
      | _ => cases h1
    · exact vx_isRefq hU'.1
    · exact vx_isRefq hN'.1
    · exact hU'.2.word
    · exact hN'.2.word
  have hown' : s'.vm.findClass y.1.cls = some m.cls := by rw [hvm]; exact aX_own X
  have hins : (Cond.instantiable (xNm kx) 6).before args s' = true := h _ (by simp [tAt])
  obtain ⟨vm₁, cX, kX, hfX, hkX, -, -, X₁, st1⟩ := Y.newCold hexec (own := y.1.cls) (C := xNm kx) (index := ik) (n := 6) hown' (gw _ hk) hins (gw _ hini)
    (g := F0 m pc ls (st.map (cv g))) rfl (by rw [hb]; exact d0) (Nat.le_refl _) (Nat.le_refl _)
  generalize hT1 : (T.setVm vm₁).pushCell { cls := cX, slots := kX.instanceTypes.map defaultValue, vm := .none } = T1 at X₁ st1
  have hcat : (Value.ref T.heap.size).category = 1 := rfl
  have hcellA : T1.heap[T.heap.size]? = some (freshCell cX kX) := by rw [← hT1]; exact State.heap_pushCell_size _ _
  have d3' : decode c.code (pc + 3) = .ok (.dup, 1) := by rw [hb]; exact d3
  have d4' : decode c.code (pc + 4) = .ok (.ldc_w is, 3) := by rw [hb]; exact d4
  have hstr' : vk_R y.1.cls is tx (gK g j) s' := vk_R.warm hWg (X.1.2.2.2.2.2.2.1 _ _ _ hstr j hj)
  have hnil : c.exceptionTable.toList = [] := by
    have h9 := X.2.1.2.2.2.2.2.2.2.2.1
    rw [hexc] at h9
    exact List.map_eq_nil_iff.mp h9
  obtain ⟨U, hsteps, hrun, hend, hW, hsame, ce, hce, hce2, hce3⟩ := tb_ctorThrow X₁ hexec htr (own := y.1.cls) (cls := xNm kx) (sup := sup) (names := names) (ic := ic) (ix := ix) (rx := rx) hown' hcls hsup hnames r0 r1 r2 r5 h (fun x hx => nomatch hx) hfX hkX hcellA (by rw [hhp, hT]; exact Nat.le_refl _) (msg := .ref (gK g j)) rfl
    (g := { method := m, pc := pc + 7, locals := ls, stack := .ref (gK g j) :: .ref T.heap.size :: .ref T.heap.size :: st.map (cv g), locked := none }) rfl (X.2.2.2.1.1.trans X.2.1.2.2.1.symm) rfl rfl (rest := st.map (cv g)) rfl
    (by rw [hb]; exact d7) (by rw [hb]; exact d10) (by rw [hnil]; intro x hx; cases hx) (by rw [hnl]; show 5 < R.frames; omega) (by rw [hnl]; simp only [List.map_cons, List.sum_cons, hcat, sum_cv]; show 2 * 0 + _ + _ ≤ R.locals; omega) X.2.1.2.2.2.2.1
  obtain ⟨f1, f2⟩ := vx_frame hsame
  rw [hhp] at f1 f2
  have hWs : s.WarmedH U.vm := State.WarmedH.trans hW0 hW
  have hcl : s.vm.findClass (xNm kx) = some ce.cls := by rw [hvm] at hce3; exact hce3
  have hall : s.sameButNew ({ U with vm := s.vm } : State) locs (cells + 1) (slots + 6) := by
    subst hA
    obtain ⟨e1, e2⟩ := hsame
    rw [State.setFrames_setFrames] at e1
    have h2 : (T.setVm s.vm).sameButNew ({ U with vm := s.vm } : State) [] (0 + 1) (0 + 6) := ⟨e1, e2⟩
    have h3 := XS.same.trans h2
    rw [List.append_nil] at h3
    exact h3
  have hUsz : U.heap.size = H.size + 1 := by
    have u1 : U.heap.size ≤ s'.heap.size + (0 + 1) := hsame.2.2.1
    rw [hhp] at u1
    have u2 : T.heap.size < U.heap.size := (Array.getElem?_eq_some_iff.mp hce).1
    rw [hT] at u2
    omega
  refine ⟨U, ?_, .threw T.heap.size, .inr kx, xS σ, locs, cells + 1, slots + 6, hrun, hend, hWs, hall, X.2.2.2.2.2.1, ?_, ?_, wd_x hw hnc hns hUsz (fun q hq => f2 q hq (fun z hz => nomatch hz)), ⟨T.heap.size, ce, rfl, ?_, ?_, hce, hce2, hcl⟩, hq⟩
  · refine st1 _ ?_
    show Steps p.tables e below (T1.setTop { method := m, pc := pc + 3, locals := ls, stack := .ref T.heap.size :: st.map (cv g), locked := none }) _
    jvm_step X₁.here [X₁.here.top, hexec, d3', Value.category]
    exact X₁.ldcStringW hexec (own := y.1.cls) (text := tx) (index := is) (a := gK g j) hown' hstr'.1 hstr'.2
      (g := { method := m, pc := pc + 4, locals := ls, stack := .ref T.heap.size :: .ref T.heap.size :: st.map (cv g), locked := none }) rfl d4' _ hsteps
  · have := X.2.2.2.2.2.2.1; show cells + 1 + nc0 = aN σ + 1; omega
  · have := X.2.2.2.2.2.2.2; show slots + 6 + ns0 = aW σ + 6; omega
  · rw [hT, hw.1]; omega
  · rw [hT, hw.1]; omega
end ThrowR
