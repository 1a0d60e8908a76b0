/-! THE CLAIM OUT OF ONE WALK OF THE LAW'S BODY. Your part is whole_start (and what it stands on); all else here is the same for every law, but numbers. -/
def R_law : String := "ThroneBacksLaw"
def lw_P (b : Addr) (xs : List Int32) (args : Array Value) (s : State) : Prop := args = #[.ref b] ∧ s.IntsAt b xs ∧ xs.length ≤ 5120 ∧ (Jvm.Cond.and given_1 narrow_1).before args s = true
def lw_Q (_ : Array Value) (s : State) (o : Outcome) (t : State) : Prop := o = .returned (some (.int 1)) ∧ Framed s o t [] 601024 7293034
def lw_Z (below : List Frame) (a : Array Value) (s : State) : State → Prop := fun t => ∃ o, t.status = .running ∧ Ended t below o ∧ lw_Q a s o t
/-- what holds at the law's entry: the machine, the code, the tables' words (any of lw_tbl by 'hts w (by decide +kernel)'), the script of L ints xs at the cell b, what the Statement gives of the start (any of its parts by flat_of_before) -/
def lw_At (p : Program) (s : State) (m : MethodId) (meth : Method) (c : Code) (b L : Nat) (xs : Nat → Int32) : Prop :=
  p.tables.exec = Jvm.exec ∧ c.code = code ∧ meth.sig.returnType = ret ∧ c.maxLocals = 8 ∧ s.vm.findClass R_law = some m.cls ∧ (∀ w ∈ lw_tbl, w.before #[Value.ref b] s = true) ∧ va_X b L xs s s.heap ∧ b < s.heap.size ∧ meth.locks = false ∧ (meth.name = "law" ∧ c.exceptionTable.toList = []) ∧ (Jvm.Cond.and given_1 narrow_1).before #[Value.ref b] s = true
theorem cl_lt {c : Nat} {q : vw_C} (h : cl[c]? = some q) : c < 13 := (List.getElem?_eq_some_iff.mp h).1
theorem start_g {p : Program} {s : State} {m : MethodId} {meth : Method} {c : Code} (l : Launch) (hflags : l.flags = flags0) {b L : Nat} {xs : Nat → Int32} (C0 : lw_At p s m meth c b L xs) : ∃ g : aG, (gl g = l ∧ gs g = s ∧ gb g = b ∧ gL g = L ∧ gx g = xs) ∧ aE g ∧ aNx g := by
  obtain ⟨h1, h2, h3, h4, h5, hts, hX, hbl, h9, h10, hgv⟩ := C0
  have hs := flat_of_before _ hgv
  have hA : ∀ a : Nat, a < s.heap.size → ¬ s.heap.size ≤ a := fun a h z => by omega
  have hgd : ∀ w ∈ lw_good, w.before #[Value.ref b] s = true := fun w hw => hts w (List.mem_filter.mp hw).1
  have hC : ∀ c : Nat, ∃ q : ClassId × (Nat → Nat), c < 13 → u_Kn s (cR c) (fT c) (cN c) q.1 q.2 := fun c => by
    by_cases hc : c < 13
    · obtain ⟨cC, iS, h⟩ := u_known (ws := lw_good) hgd (ly c hc) (hgd _ (ii c hc).1)
      exact ⟨(cC, iS), fun _ => h⟩
    · exact ⟨(0, fun _ => 0), fun z => absurd z hc⟩
  obtain ⟨adC, hC⟩ := Classical.axiomOfChoice hC
  have hAr : ∀ t : Nat, ∃ cA : ClassId, 64 ≤ t → t ≤ 68 → ArrOfT s cA (aty t) ∧ va_RA s cA (aty t) := fun t => by
    by_cases ht : 64 ≤ t ∧ t ≤ 68
    · rcases (show t = 64 ∨ t = 65 ∨ t = 66 ∨ t = 67 ∨ t = 68 by omega) with rfl | rfl | rfl | rfl | rfl
      · obtain ⟨c, k, comp, q1, q2, q3⟩ := Cond.arrayClass_spec (hgd _ ac_int)
        exact ⟨c, fun _ _ => ⟨fun n z => ⟨fun k h => (by cases h), k, q2, comp, q3⟩, q1⟩⟩
      · obtain ⟨c, k, comp, q1, q2, q3⟩ := Cond.arrayClass_spec (hgd _ ac_byte)
        exact ⟨c, fun _ _ => ⟨fun n z => ⟨fun k h => (by cases h), k, q2, comp, q3⟩, q1⟩⟩
      · obtain ⟨c, k, comp, q1, q2, q3⟩ := Cond.arrayClass_spec (hgd _ ac_long)
        exact ⟨c, fun _ _ => ⟨fun n z => ⟨fun k h => (by cases h), k, q2, comp, q3⟩, q1⟩⟩
      · obtain ⟨comp, c, k, q1, -, q2, q3, q4⟩ := Cond.arrayOver_spec (hts _ ao_State)
        exact ⟨c, fun _ _ => ⟨fun n z => ⟨fun k h => (by cases h), k, q2, comp, q3⟩, ⟨k, comp, q2, q3, q1, q4⟩⟩⟩
      · obtain ⟨comp, c, k, q1, -, q2, q3, q4⟩ := Cond.arrayOver_spec (hts _ ao_Past)
        exact ⟨c, fun _ _ => ⟨fun n z => ⟨fun k h => (by cases h), k, q2, comp, q3⟩, ⟨k, comp, q2, q3, q1, q4⟩⟩⟩
    · exact ⟨0, fun z1 z2 => absurd ⟨z1, z2⟩ ht⟩
  obtain ⟨adA, hAr⟩ := Classical.axiomOfChoice hAr
  obtain ⟨adS, hS⟩ := Classical.axiomOfChoice (st_all (A := fun q => s.heap.size ≤ q) hs hA)
  have hF : va_Zq "jdk/internal/util/Preconditions" "SIOOBE_FORMATTER" "Ljava/util/function/BiFunction;" (fun q => s.heap.size ≤ q) s s.heap := va_Zqof (hts _ (by decide +kernel)) (hts _ (by decide +kernel)) (hs _ (by decide +kernel)) hA
  obtain ⟨t0, hF⟩ : ∃ t0 : Nat, ∃ v : Value, (v = .null ∨ v = .ref t0) ∧ va_Z "jdk/internal/util/Preconditions" "SIOOBE_FORMATTER" "Ljava/util/function/BiFunction;" v (fun q => s.heap.size ≤ q) s s.heap := by
    rcases hF with h | ⟨t, h⟩
    · exact ⟨0, .null, Or.inl rfl, h⟩
    · exact ⟨t, .ref t, Or.inr rfl, h⟩
  have hK : ∀ j, j < 22 → (if j = 100 then t0 else (adS j).1) = (adS j).1 := fun j hj => if_neg (by omega)
  refine ⟨(l, s, b, L, xs, (fun c => (adC c).1, fun c => (adC c).2), adA, (fun j => if j = 100 then t0 else (adS j).1), fun j => (adS j).2), ⟨rfl, rfl, rfl, rfl, rfl⟩, ⟨?_, hts, fun c q hq => ?_, fun t z1 z2 => hAr t z1 z2, hX, hbl, fun own tx k hw j hj => ?_, fun j hj => ?_, ?_, ?_, ?_, ?_⟩, ?_⟩
  · show l.stackTraces = false
    unfold Launch.stackTraces
    rw [hflags]; decide +kernel
  · have hc := cl_lt hq
    cases (cl_at c hc).symm.trans hq
    exact hC c hc
  · obtain ⟨hj2, hm⟩ := str_g hw hj
    refine vk_R.of (hts _ hw) ?_
    show (Term.string own k).eval _ s none [] s = some (.ref (if j = 100 then t0 else (adS j).1))
    rw [hK j hj2]
    exact (hS j hj2).1 _ hm
  · have h := (hS j (by omega)).2 hj
    have e : gK ((l, s, b, L, xs, (fun c => (adC c).1, fun c => (adC c).2), adA, (fun j => if j = 100 then t0 else (adS j).1), fun j => (adS j).2) : aG) j = (adS j).1 := hK j (by omega)
    rw [e]
    exact h
  · exact va_Zof (hts _ (by decide +kernel)) (hts _ (by decide +kernel)) (va_eqt (hs _ (by decide +kernel))) hA
  · exact vx_Zqof (hts _ (by decide +kernel)) (hts _ (by decide +kernel)) (hs _ (by decide +kernel)) hA
  · exact vx_Zqof (hts _ (by decide +kernel)) (hts _ (by decide +kernel)) (hs _ (by decide +kernel)) hA
  · obtain ⟨v, hv, h⟩ := hF
    exact ⟨v, hv, h⟩
  · exact va_Nc.of (hs (.not (.castable "java/lang/IllegalArgumentException" "java/util/NoSuchElementException")) (by decide +kernel))
theorem whole_start {p : Program} {e : Env} {s : State} {m : MethodId} {below : List Frame} {meth : Method} {c : Code} (l : Launch) (hflags : l.flags = flags0) {b L : Nat} {xs : Nat → Int32} (hL : L ≤ 5120) (C0 : lw_At p s m meth c b L xs) : W p l e room_1 s m #[Value.ref b] below meth c s.heap [] 0 0 (lw_Z below #[Value.ref b] s) (entryFrame m ([Value.ref b] : List Value).toArray 8) := by
  obtain ⟨g, ⟨e1, e2, e3, e4, e5⟩, hE, hN⟩ := start_g l hflags C0
  obtain ⟨h1, h2, h3, h4, h5, hts, hX, hbl, h9, ⟨hnm, hxt⟩, hgv⟩ := C0
  subst e1; subst e2; subst e3; subst e4; subst e5
  have hb := law_body (g := g) (d := 0) (Q := fun o _ => o = .inl (some (.int 1))) hN hL (fun _ => rfl)
  have hlk : lok g ((lg_sl ([Value.ref (gb g)]) ++ List.replicate (8 - (lg_sl ([Value.ref (gb g)])).length) Slot.unset).toArray) [.ref 0, .retAddr 0, .retAddr 0, .retAddr 0, .retAddr 0, .retAddr 0, .retAddr 0, .retAddr 0] [] 8 := lok_entry (g := g) (vs := [.ref 0]) (n := 8) rfl (by decide)
  have hw := hb p e room_1 (gs g) m #[Value.ref (gb g)] below meth c (gs g).heap [] 0 0 _ 0 0 ⟨hE, ⟨h1, h2, h4, h3, h9, h5, State.WarmedH.refl (gs g), hnm, by rw [hxt]; rfl, rfl, fun _ _ => rfl⟩, ⟨by decide, by decide, by decide, by decide⟩, hlk, ⟨rfl, Nat.le_refl _, ⟨Nat.zero_le _, Nat.zero_le _⟩, fun _ _ => rfl, fun a z1 z2 => absurd (show a ≤ 0 from z2) (by omega)⟩, fun q hq => absurd hq List.not_mem_nil, rfl, rfl⟩
  rw [lg_entry_eq]
  refine W_mono (fun t ht => ?_) hw
  obtain ⟨o, out, σ, Ls, k, n, q1, q2, q3, q4, q5, q6, q7, q8, q9, q10⟩ := ht
  have q10 : out = .inl (some (.int 1)) := q10
  subst q10
  have q9 : o = .returned (some (.int 1)) := q9
  have q11 := q8.2.2.1
  exact ⟨o, q1, q2, q9, ⟨some (.int 1), q9⟩, q3, q4.weaken (fun y hy hlt => absurd hlt (Nat.not_lt.mpr (q5 y hy))) (by omega) (by omega)⟩
set_option maxHeartbeats 4000000 in
theorem lw_walk (l : Launch) (hflags : l.flags = flags0) (b : Addr) (xs : List Int32) : MetFree l x (headSpec (Jvm.Cond.code x code maxLocals ret :: tables_1) room_1) (lw_P b xs) (fun _ _ _ _ _ => True) lw_Q := by
  refine MetFree.of_bodyS (code := code) (maxLocals := maxLocals) (ret := ret) (by decide) ?_ ?_
  · intro args s m h hn
    obtain ⟨meth, c, h1, h2, h3, h4, h5, h6, -, -⟩ := Cond.code_spec hn (atoms_spec (ws := Jvm.Cond.code x code maxLocals ret :: tables_1) h _ List.mem_cons_self)
    exact ⟨meth, c, h1, h2, h3, h4, h5, h6⟩
  · intro p e s m args below meth c s₁ B hml0 hP _
    obtain ⟨rfl, hx, hbd, hgv⟩ := hP
    obtain ⟨scr, harrAt, hlist, hof, hsmall⟩ := hx
    obtain ⟨hcb, hkn, -, -⟩ := State.arrayAt?_spec harrAt
    have hown : s.vm.findClass R_law = some m.cls := findClass_of_methodNamed B.named
    have hts0 : ∀ c ∈ (Jvm.Cond.code x code maxLocals ret :: tables_1), c.before #[Value.ref b] s = true := atoms_spec (ws := Jvm.Cond.code x code maxLocals ret :: tables_1) B.pre
    have hts : ∀ w ∈ lw_tbl, w.before #[Value.ref b] s = true := k2_hts_sels lw_privs (fun w hw => hts0 w (List.mem_cons_of_mem _ hw)) lw_privs_ok
    have hml : c.maxLocals = 8 := B.maxLocals_eq (hts0 _ List.mem_cons_self)
    have hexT : c.exceptionTable.toList = [] := by
      obtain ⟨meth9, c9, h1, h2, -, -, -, -, h7, -⟩ := Cond.code_spec B.named (hts0 _ List.mem_cons_self)
      cases Option.some.inj (h1.symm.trans B.method)
      cases Option.some.inj (h2.symm.trans (Stand.of_body B).code)
      rw [Array.isEmpty_iff.mp h7]
    have X₀ : Stand p l e room_1 s m #[Value.ref b] below meth c s₁ [] 0 0 := Stand.of_body B
    have hh0 : s₁.heap = s.heap := by rw [B.state]; rfl
    have hsz : scr.slots.size = xs.length := by rw [← Array.length_toList, hlist, List.length_map]
    have hval : ∀ j : Nat, j < xs.length → scr.slots[j]? = some (.int (xs.getD j 0)) := fun j hj => by
      rw [← Array.getElem?_toList, hlist]
      simp [hj]
    have hbl : b < s.heap.size := (Array.getElem?_eq_some_iff.mp hcb).1
    have hX : va_X b xs.length (fun j => xs.getD j 0) s s.heap := ⟨scr, hcb, hof, hkn, hsz, hval⟩
    have K : W p l e room_1 s m #[Value.ref b] below meth c s₁.heap [] 0 0 (lw_Z below #[Value.ref b] s) (entryFrame m ([Value.ref b] : List Value).toArray 8) := by
      rw [hh0]
      exact whole_start l hflags hbd ⟨B.exec, B.bytes, B.returns, hml, hown, hts, hX, hbl, B.notSynchronized, ⟨(name_of_methodNamed B.named B.method).1, hexT⟩, hgv⟩
    obtain ⟨t, a1, o, b1, b2, b3⟩ := K s₁ rfl X₀
    exact ⟨t, o, a1, b1, b2, b3⟩
theorem lw_pre_spec {args : Array Value} {s : State} (h : (Jvm.Cond.and given_1 narrow_1).before args s = true) (hr : rest_1_c.before args s = true) : ∃ (b : Addr) (xs : List Int32), lw_P b xs args s := by
  have hs := flat_of_before _ h
  have hq := flat_of_before _ hr
  have hc : (Cond.count 1).before args s = true := hs _ (by decide +kernel)
  have harr : (Cond.arrayOf (.arg 0) .int).before args s = true := hs _ (by decide +kernel)
  have hle : (Cond.le (.length (.arg 0)) (.int 5120)).before args s = true := hs _ (by decide +kernel)
  have hlen : (Cond.isInt (.length (.arg 0))).before args s = true := hq _ (by decide +kernel)
  have hall : (Cond.all (.arg 0) (.isInt (.elem (.arg 0) (.index 0)))).before args s = true := hq _ (by decide +kernel)
  obtain ⟨b, xs, hb, hx⟩ := State.ints_of_pre rfl harr hlen hall
  have hsm : xs.length < 2 ^ 31 := hx.choose_spec.2.2.2
  have hev : (Term.length (.arg 0)).eval args s none [] s = some (.int xs.length.toInt32) := hx.length_eval hb
  have hv := Cond.le_ints hev (show (Term.int 5120).eval args s none [] s = some (.int 5120) from rfl)
  have hd : xs.length.toInt32 ≤ 5120 := by
    simpa [Cond.before, Cond.holds, hv] using hle
  have hN : xs.length ≤ 5120 := (Int32.ofNat_le_ofNat hsm (by decide)).mp (show Int32.ofNat xs.length ≤ Int32.ofNat 5120 from hd)
  exact ⟨b, xs, Cond.one_arg hc (show args[0]? = some (.ref b) from hb), hx, hN, h⟩
theorem lw_comes (l : Launch) (hflags : l.flags = flags0) : Comes l x (Jvm.Cond.code x code maxLocals ret :: tables_1) room_1 (fun tb e args s => Calls_1 tb e args s ∧ rest_1 tb e args s ∧ Pre_1 tb e args s)
    (fun _ _ args s o t => lw_Q args s o t) := by
  intro p e ha hc hk s m args below hf hfit hheap happ hpre
  obtain ⟨b, xs, hP⟩ := lw_pre_spec hpre.2.2 hpre.2.1
  obtain ⟨k, o, h1, h2, h3, hQ⟩ := lw_walk l hflags b xs p e ha hc hk s m args below hf ((Spec.applies_iff_loose hf).mp happ).1 hP trivial
  exact ⟨k, o, h1, h2, h3, hQ⟩
theorem lw_frame {s t : State} {o : Outcome} {args : Array Value} (h : Framed s o t [] 601024 7293034) :
    Framed s o t (fieldLocs frame_1_writes args s ++ arrayLocs frame_1_arrays args s ++ staticLocs frame_1_statics s) 601024 7293034 := h
theorem lw_limb (L : Cond) (hL : ∀ (args : Array Value) (s t : State), L.after args s (.returned (some (.int 1))) t = true) :
    ArmFor flags0 classFile x code maxLocals ret World_1 tables_1 room_1 Calls_1 rest_1 Pre_1
      (fun tb e a s o t => postC L tb e a s o t ∧ Framed s o t (fieldLocs frame_1_writes a s ++ arrayLocs frame_1_arrays a s ++ staticLocs frame_1_statics s) 601024 7293034) := by
  intro l hflags _ _ p e ha hc hk s m args below hf hfit hheap happ hpre
  obtain ⟨k, o, h1, h2, h3, rfl, hF⟩ := lw_comes l hflags p e ha hc hk s m args below hf hfit hheap happ hpre
  exact ⟨k, _, h1, h2, h3, hL args s _, lw_frame hF⟩
theorem i_vc : Claimed_1_1 ∧ Claimed_1_2 := ⟨lw_limb limb_1_1 (fun args s t => by simp [limb_1_1, Cond.after, Cond.holds, Cond.value]), lw_limb limb_1_2 (fun args s t => Cond.after_iff.mpr (by
  first | (rw [show limb_1_2 = Cond.eq .result (.int 1) from rfl, Cond.eq_ints (x := 1) (y := 1) rfl rfl]; simp; done) | (simp [limb_1_2, Cond.value, Term.eval]; done)))⟩
