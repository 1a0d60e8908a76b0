section S
variable {g : aG} {d : Nat} {I : Nat → Nat → Int32} {J : Nat → Nat → Int64} {n w : Nat} {Q : aO → aS → Prop}
variable {q0 : gX} {S S' : sD} {D : cD} {cs : List Nat} {I' : Nat → Nat → Int32}
theorem Wc_s (h : Wc I 33 D cs S) (hf : ∀ a j, (3 < a ∧ a < 9) ∨ a = 14 ∨ a = 15 → I' a j = I a j) (hS : Sc I' 33 S') (ho : sOk D S') : Wc I' 33 D cs S' := ⟨Co_fr h.1 (fun x j _ _ => hf x j (by omega)), h.2.1, Lw_fr h.2.2.1 (fun x j _ _ => hf x j (by omega)), h.2.2.2.1, hS, ho⟩
theorem Wn_s (h : Wn I D cs S) (hf : ∀ a j, mG a j → a ≠ 549 → (a ≠ 534 ∨ j ≠ 32) → I' a j = I a j) (hS : Sm (I' 549) S') (ho : sOk D S') : Wn I' D cs S' := ⟨Mo_fr h.1 (fun x j _ => hf x j (by unfold mG; omega) (by omega) (by omega)), h.2.1, Lq_fr h.2.2.1 (fun x j _ => hf x j (by unfold mG; omega) (by omega) (by omega)), h.2.2.2.1, hS, ho⟩
theorem pr_undo (hx : gOk q0) : prD 3 0 mX11_undo mX12_undo [.ref 1] [.ref 534] q0 := by
  obtain ⟨⟨t0, T0, f0⟩, ⟨D, cs, S, B, kB, rr⟩, ⟨ww, PP, mm, wI, SI, PI⟩, ca, cz⟩ := q0
  have h16 : ww ≤ 16 := hx.2.2.1
  cases ww with
  | zero => exact ⟨_, -1, hx, fun g d I J n w Q hI k1 => c_X11_undo (ww := 0) hI.2.2.1.1 (Nat.zero_le _) (fun _ => k1 I hI fcl_r) (fun v _ e => absurd e (by omega)), fun g d I J n w Q hI k1 => c_X12_undo (ww := 0) hI.2.2.1.1 (Nat.zero_le _) (fun _ => k1 _ (mI_0 hI) fml_0) (fun v _ e => absurd e (by omega))⟩
  | succ v =>
    have hP := hx.2.2.2.1 v (Nat.lt_succ_self v)
    have ho : gOk ((t0, T0, f0), (D, cs, PP v, B, kB, 0), (v, PP, mm, wI, SI, PI), ca, cz) := ⟨hx.1, hP.2, by have := hx.2.2.1; show v ≤ 16; omega, fun i hi => hx.2.2.2.1 i (Nat.lt_succ_of_lt hi), hx.2.2.2.2⟩
    refine ⟨_, nI v, ho, fun g d I J n w Q hI k1 => c_X11_undo (ww := v + 1) hI.2.2.1.1 h16 (fun e => absurd e (by omega)) (fun v9 I9 e h1 h2 h3 h4 => ?_), fun g d I J n w Q hI k1 => c_X12_undo (ww := v + 1) hI.2.2.1.1 h16 (fun e => absurd e (by omega)) (fun v9 I9 e h1 h0 h2 h3 h4 => ?_)⟩
    · have ev : v9 = v := by omega
      subst ev
      exact k1 I9 ⟨tpC_f hI.1 (fun a j z => h1 a j (by unfold kT at z; omega) (by unfold kT at z; omega)), ⟨Wc_s hI.2.1.1 (fun a j z => h1 a j (by omega) (by omega)) (h4 _ (hI.2.2.1.2.1 v9 (Nat.lt_succ_self v9))) hP.1, ⟨(h1 22 1 (by omega) (by omega)).trans hI.2.1.2.1.1, fun b hb => (h1 23 b (by omega) (by omega)).trans (hI.2.1.2.1.2 b hb)⟩, h3⟩,
        ⟨h2, fun i hi => Sc_fr (hI.2.2.1.2.1 i (Nat.lt_succ_of_lt hi)) (fun a j _ _ => h1 a j (by omega) (by omega)), (h1 1 15 (by omega) (by omega)).trans hI.2.2.1.2.2.1, fun v hv => ⟨(h1 _ _ (by omega) (by omega)).trans (hI.2.2.1.2.2.2 v hv).1, Sc_fr (hI.2.2.1.2.2.2 v hv).2.1 (fun a j _ _ => h1 a j (by omega) (by omega)), fun i hi => Sc_fr ((hI.2.2.1.2.2.2 v hv).2.2 i hi) (fun a j _ _ => h1 a j (by omega) (by omega))⟩⟩,
        ctC_f hI.2.2.2 (fun a j z => h1 a j (by unfold kN at z; omega) (by unfold kN at z; omega))⟩ (fun a j z => h1 a j (by omega) (by omega))
    · have ev : v9 = v := by omega
      subst ev
      exact k1 I9 ⟨tpM_f hI.1 (fun a j z => h1 a j (by unfold mT at z; omega) (by unfold mT at z; omega)), ⟨Wn_s hI.2.1.1 (fun a j z z2 z3 => h1 a j (by unfold mG at z; omega) z2) (Sm_fr (hI.2.2.1.2.1 v9 (Nat.lt_succ_self v9)) (fun j hj => h4 j hj)) hP.1, (h1 _ _ (by omega) (by omega)).trans hI.2.1.2.1, fun b hb => (h1 _ _ (by omega) (by omega)).trans (hI.2.1.2.2.1 b hb), h3⟩,
        ⟨h2, fun i hi => Sm_fr (hI.2.2.1.2.1 i (Nat.lt_succ_of_lt hi)) (fun j _ => h1 _ _ (by omega) (by omega)), (h1 _ _ (by omega) (by omega)).trans hI.2.2.1.2.2.1, fun v hv => ⟨(h1 _ _ (by omega) (by omega)).trans (hI.2.2.1.2.2.2 v hv).1, Sm_fr (hI.2.2.1.2.2.2 v hv).2.1 (fun j _ => h1 _ _ (by omega) (by omega)), fun i hi => Sm_fr ((hI.2.2.1.2.2.2 v hv).2.2 i hi) (fun j _ => h1 _ _ (by omega) (by omega))⟩⟩,
        ctM_f hI.2.2.2 (fun a j z => h1 a j (by unfold mN at z; omega) (by unfold mN at z; omega))⟩ (fun a j z => h1 a j (by omega) (by omega))
theorem pr_image (hx : gOk q0) : prD 3 2 mX11_image mX12_image [.ref 1] [.ref 534] q0 := by
  obtain ⟨⟨t0, T0, f0⟩, ⟨D, cs, S, B, kB, rr⟩, ⟨ww, PP, mm, wI, SI, PI⟩, ca, cz⟩ := q0
  have h16 : ww ≤ 16 := hx.2.2.1
  have hm3 : mm ≤ 3 := hx.2.2.2.2.1
  have hwi : ∀ v, v < mm → wI v ≤ 16 := fun v hv => (hx.2.2.2.2.2 v hv).1
  by_cases e3 : mm = 3
  · exact ⟨_, -1, hx, fun g d I J n w Q hI k1 => c_X11_image (mm := mm) (ww := ww) hI.2.2.1.2.2.1 hm3 hI.2.2.1.1 h16 (fun _ => k1 I hI fcl_r) (fun _ e => absurd e (by omega)), fun g d I J n w Q hI k1 => c_X12_image (mm := mm) (ww := ww) hI.2.2.1.2.2.1 hm3 hI.2.2.1.1 (fun _ => k1 _ (mI_0 hI) fml_0) (fun _ e => absurd e (by omega))⟩
  · have hS : sOk D S ∧ sY S ≤ 400 → gOk ((t0, T0, f0), (D, cs, S, B, kB, rr), (ww, PP, mm + 1, (fun v => if v = mm then ww else wI v), (fun v => if v = mm then S else SI v), fun v => if v = mm then PP else PI v), ca, cz) := fun hSo => ⟨hx.1, hx.2.1, hx.2.2.1, hx.2.2.2.1, by show mm + 1 ≤ 3; omega, fun v hv => by
      have hv : v < mm + 1 := hv
      by_cases e : v = mm
      · show (if v = mm then ww else wI v) ≤ 16 ∧ stO D (if v = mm then S else SI v) ∧ ∀ i, i < (if v = mm then ww else wI v) → stO D ((if v = mm then PP else PI v) i)
        rw [if_pos e, if_pos e, if_pos e]; exact ⟨h16, hSo, hx.2.2.2.1⟩
      · show (if v = mm then ww else wI v) ≤ 16 ∧ stO D (if v = mm then S else SI v) ∧ ∀ i, i < (if v = mm then ww else wI v) → stO D ((if v = mm then PP else PI v) i)
        rw [if_neg e, if_neg e, if_neg e]; exact hx.2.2.2.2.2 v (show v < mm by omega)⟩
    by_cases hSo : sOk D S
    · refine ⟨_, nI (mm + 1), hS ⟨hSo, hx.2.1⟩, fun g d I J n w Q hI k1 => c_X11_image (mm := mm) (ww := ww) hI.2.2.1.2.2.1 hm3 hI.2.2.1.1 h16 (fun e => absurd e e3) (fun I9 hlt h1 h2 h3 h4 h5 => ?_), fun g d I J n w Q hI k1 => c_X12_image (mm := mm) (ww := ww) hI.2.2.1.2.2.1 hm3 hI.2.2.1.1 (fun e => absurd e e3) (fun I9 hlt h1 h0 h2 h3 h4 h5 => ?_)⟩
      · refine k1 I9 ⟨tpC_f hI.1 (fun a j z => h1 a j (by unfold kT at z; omega) (by unfold kT at z; omega)), sgC_f hI.2.1 (fun a j z => h1 a j (by unfold kG at z; omega) (by unfold kG at z; omega)), ⟨(h1 _ _ (by omega) (by omega)).trans hI.2.2.1.1, fun i hi => Sc_fr (hI.2.2.1.2.1 i hi) (fun a j _ _ => h1 a j (by have : i < ww := hi; omega) (by omega)), h2, fun v hv => ?_⟩, ctC_f hI.2.2.2 (fun a j z => h1 a j (by unfold kN at z; omega) (by unfold kN at z; omega))⟩ (fun a j z => h1 a j (by omega) (by omega))
        have hv : v < mm + 1 := hv
        by_cases e : v = mm
        · show I9 (154 + 121 * v) 2 = nI (if v = mm then ww else wI v) ∧ Sc I9 (155 + 121 * v) (if v = mm then S else SI v) ∧ ∀ i, i < (if v = mm then ww else wI v) → Sc I9 (163 + 121 * v + 7 * i) ((if v = mm then PP else PI v) i)
          rw [if_pos e, if_pos e, if_pos e, e]
          exact ⟨h3, h4 _ hI.2.1.1.2.2.2.2.1, fun i hi => h5 i hi _ (hI.2.2.1.2.1 i hi)⟩
        · show I9 (154 + 121 * v) 2 = nI (if v = mm then ww else wI v) ∧ Sc I9 (155 + 121 * v) (if v = mm then S else SI v) ∧ ∀ i, i < (if v = mm then ww else wI v) → Sc I9 (163 + 121 * v + 7 * i) ((if v = mm then PP else PI v) i)
          rw [if_neg e, if_neg e, if_neg e]
          have hv2 : v < mm := by omega
          have q := hI.2.2.1.2.2.2 v hv2
          have qw := hwi v hv2
          exact ⟨(h1 _ _ (by omega) (by omega)).trans q.1, Sc_fr q.2.1 (fun a j _ _ => h1 a j (by omega) (by omega)), fun i hi => Sc_fr (q.2.2 i hi) (fun a j _ _ => h1 a j (by have : i < wI v := hi; omega) (by omega))⟩
      · refine k1 I9 ⟨tpM_f hI.1 (fun a j z => h1 a j (by unfold mT at z; omega) (by unfold mT at z; omega)), sgM_f hI.2.1 (fun a j z => h1 a j (by unfold mG at z; omega) (by unfold mG at z; omega)), ⟨(h1 _ _ (by omega) (by omega)).trans hI.2.2.1.1, fun i hi => Sm_fr (hI.2.2.1.2.1 i hi) (fun j _ => h1 _ _ (by omega) (by omega)), h2, fun v hv => ?_⟩, ctM_f hI.2.2.2 (fun a j z => h1 a j (by unfold mN at z; omega) (by unfold mN at z; omega))⟩ (fun a j z => h1 a j (by omega) (by omega))
        have hv : v < mm + 1 := hv
        by_cases e : v = mm
        · show I9 559 (2143 * v + 2142) = nI (if v = mm then ww else wI v) ∧ Sm (fun k => I9 559 (2143 * v + k)) (if v = mm then S else SI v) ∧ ∀ i, i < (if v = mm then ww else wI v) → Sm (fun k => I9 559 (2143 * v + 126 + (126 * i + k))) ((if v = mm then PP else PI v) i)
          rw [if_pos e, if_pos e, if_pos e, e]
          exact ⟨h5, Sm_fr hI.2.1.1.2.2.2.2.1 (fun j hj => h3 j hj), fun i hi => Sm_fr (hI.2.2.1.2.1 i hi) (fun j hj => h4 (126 * i + j) (by omega))⟩
        · show I9 559 (2143 * v + 2142) = nI (if v = mm then ww else wI v) ∧ Sm (fun k => I9 559 (2143 * v + k)) (if v = mm then S else SI v) ∧ ∀ i, i < (if v = mm then ww else wI v) → Sm (fun k => I9 559 (2143 * v + 126 + (126 * i + k))) ((if v = mm then PP else PI v) i)
          rw [if_neg e, if_neg e, if_neg e]
          have hv2 : v < mm := by omega
          have q := hI.2.2.1.2.2.2 v hv2
          have qw := hwi v hv2
          exact ⟨(h1 _ _ (by omega) (by omega)).trans q.1, Sm_fr q.2.1 (fun j hj => h1 _ _ (by omega) (by omega)), fun i hi => Sm_fr (q.2.2 i hi) (fun j hj => h1 _ _ (by have : i < wI v := hi; omega) (by omega))⟩
    · exact ⟨_, 0, hx, fun g d I J n w Q hI => absurd hI.2.1.1.2.2.2.2.2 hSo, fun g d I J n w Q hI => absurd hI.2.1.1.2.2.2.2.2 hSo⟩
theorem pr_restore (hx : gOk q0) : prD 3 2 mX11_restore mX12_restore [.ref 1] [.ref 534] q0 := by
  obtain ⟨⟨t0, T0, f0⟩, ⟨D, cs, S, B, kB, rr⟩, ⟨ww, PP, mm, wI, SI, PI⟩, ca, cz⟩ := q0
  have hm3 : mm ≤ 3 := hx.2.2.2.2.1
  have hwi : ∀ v, v < mm → wI v ≤ 16 := fun v hv => (hx.2.2.2.2.2 v hv).1
  cases mm with
  | zero => exact ⟨_, -1, hx, fun g d I J n w Q hI k1 => c_X11_restore (mm := 0) hI.2.2.1.2.2.1 hm3 (fun v hv => absurd hv (Nat.not_lt_zero _)) (fun _ => k1 I hI fcl_r) (fun v _ _ e => absurd e (by omega)), fun g d I J n w Q hI k1 => c_X12_restore (mm := 0) hI.2.2.1.2.2.1 hm3 (fun v hv => absurd hv (Nat.not_lt_zero _)) (fun _ => k1 _ (mI_0 hI) fml_0) (fun v _ _ e => absurd e (by omega))⟩
  | succ v =>
    have hv := hx.2.2.2.2.2 v (Nat.lt_succ_self v)
    have hw := hwi v (Nat.lt_succ_self v)
    have ho : gOk ((t0, T0, f0), (D, cs, SI v, B, kB, 0), (wI v, PI v, v, wI, SI, PI), ca, cz) := ⟨hx.1, hv.2.1.2, hv.1, hv.2.2, by show v ≤ 3; omega, fun i hi => hx.2.2.2.2.2 i (Nat.lt_succ_of_lt hi)⟩
    refine ⟨_, nI v, ho, fun g d I J n w Q hI k1 => c_X11_restore (mm := v + 1) hI.2.2.1.2.2.1 hm3 (fun u hu => ⟨_, hwi u hu, (hI.2.2.1.2.2.2 u hu).1⟩) (fun e => absurd e (by omega)) (fun v9 ww9 I9 e w16 e9 h1 h2 h3 h4 h5 h6 => ?_), fun g d I J n w Q hI k1 => c_X12_restore (mm := v + 1) hI.2.2.1.2.2.1 hm3 (fun u hu => ⟨_, hwi u hu, (hI.2.2.1.2.2.2 u hu).1⟩) (fun e => absurd e (by omega)) (fun v9 ww9 I9 e w16 e9 h1 h0 h2 h3 h4 h5 h6 => ?_)⟩
    · have ev : v9 = v := by omega
      subst ev
      have q := hI.2.2.1.2.2.2 v9 (Nat.lt_succ_self v9)
      have ew : wI v9 = ww9 := (nI_eq (by omega) (by omega)).mp (q.1.symm.trans e9)
      subst ew
      exact k1 I9 ⟨tpC_f hI.1 (fun a j z => h1 a j (by unfold kT at z; omega) (by unfold kT at z; omega)), ⟨Wc_s hI.2.1.1 (fun a j z => h1 a j (by omega) (by omega)) (h5 _ q.2.1) hv.2.1.1, ⟨(h1 22 1 (by omega) (by omega)).trans hI.2.1.2.1.1, fun b hb => (h1 23 b (by omega) (by omega)).trans (hI.2.1.2.1.2 b hb)⟩, h3⟩,
        ⟨h4, fun i hi => h6 i hi _ (q.2.2 i hi), h2, fun u hu => ⟨(h1 _ _ (by omega) (by omega)).trans (hI.2.2.1.2.2.2 u (Nat.lt_succ_of_lt hu)).1, Sc_fr (hI.2.2.1.2.2.2 u (Nat.lt_succ_of_lt hu)).2.1 (fun a j _ _ => h1 a j (by omega) (by omega)), fun i hi => Sc_fr ((hI.2.2.1.2.2.2 u (Nat.lt_succ_of_lt hu)).2.2 i hi) (fun a j _ _ => h1 a j (by omega) (by omega))⟩⟩,
        ctC_f hI.2.2.2 (fun a j z => h1 a j (by unfold kN at z; omega) (by unfold kN at z; omega))⟩ (fun a j z => h1 a j (by omega) (by omega))
    · have ev : v9 = v := by omega
      subst ev
      have q := hI.2.2.1.2.2.2 v9 (Nat.lt_succ_self v9)
      have ew : wI v9 = ww9 := (nI_eq (by omega) (by omega)).mp (q.1.symm.trans e9)
      subst ew
      exact k1 I9 ⟨tpM_f hI.1 (fun a j z => h1 a j (by unfold mT at z; omega) (by unfold mT at z; omega) (by unfold mT at z; omega)), ⟨Wn_s hI.2.1.1 (fun a j z z2 z3 => h1 a j (by unfold mG at z; omega) z2 (by unfold mG at z; omega)) (Sm_fr q.2.1 (fun j hj => h5 j hj)) hv.2.1.1, (h1 _ _ (by omega) (by omega) (by omega)).trans hI.2.1.2.1, fun b hb => (h1 _ _ (by omega) (by omega) (by omega)).trans (hI.2.1.2.2.1 b hb), h4⟩,
        ⟨h3, fun i hi => Sm_fr (q.2.2 i hi) (fun j hj => h6 (126 * i + j) (by have : i < wI v9 := hi; omega)), h2, fun u hu => ⟨(h1 _ _ (by omega) (by omega) (by omega)).trans (hI.2.2.1.2.2.2 u (Nat.lt_succ_of_lt hu)).1, Sm_fr (hI.2.2.1.2.2.2 u (Nat.lt_succ_of_lt hu)).2.1 (fun j _ => h1 _ _ (by omega) (by omega) (by omega)), fun i hi => Sm_fr ((hI.2.2.1.2.2.2 u (Nat.lt_succ_of_lt hu)).2.2 i hi) (fun j _ => h1 _ _ (by omega) (by omega) (by omega))⟩⟩,
        ctM_f hI.2.2.2 (fun a j z => h1 a j (by unfold mN at z; omega) (by unfold mN at z; omega) (by unfold mN at z; omega))⟩ (fun a j z => h1 a j (by omega) (by omega) (by omega))
end S
