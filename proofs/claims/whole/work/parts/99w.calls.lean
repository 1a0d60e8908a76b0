section S
variable {g : aG} {d : Nat} {I : Nat → Nat → Int32} {J : Nat → Nat → Int64} {n w : Nat} {Q : aO → aS → Prop}
variable {q0 : gX}
theorem pr_roster {x : Int32} (hx : gOk q0) : prS 9 8 mX11_roster mX12_roster [.ref 1, .int x] [.ref 534, .int x] cdA q0 := by
  obtain ⟨⟨t0, T0, f0⟩, ⟨D, cs, S, B, kB, rr⟩, ⟨ww, PP, mm, wI, SI, PI⟩, ca, cz⟩ := q0
  by_cases h0 : fewR D x
  · exact ask_ok (vRos D cs S (xN x)) hx
      (fun g d I J n w Q hI hn k1 => c_X11_roster (D := D) (cs := cs) (S := S) hI.2.1.1 hn (fun z => absurd h0 z) (fun u e hu _ I9 kk => by
        have p2 := p2_12 (show cc D ≤ 12 from hI.2.1.1.2.1.2.1)
        have E : xN x = u := by rw [e]; exact nI_clamp (by omega)
        have h := k1 I9 kk
        rw [E] at h; exact h))
      (fun g d I J n w Q hI k1 => c_X12_roster (D := D) (cs := cs) (S := S) hI.2.1.1 (fun z => absurd h0 z) (fun u e hu _ I9 kk h00 => by
        have p2 := p2_12 (show cc D ≤ 12 from hI.2.1.1.2.1.2.1)
        have E : xN x = u := by rw [e]; exact nI_clamp (by omega)
        have h := k1 I9 kk h00
        rw [E] at h; exact h))
  · exact ask_no 1 1 (by decide) rfl (by decide) hx (fun g d I J n w Q hI hn k1 => c_X11_roster (D := D) (cs := cs) (S := S) hI.2.1.1 hn (fun _ => k1) (fun u e hu h6 _ _ => absurd ⟨u, e, hu, h6⟩ h0)) (fun g d I J n w Q hI k1 => c_X12_roster (D := D) (cs := cs) (S := S) hI.2.1.1 (fun _ => k1) (fun u e hu h6 _ _ _ => absurd ⟨u, e, hu, h6⟩ h0))
theorem pr_gives {x y : Int32} (hx : gOk q0) : prS 9 8 mX11_gives mX12_gives [.ref 1, .int x, .int y] [.ref 534, .int x, .int y] cdB q0 := by
  obtain ⟨⟨t0, T0, f0⟩, ⟨D, cs, S, B, kB, rr⟩, ⟨ww, PP, mm, wI, SI, PI⟩, ca, cz⟩ := q0
  by_cases h0 : iv 0 (cc D) x
  · by_cases h1 : fewR D y
    · exact ask_ok (vGiv D cs S (xN x) (xN y)) hx
        (fun g d I J n w Q hI hn k1 => c_X11_gives (D := D) (cs := cs) (S := S) hI.2.1.1 hn (fun z => absurd h0 z) (fun _ z => absurd h1 z) (fun c u e0 hc e hu _ I9 kk => by
          have h12 : cc D ≤ 12 := hI.2.1.1.2.1.2.1
          have p2 := p2_12 h12
          have E0 : xN x = c := by rw [e0]; exact nI_clamp (by omega)
          have E : xN y = u := by rw [e]; exact nI_clamp (by omega)
          have h := k1 I9 kk
          rw [E0, E] at h; exact h))
        (fun g d I J n w Q hI k1 => c_X12_gives (D := D) (cs := cs) (S := S) hI.2.1.1 (fun z => absurd h0 z) (fun _ z => absurd h1 z) (fun c u e0 hc e hu _ I9 kk h00 => by
          have h12 : cc D ≤ 12 := hI.2.1.1.2.1.2.1
          have p2 := p2_12 h12
          have E0 : xN x = c := by rw [e0]; exact nI_clamp (by omega)
          have E : xN y = u := by rw [e]; exact nI_clamp (by omega)
          have h := k1 I9 kk h00
          rw [E0, E] at h; exact h))
    · exact ask_no 1 2 (by decide) rfl (by decide) hx (fun g d I J n w Q hI hn k1 => c_X11_gives (D := D) (cs := cs) (S := S) hI.2.1.1 hn (fun z => absurd h0 z) (fun _ _ => k1) (fun c u e0 hc e hu h6 _ _ => absurd ⟨u, e, hu, h6⟩ h1)) (fun g d I J n w Q hI k1 => c_X12_gives (D := D) (cs := cs) (S := S) hI.2.1.1 (fun z => absurd h0 z) (fun _ _ => k1) (fun c u e0 hc e hu h6 _ _ _ => absurd ⟨u, e, hu, h6⟩ h1))
  · exact ask_no 0 1 (by decide) rfl (by decide) hx (fun g d I J n w Q hI hn k1 => c_X11_gives (D := D) (cs := cs) (S := S) hI.2.1.1 hn (fun _ => k1) (fun z _ => absurd z h0) (fun c u e0 hc e hu h6 _ _ => absurd ⟨c, e0, Nat.zero_le _, hc⟩ h0)) (fun g d I J n w Q hI k1 => c_X12_gives (D := D) (cs := cs) (S := S) hI.2.1.1 (fun _ => k1) (fun z _ => absurd z h0) (fun c u e0 hc e hu h6 _ _ _ => absurd ⟨c, e0, Nat.zero_le _, hc⟩ h0))
section
variable {dc dm : Nat} {yc ym : aM} {Ac Am : List Value} {cd : Nat → Option Int32} {x : gX}
theorem asl_ok (v : Int64) (hx : gOk x) (hC : ∀ (g : aG) (d : Nat) (I : Nat → Nat → Int32) (J : Nat → Nat → Int64) (n w : Nat) (Q : aO → aS → Prop), cI x I → n + 1 ≤ 600000 ∧ w + 6 ≤ 7000000 → (∀ I', kc I I' → Q (.inl (some (.long v))) (Z I' J n w)) → Cn g (d + dc) yc Ac (Z I J n w) Q)
    (hM : ∀ (g : aG) (d : Nat) (I : Nat → Nat → Int32) (J : Nat → Nat → Int64) (n w : Nat) (Q : aO → aS → Prop), mI x I → (∀ I' J', km I I' → I' 534 0 = 0 → kj J J' → Q (.inl (some (.long v))) (Z I' J' n w)) → Cn g (d + dm) ym Am (Z I J n w) Q) : prL dc dm yc ym Ac Am cd x :=
  ⟨x, .inl v, hx, fun k e => (by cases e), fun g d I J n w Q hI hn k1 _ => hC g d I J n w Q hI hn (fun I' kk => k1 v I' rfl (cI_f hx hI (fun a j z _ => kk a j z)) (fcl_kc kk)), fun g d I J n w Q hI k1 _ => hM g d I J n w Q hI (fun I' J' kk h0 hj => k1 v I' J' rfl (mI_f hI (fun a j z _ => kk a j z)) (fml_km kk) h0 hj)⟩
theorem asl_no (k : Nat) (c : Int32) (hk : k = 0 ∨ k = 1) (hcd : cd k = some c) (hc0 : c ≠ 0) (hx : gOk x) (hC : ∀ (g : aG) (d : Nat) (I : Nat → Nat → Int32) (J : Nat → Nat → Int64) (n w : Nat) (Q : aO → aS → Prop), cI x I → n + 1 ≤ 600000 ∧ w + 6 ≤ 7000000 → Q (.inr k) (Z (up I 1 (17 + k) (I 1 (17 + k) + 1)) J (n + 1) (w + 6)) → Cn g (d + dc) yc Ac (Z I J n w) Q)
    (hM : ∀ (g : aG) (d : Nat) (I : Nat → Nat → Int32) (J : Nat → Nat → Int64) (n w : Nat) (Q : aO → aS → Prop), mI x I → Q (.inl (some (.long 0))) (Z (thr I c k) J n w) → Cn g (d + dm) ym Am (Z I J n w) Q) : prL dc dm yc ym Ac Am cd x :=
  ⟨bpX x k, .inr k, gOk_b hx, fun k' e => (by cases e; exact ⟨c, hcd, hc0⟩), fun g d I J n w Q hI hn _ k2 => hC g d I J n w Q hI hn (k2 k _ rfl (cI_b hk hx hI) fcl_b), fun g d I J n w Q hI _ k2 => hM g d I J n w Q hI (k2 k _ rfl (mI_b hk hI) fml_t (by rw [thr_c, hcd]; rfl))⟩
end
theorem pr_lies {x y z u : Int32} (hx : gOk q0) : prL 8 2 mX11_lies mX12_lies [.ref 1, .int x, .int y, .int z, .int u] [.ref 534, .int x, .int y, .int z, .int u] cdA q0 := by
  obtain ⟨⟨t0, T0, f0⟩, ⟨D, cs, S, B, kB, rr⟩, pp, cn⟩ := q0
  by_cases h0 : iv 0 (13) x
  · by_cases h1 : iv 0 (14) y
    · by_cases h2 : iv 0 (17) z
      · by_cases h3 : iv 0 (2) u
        · exact asl_ok (vLs (xN x) (xN y) (xN z) (xN u)) hx
            (fun g d I J n w Q hI hn k1 => c_X11_lies (D := D) (cs := cs) (S := S) hI.2.1.1 hn (fun z => absurd h0 z) (fun _ z => absurd h1 z) (fun _ _ z => absurd h2 z) (fun _ _ _ z => absurd h3 z) (fun a k q e e_a l1 e_k l3 e_q l5 e_e l7 I9 kk => by
              have hb7 := hI.2.1.1.2.1.1
              have hc12 := hI.2.1.1.2.1.2.1
              have p1 := p2_12 (show cb D ≤ 12 by have hb8 : cb D ≤ 7 := hb7; omega)
              have p2 := p2_12 (show cc D ≤ 12 from hc12)
              have E_a : xN x = a := by rw [e_a]; exact nI_clamp (by have h7 : cb D ≤ 7 := hb7; have h12 : cc D ≤ 12 := hc12; omega)
              have E_k : xN y = k := by rw [e_k]; exact nI_clamp (by have h7 : cb D ≤ 7 := hb7; have h12 : cc D ≤ 12 := hc12; omega)
              have E_q : xN z = q := by rw [e_q]; exact nI_clamp (by have h7 : cb D ≤ 7 := hb7; have h12 : cc D ≤ 12 := hc12; omega)
              have E_e : xN u = e := by rw [e_e]; exact nI_clamp (by have h7 : cb D ≤ 7 := hb7; have h12 : cc D ≤ 12 := hc12; omega)
              have h := k1 I9 kk
              rw [E_a, E_k, E_q, E_e] at h; exact h))
            (fun g d I J n w Q hI k1 => c_X12_lies (D := D) (cs := cs) (S := S) hI.2.1.1 (fun z => absurd h0 z) (fun _ z => absurd h1 z) (fun _ _ z => absurd h2 z) (fun _ _ _ z => absurd h3 z) (fun a k q e e_a l1 e_k l3 e_q l5 e_e l7 I9 J9 kk h00 hj => by
              have hb7 := hI.2.1.1.2.1.1
              have hc12 := hI.2.1.1.2.1.2.1
              have p1 := p2_12 (show cb D ≤ 12 by have hb8 : cb D ≤ 7 := hb7; omega)
              have p2 := p2_12 (show cc D ≤ 12 from hc12)
              have E_a : xN x = a := by rw [e_a]; exact nI_clamp (by have h7 : cb D ≤ 7 := hb7; have h12 : cc D ≤ 12 := hc12; omega)
              have E_k : xN y = k := by rw [e_k]; exact nI_clamp (by have h7 : cb D ≤ 7 := hb7; have h12 : cc D ≤ 12 := hc12; omega)
              have E_q : xN z = q := by rw [e_q]; exact nI_clamp (by have h7 : cb D ≤ 7 := hb7; have h12 : cc D ≤ 12 := hc12; omega)
              have E_e : xN u = e := by rw [e_e]; exact nI_clamp (by have h7 : cb D ≤ 7 := hb7; have h12 : cc D ≤ 12 := hc12; omega)
              have h := k1 I9 J9 kk h00 hj
              rw [E_a, E_k, E_q, E_e] at h; exact h))
        · exact asl_no 1 1 (by decide) rfl (by decide) hx (fun g d I J n w Q hI hn k1 => c_X11_lies (D := D) (cs := cs) (S := S) hI.2.1.1 hn (fun z => absurd h0 z) (fun _ z => absurd h1 z) (fun _ _ z => absurd h2 z) (fun _ _ _ _ => k1) (fun a k q e e_a l1 e_k l3 e_q l5 e_e l7 _ _ => absurd ⟨e, e_e, Nat.zero_le _, l7⟩ h3)) (fun g d I J n w Q hI k1 => c_X12_lies (D := D) (cs := cs) (S := S) hI.2.1.1 (fun z => absurd h0 z) (fun _ z => absurd h1 z) (fun _ _ z => absurd h2 z) (fun _ _ _ _ => k1) (fun a k q e e_a l1 e_k l3 e_q l5 e_e l7 _ _ _ _ _ => absurd ⟨e, e_e, Nat.zero_le _, l7⟩ h3))
      · exact asl_no 1 1 (by decide) rfl (by decide) hx (fun g d I J n w Q hI hn k1 => c_X11_lies (D := D) (cs := cs) (S := S) hI.2.1.1 hn (fun z => absurd h0 z) (fun _ z => absurd h1 z) (fun _ _ _ => k1) (fun _ _ y_ _ => absurd y_ h2) (fun a k q e e_a l1 e_k l3 e_q l5 e_e l7 _ _ => absurd ⟨q, e_q, Nat.zero_le _, l5⟩ h2)) (fun g d I J n w Q hI k1 => c_X12_lies (D := D) (cs := cs) (S := S) hI.2.1.1 (fun z => absurd h0 z) (fun _ z => absurd h1 z) (fun _ _ _ => k1) (fun _ _ y_ _ => absurd y_ h2) (fun a k q e e_a l1 e_k l3 e_q l5 e_e l7 _ _ _ _ _ => absurd ⟨q, e_q, Nat.zero_le _, l5⟩ h2))
    · exact asl_no 1 1 (by decide) rfl (by decide) hx (fun g d I J n w Q hI hn k1 => c_X11_lies (D := D) (cs := cs) (S := S) hI.2.1.1 hn (fun z => absurd h0 z) (fun _ _ => k1) (fun _ y_ _ => absurd y_ h1) (fun _ y_ _ _ => absurd y_ h1) (fun a k q e e_a l1 e_k l3 e_q l5 e_e l7 _ _ => absurd ⟨k, e_k, Nat.zero_le _, l3⟩ h1)) (fun g d I J n w Q hI k1 => c_X12_lies (D := D) (cs := cs) (S := S) hI.2.1.1 (fun z => absurd h0 z) (fun _ _ => k1) (fun _ y_ _ => absurd y_ h1) (fun _ y_ _ _ => absurd y_ h1) (fun a k q e e_a l1 e_k l3 e_q l5 e_e l7 _ _ _ _ _ => absurd ⟨k, e_k, Nat.zero_le _, l3⟩ h1))
  · exact asl_no 1 1 (by decide) rfl (by decide) hx (fun g d I J n w Q hI hn k1 => c_X11_lies (D := D) (cs := cs) (S := S) hI.2.1.1 hn (fun _ => k1) (fun y_ _ => absurd y_ h0) (fun y_ _ _ => absurd y_ h0) (fun y_ _ _ _ => absurd y_ h0) (fun a k q e e_a l1 e_k l3 e_q l5 e_e l7 _ _ => absurd ⟨a, e_a, Nat.zero_le _, l1⟩ h0)) (fun g d I J n w Q hI k1 => c_X12_lies (D := D) (cs := cs) (S := S) hI.2.1.1 (fun _ => k1) (fun y_ _ => absurd y_ h0) (fun y_ _ _ => absurd y_ h0) (fun y_ _ _ _ => absurd y_ h0) (fun a k q e e_a l1 e_k l3 e_q l5 e_e l7 _ _ _ _ _ => absurd ⟨a, e_a, Nat.zero_le _, l1⟩ h0))
def opD (g : aG) (d : Nat) (y : aM) (As : List Value) (x x' : gX) (v : Int32) : Prop := ∀ (I : Nat → Nat → Int32) (J : Nat → Nat → Int64) (n w : Nat) (Q : aO → aS → Prop), cI x I → (∀ I', cI x' I' → fcl I I' → Q (.inl (some (.int v))) (Z I' J n w)) → Cn g d y As (Z I J n w) Q
def opN (g : aG) (d : Nat) (y : aM) (As : List Value) (x x' : gX) (v : Int32) : Prop := ∀ (I : Nat → Nat → Int32) (J : Nat → Nat → Int64) (n w : Nat) (Q : aO → aS → Prop), mI x I → (∀ I', mI x' I' → fml I I' → Q (.inl (some (.int v))) (Z I' J n w)) → Cn g d y As (Z I J n w) Q
def prD (dc dm : Nat) (yc ym : aM) (Ac Am : List Value) (x : gX) : Prop := ∃ (x' : gX) (v : Int32), gOk x' ∧ (∀ g d, opD g (d + dc) yc Ac x x' v) ∧ ∀ g d, opN g (d + dm) ym Am x x' v
theorem mI_0 {x : gX} {I : Nat → Nat → Int32} {v : Int32} (h : mI x I) : mI x (up I 534 0 v) := mI_f h (fun a j z _ => up_n3 (by unfold mS at z; omega))
theorem fml_0 {I : Nat → Nat → Int32} {j : Nat} {v : Int32} : fml I (up I 534 j v) := fun a j z => up_a (by omega)
theorem fcl_r {I : Nat → Nat → Int32} : fcl I I := fun _ _ _ => rfl
theorem pr_fault (hx : gOk q0) : prD 0 0 mX11_fault mX12_fault [.ref 1] [.ref 534] q0 :=
  ⟨q0, q0.1.2.2, hx, fun g d I J n w Q hI k1 => c_X11_fault hI.1.2 (k1 I hI fcl_r), fun g d I J n w Q hI k1 => c_X12_fault hI.1.2.2.2 (k1 _ (mI_0 hI) fml_0)⟩
theorem pr_status {x : Int32} (hx : gOk q0) : prD 0 1 mX11_status mX12_status [.ref 1, .int x] [.ref 534, .int x] q0 :=
  ⟨q0, vSt q0.2.2.2.1 q0.2.2.2.2 x, hx, fun g d I J n w Q hI k1 => c_X11_status hI.2.2.2.1 hI.2.2.2.2 (k1 I hI fcl_r), fun g d I J n w Q hI k1 => c_X12_status hI.2.2.2.1 hI.2.2.2.2 (k1 _ (mI_0 hI) fml_0)⟩
theorem pr_count {x : Int32} (hx : gOk q0) : prD 0 0 mX11_count mX12_count [.ref 1, .int x] [.ref 534, .int x] q0 :=
  ⟨q0, vCt (nI q0.2.2.1.2.2.1) (nI q0.1.2.1) (nI q0.2.2.1.1) x, hx, fun g d I J n w Q hI k1 => c_X11_count hI.2.2.1.2.2.1 hI.1.1.2.1 hI.2.2.1.1 (k1 I hI fcl_r), fun g d I J n w Q hI k1 => c_X12_count hI.2.2.1.2.2.1 hI.1.1 hI.2.2.1.1 (k1 _ (mI_0 hI) fml_0)⟩
theorem pr_feed {x y z u v : Int32} (hx : gOk q0) : prD 1 0 mX11_feed mX12_feed [.ref 1, .int x, .int y, .int z, .int u, .int v] [.ref 534, .int x, .int y, .int z, .int u, .int v] q0 := by
  obtain ⟨⟨t0, T0, f0⟩, ⟨D, cs, S, B, kB, rr⟩, ⟨ww, PP, mm, wI, SI, PI⟩, ca, cz⟩ := q0
  by_cases hT : T0 + 20 ≤ 600
  · refine ⟨((fun j => if j < T0 then t0 j else fdb (ag x y z u v) (j - T0), T0 + 20, f0), (D, cs, S, B, kB, rr), (ww, PP, mm, wI, SI, PI), ca, cz), nI (T0 + 20), hx, fun g d I J n w Q hI k1 => c_X11_feed (T := T0) hI.1.1.2.1 hI.1.1.1 (fun z => absurd hT z) (fun _ I9 h1 h2 h3 => ?_), fun g d I J n w Q hI k1 => c_X12_feed (T := T0) hI.1.1 hI.1.2.1 (fun z => absurd hT z) (fun _ I9 h1 h2 h3 => ?_)⟩
    · refine k1 I9 ⟨⟨⟨hT, h2, fun i hi => ?_⟩, (h1 2 7 (by omega) (by omega)).trans hI.1.2⟩, sgC_f hI.2.1 (fun a j z => h1 a j (by unfold kG at z; omega) (by unfold kG at z; omega)), psC_f (psO_n hx.2.2) hI.2.2.1 (fun a j z => h1 a j (by unfold kP at z; omega) (by unfold kP at z; omega)), ctC_f hI.2.2.2 (fun a j z => h1 a j (by unfold kN at z; omega) (by unfold kN at z; omega))⟩ (fun a j z => h1 a j (by omega) (by omega))
      by_cases e : i < T0
      · show (if i < T0 then _ else _) < 256 ∧ I9 3 i = sb_b (if i < T0 then _ else _)
        rw [if_pos e]
        have q := hI.1.1.2.2 i e
        exact ⟨q.1, (h1 3 i (by omega) (by omega)).trans q.2⟩
      · show (if i < T0 then _ else _) < 256 ∧ I9 3 i = sb_b (if i < T0 then _ else _)
        rw [if_neg e]
        have hi2 : i < T0 + 20 := hi
        have q := h3 (i - T0) (by omega)
        rw [show T0 + (i - T0) = i by omega] at q
        exact ⟨fdb_lt _ _, q⟩
    · have hf : ∀ a j, 533 < a → a < 1000 → (a ≠ 534 ∨ (j ≠ 0 ∧ j ≠ 2)) → a ≠ 536 → I9 a j = I a j := fun a j z1 z2 z3 z4 => h1 a j z3 (by omega) z2
      refine k1 I9 ⟨⟨h2, hT, fun i hi => ?_, (hf 534 8 (by omega) (by omega) (by omega) (by omega)).trans hI.1.2.2.2⟩, sgM_f hI.2.1 (fun a j z => hf a j (by unfold mG at z; omega) (by unfold mG at z; omega) (by unfold mG at z; omega) (by unfold mG at z; omega)), psM_f hI.2.2.1 (fun a j z => hf a j (by unfold mP at z; omega) (by unfold mP at z; omega) (by unfold mP at z; omega) (by unfold mP at z; omega)), ctM_f hI.2.2.2 (fun a j z => hf a j (by unfold mN at z; omega) (by unfold mN at z; omega) (by unfold mN at z; omega) (by unfold mN at z; omega))⟩ (fun a j z => h1 a j (by omega) (by omega) (by omega))
      · by_cases e : i < T0
        · show (if i < T0 then _ else _) < 256 ∧ I9 536 i = nI (if i < T0 then _ else _)
          rw [if_pos e]
          have q := hI.1.2.2.1 i e
          exact ⟨q.1, (h1 536 i (by omega) (by omega) (by omega)).trans q.2⟩
        · show (if i < T0 then _ else _) < 256 ∧ I9 536 i = nI (if i < T0 then _ else _)
          rw [if_neg e]
          have hi2 : i < T0 + 20 := hi
          have q := h3 (i - T0) (by omega)
          rw [show T0 + (i - T0) = i by omega] at q
          exact ⟨fdb_lt _ _, q⟩
  · exact ⟨_, -1, hx, fun g d I J n w Q hI k1 => c_X11_feed (T := T0) hI.1.1.2.1 hI.1.1.1 (fun _ => k1 I hI fcl_r) (fun z => absurd z hT), fun g d I J n w Q hI k1 => c_X12_feed (T := T0) hI.1.1 hI.1.2.1 (fun _ => k1 _ (mI_0 hI) fml_0) (fun z => absurd z hT)⟩
end S
