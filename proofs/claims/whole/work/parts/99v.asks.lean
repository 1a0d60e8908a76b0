section S
variable {g : aG} {d : Nat} {I : Nat → Nat → Int32} {J : Nat → Nat → Int64} {n w : Nat} {Q : aO → aS → Prop}
variable {q0 : gX}
theorem pr_told {x : Int32} (hx : gOk q0) : prS 8 3 mX11_told mX12_told [.ref 1, .int x] [.ref 534, .int x] cdA q0 := by
  obtain ⟨⟨t0, T0, f0⟩, ⟨D, cs, S, B, kB, rr⟩, pp, cn⟩ := q0
  by_cases h0 : iv 0 (12) x
  · exact ask_ok (vTold D S kB rr (xN x)) hx
      (fun g d I J n w Q hI hn k1 => c_X11_told (D := D) (cs := cs) (S := S) hI.2.1.1 hn hI.2.1.2.1.1 hI.2.1.2.2 (fun z => absurd h0 z) (fun q e_q l1 I9 kk => by
        have hb7 := hI.2.1.1.2.1.1
        have hc12 := hI.2.1.1.2.1.2.1
        have p1 := p2_12 (show cb D ≤ 12 by have hb8 : cb D ≤ 7 := hb7; omega)
        have p2 := p2_12 (show cc D ≤ 12 from hc12)
        have E_q : xN x = q := by rw [e_q]; exact nI_clamp (by have h7 : cb D ≤ 7 := hb7; have h12 : cc D ≤ 12 := hc12; omega)
        have h := k1 I9 kk
        rw [E_q] at h; exact h))
      (fun g d I J n w Q hI k1 => c_X12_told (D := D) (cs := cs) (S := S) hI.2.1.1 hI.2.1.2.1 hI.2.1.2.2.2 (fun z => absurd h0 z) (fun q e_q l1 I9 kk h00 => by
        have hb7 := hI.2.1.1.2.1.1
        have hc12 := hI.2.1.1.2.1.2.1
        have p1 := p2_12 (show cb D ≤ 12 by have hb8 : cb D ≤ 7 := hb7; omega)
        have p2 := p2_12 (show cc D ≤ 12 from hc12)
        have E_q : xN x = q := by rw [e_q]; exact nI_clamp (by have h7 : cb D ≤ 7 := hb7; have h12 : cc D ≤ 12 := hc12; omega)
        have h := k1 I9 kk h00
        rw [E_q] at h; exact h))
  · exact ask_no 1 1 (by decide) rfl (by decide) hx (fun g d I J n w Q hI hn k1 => c_X11_told (D := D) (cs := cs) (S := S) hI.2.1.1 hn hI.2.1.2.1.1 hI.2.1.2.2 (fun _ => k1) (fun q e_q l1 _ _ => absurd ⟨q, e_q, Nat.zero_le _, l1⟩ h0)) (fun g d I J n w Q hI k1 => c_X12_told (D := D) (cs := cs) (S := S) hI.2.1.1 hI.2.1.2.1 hI.2.1.2.2.2 (fun _ => k1) (fun q e_q l1 _ _ _ => absurd ⟨q, e_q, Nat.zero_le _, l1⟩ h0))
theorem pr_back {x y : Int32} (hx : gOk q0) : prS 8 3 mX11_back mX12_back [.ref 1, .int x, .int y] [.ref 534, .int x, .int y] cdB q0 := by
  obtain ⟨⟨t0, T0, f0⟩, ⟨D, cs, S, B, kB, rr⟩, pp, cn⟩ := q0
  by_cases h0 : iv 0 (cb D) x
  · by_cases h1 : iv 0 (8) y
    · exact ask_ok (vBack D S (xN x) (xN y)) hx
        (fun g d I J n w Q hI hn k1 => c_X11_back (D := D) (cs := cs) (S := S) hI.2.1.1 hn (fun z => absurd h0 z) (fun _ z => absurd h1 z) (fun b q e_b l1 e_q l3 I9 kk => by
          have hb7 := hI.2.1.1.2.1.1
          have hc12 := hI.2.1.1.2.1.2.1
          have p1 := p2_12 (show cb D ≤ 12 by have hb8 : cb D ≤ 7 := hb7; omega)
          have p2 := p2_12 (show cc D ≤ 12 from hc12)
          have E_b : xN x = b := by rw [e_b]; exact nI_clamp (by have h7 : cb D ≤ 7 := hb7; have h12 : cc D ≤ 12 := hc12; omega)
          have E_q : xN y = q := by rw [e_q]; exact nI_clamp (by have h7 : cb D ≤ 7 := hb7; have h12 : cc D ≤ 12 := hc12; omega)
          have h := k1 I9 kk
          rw [E_b, E_q] at h; exact h))
        (fun g d I J n w Q hI k1 => c_X12_back (D := D) (cs := cs) (S := S) hI.2.1.1 (fun z => absurd h0 z) (fun _ z => absurd h1 z) (fun b q e_b l1 e_q l3 I9 kk h00 => by
          have hb7 := hI.2.1.1.2.1.1
          have hc12 := hI.2.1.1.2.1.2.1
          have p1 := p2_12 (show cb D ≤ 12 by have hb8 : cb D ≤ 7 := hb7; omega)
          have p2 := p2_12 (show cc D ≤ 12 from hc12)
          have E_b : xN x = b := by rw [e_b]; exact nI_clamp (by have h7 : cb D ≤ 7 := hb7; have h12 : cc D ≤ 12 := hc12; omega)
          have E_q : xN y = q := by rw [e_q]; exact nI_clamp (by have h7 : cb D ≤ 7 := hb7; have h12 : cc D ≤ 12 := hc12; omega)
          have h := k1 I9 kk h00
          rw [E_b, E_q] at h; exact h))
    · exact ask_no 1 2 (by decide) rfl (by decide) hx (fun g d I J n w Q hI hn k1 => c_X11_back (D := D) (cs := cs) (S := S) hI.2.1.1 hn (fun z => absurd h0 z) (fun _ _ => k1) (fun b q e_b l1 e_q l3 _ _ => absurd ⟨q, e_q, Nat.zero_le _, l3⟩ h1)) (fun g d I J n w Q hI k1 => c_X12_back (D := D) (cs := cs) (S := S) hI.2.1.1 (fun z => absurd h0 z) (fun _ _ => k1) (fun b q e_b l1 e_q l3 _ _ _ => absurd ⟨q, e_q, Nat.zero_le _, l3⟩ h1))
  · exact ask_no 0 1 (by decide) rfl (by decide) hx (fun g d I J n w Q hI hn k1 => c_X11_back (D := D) (cs := cs) (S := S) hI.2.1.1 hn (fun _ => k1) (fun y_ _ => absurd y_ h0) (fun b q e_b l1 e_q l3 _ _ => absurd ⟨b, e_b, Nat.zero_le _, l1⟩ h0)) (fun g d I J n w Q hI k1 => c_X12_back (D := D) (cs := cs) (S := S) hI.2.1.1 (fun _ => k1) (fun y_ _ => absurd y_ h0) (fun b q e_b l1 e_q l3 _ _ _ => absurd ⟨b, e_b, Nat.zero_le _, l1⟩ h0))
theorem pr_council {x y : Int32} (hx : gOk q0) : prS 8 3 mX11_council mX12_council [.ref 1, .int x, .int y] [.ref 534, .int x, .int y] cdB q0 := by
  obtain ⟨⟨t0, T0, f0⟩, ⟨D, cs, S, B, kB, rr⟩, pp, cn⟩ := q0
  by_cases h0 : iv 0 (cc D) x
  · by_cases h1 : iv 0 (5) y
    · exact ask_ok (vCoun D S (xN x) (xN y)) hx
        (fun g d I J n w Q hI hn k1 => c_X11_council (D := D) (cs := cs) (S := S) hI.2.1.1 hn (fun z => absurd h0 z) (fun _ z => absurd h1 z) (fun c q e_c l1 e_q l3 I9 kk => by
          have hb7 := hI.2.1.1.2.1.1
          have hc12 := hI.2.1.1.2.1.2.1
          have p1 := p2_12 (show cb D ≤ 12 by have hb8 : cb D ≤ 7 := hb7; omega)
          have p2 := p2_12 (show cc D ≤ 12 from hc12)
          have E_c : xN x = c := by rw [e_c]; exact nI_clamp (by have h7 : cb D ≤ 7 := hb7; have h12 : cc D ≤ 12 := hc12; omega)
          have E_q : xN y = q := by rw [e_q]; exact nI_clamp (by have h7 : cb D ≤ 7 := hb7; have h12 : cc D ≤ 12 := hc12; omega)
          have h := k1 I9 kk
          rw [E_c, E_q] at h; exact h))
        (fun g d I J n w Q hI k1 => c_X12_council (D := D) (cs := cs) (S := S) hI.2.1.1 (fun z => absurd h0 z) (fun _ z => absurd h1 z) (fun c q e_c l1 e_q l3 I9 kk h00 => by
          have hb7 := hI.2.1.1.2.1.1
          have hc12 := hI.2.1.1.2.1.2.1
          have p1 := p2_12 (show cb D ≤ 12 by have hb8 : cb D ≤ 7 := hb7; omega)
          have p2 := p2_12 (show cc D ≤ 12 from hc12)
          have E_c : xN x = c := by rw [e_c]; exact nI_clamp (by have h7 : cb D ≤ 7 := hb7; have h12 : cc D ≤ 12 := hc12; omega)
          have E_q : xN y = q := by rw [e_q]; exact nI_clamp (by have h7 : cb D ≤ 7 := hb7; have h12 : cc D ≤ 12 := hc12; omega)
          have h := k1 I9 kk h00
          rw [E_c, E_q] at h; exact h))
    · exact ask_no 1 2 (by decide) rfl (by decide) hx (fun g d I J n w Q hI hn k1 => c_X11_council (D := D) (cs := cs) (S := S) hI.2.1.1 hn (fun z => absurd h0 z) (fun _ _ => k1) (fun c q e_c l1 e_q l3 _ _ => absurd ⟨q, e_q, Nat.zero_le _, l3⟩ h1)) (fun g d I J n w Q hI k1 => c_X12_council (D := D) (cs := cs) (S := S) hI.2.1.1 (fun z => absurd h0 z) (fun _ _ => k1) (fun c q e_c l1 e_q l3 _ _ _ => absurd ⟨q, e_q, Nat.zero_le _, l3⟩ h1))
  · exact ask_no 0 1 (by decide) rfl (by decide) hx (fun g d I J n w Q hI hn k1 => c_X11_council (D := D) (cs := cs) (S := S) hI.2.1.1 hn (fun _ => k1) (fun y_ _ => absurd y_ h0) (fun c q e_c l1 e_q l3 _ _ => absurd ⟨c, e_c, Nat.zero_le _, l1⟩ h0)) (fun g d I J n w Q hI k1 => c_X12_council (D := D) (cs := cs) (S := S) hI.2.1.1 (fun _ => k1) (fun y_ _ => absurd y_ h0) (fun c q e_c l1 e_q l3 _ _ _ => absurd ⟨c, e_c, Nat.zero_le _, l1⟩ h0))
theorem pr_hearing {x y : Int32} (hx : gOk q0) : prS 8 3 mX11_hearing mX12_hearing [.ref 1, .int x, .int y] [.ref 534, .int x, .int y] cdE q0 := by
  obtain ⟨⟨t0, T0, f0⟩, ⟨D, cs, S, B, kB, rr⟩, pp, cn⟩ := q0
  by_cases h0 : iv 0 (cb D) x
  · by_cases h1 : iv 0 (cc D) y
    · exact ask_ok (ob (sK S (xN x) (xN y))) hx
        (fun g d I J n w Q hI hn k1 => c_X11_hearing (D := D) (cs := cs) (S := S) hI.2.1.1 hn (fun z => absurd h0 z) (fun _ z => absurd h1 z) (fun b c e_b l1 e_c l3 I9 kk => by
          have hb7 := hI.2.1.1.2.1.1
          have hc12 := hI.2.1.1.2.1.2.1
          have p1 := p2_12 (show cb D ≤ 12 by have hb8 : cb D ≤ 7 := hb7; omega)
          have p2 := p2_12 (show cc D ≤ 12 from hc12)
          have E_b : xN x = b := by rw [e_b]; exact nI_clamp (by have h7 : cb D ≤ 7 := hb7; have h12 : cc D ≤ 12 := hc12; omega)
          have E_c : xN y = c := by rw [e_c]; exact nI_clamp (by have h7 : cb D ≤ 7 := hb7; have h12 : cc D ≤ 12 := hc12; omega)
          have h := k1 I9 kk
          rw [E_b, E_c] at h; exact h))
        (fun g d I J n w Q hI k1 => c_X12_hearing (D := D) (cs := cs) (S := S) hI.2.1.1 (fun z => absurd h0 z) (fun _ z => absurd h1 z) (fun b c e_b l1 e_c l3 I9 kk h00 => by
          have hb7 := hI.2.1.1.2.1.1
          have hc12 := hI.2.1.1.2.1.2.1
          have p1 := p2_12 (show cb D ≤ 12 by have hb8 : cb D ≤ 7 := hb7; omega)
          have p2 := p2_12 (show cc D ≤ 12 from hc12)
          have E_b : xN x = b := by rw [e_b]; exact nI_clamp (by have h7 : cb D ≤ 7 := hb7; have h12 : cc D ≤ 12 := hc12; omega)
          have E_c : xN y = c := by rw [e_c]; exact nI_clamp (by have h7 : cb D ≤ 7 := hb7; have h12 : cc D ≤ 12 := hc12; omega)
          have h := k1 I9 kk h00
          rw [E_b, E_c] at h; exact h))
    · exact ask_no 0 1 (by decide) rfl (by decide) hx (fun g d I J n w Q hI hn k1 => c_X11_hearing (D := D) (cs := cs) (S := S) hI.2.1.1 hn (fun z => absurd h0 z) (fun _ _ => k1) (fun b c e_b l1 e_c l3 _ _ => absurd ⟨c, e_c, Nat.zero_le _, l3⟩ h1)) (fun g d I J n w Q hI k1 => c_X12_hearing (D := D) (cs := cs) (S := S) hI.2.1.1 (fun z => absurd h0 z) (fun _ _ => k1) (fun b c e_b l1 e_c l3 _ _ _ => absurd ⟨c, e_c, Nat.zero_le _, l3⟩ h1))
  · exact ask_no 0 1 (by decide) rfl (by decide) hx (fun g d I J n w Q hI hn k1 => c_X11_hearing (D := D) (cs := cs) (S := S) hI.2.1.1 hn (fun _ => k1) (fun y_ _ => absurd y_ h0) (fun b c e_b l1 e_c l3 _ _ => absurd ⟨b, e_b, Nat.zero_le _, l1⟩ h0)) (fun g d I J n w Q hI k1 => c_X12_hearing (D := D) (cs := cs) (S := S) hI.2.1.1 (fun _ => k1) (fun y_ _ => absurd y_ h0) (fun b c e_b l1 e_c l3 _ _ _ => absurd ⟨b, e_b, Nat.zero_le _, l1⟩ h0))
theorem pr_load {x y : Int32} (hx : gOk q0) : prS 8 7 mX11_load mX12_load [.ref 1, .int x, .int y] [.ref 534, .int x, .int y] cdE q0 := by
  obtain ⟨⟨t0, T0, f0⟩, ⟨D, cs, S, B, kB, rr⟩, pp, cn⟩ := q0
  by_cases h0 : iv 0 (cb D) x
  · by_cases h1 : iv 0 (cc D) y
    · exact ask_ok (nI (lod D cs S (xN x) (xN y) 0)) hx
        (fun g d I J n w Q hI hn k1 => c_X11_load (D := D) (cs := cs) (S := S) hI.2.1.1 hn (fun z => absurd h0 z) (fun _ z => absurd h1 z) (fun b c e_b l1 e_c l3 I9 kk => by
          have hb7 := hI.2.1.1.2.1.1
          have hc12 := hI.2.1.1.2.1.2.1
          have p1 := p2_12 (show cb D ≤ 12 by have hb8 : cb D ≤ 7 := hb7; omega)
          have p2 := p2_12 (show cc D ≤ 12 from hc12)
          have E_b : xN x = b := by rw [e_b]; exact nI_clamp (by have h7 : cb D ≤ 7 := hb7; have h12 : cc D ≤ 12 := hc12; omega)
          have E_c : xN y = c := by rw [e_c]; exact nI_clamp (by have h7 : cb D ≤ 7 := hb7; have h12 : cc D ≤ 12 := hc12; omega)
          have h := k1 I9 kk
          rw [E_b, E_c] at h; exact h))
        (fun g d I J n w Q hI k1 => c_X12_load (D := D) (cs := cs) (S := S) hI.2.1.1 (fun z => absurd h0 z) (fun _ z => absurd h1 z) (fun b c e_b l1 e_c l3 I9 kk h00 => by
          have hb7 := hI.2.1.1.2.1.1
          have hc12 := hI.2.1.1.2.1.2.1
          have p1 := p2_12 (show cb D ≤ 12 by have hb8 : cb D ≤ 7 := hb7; omega)
          have p2 := p2_12 (show cc D ≤ 12 from hc12)
          have E_b : xN x = b := by rw [e_b]; exact nI_clamp (by have h7 : cb D ≤ 7 := hb7; have h12 : cc D ≤ 12 := hc12; omega)
          have E_c : xN y = c := by rw [e_c]; exact nI_clamp (by have h7 : cb D ≤ 7 := hb7; have h12 : cc D ≤ 12 := hc12; omega)
          have h := k1 I9 kk h00
          rw [E_b, E_c] at h; exact h))
    · exact ask_no 0 1 (by decide) rfl (by decide) hx (fun g d I J n w Q hI hn k1 => c_X11_load (D := D) (cs := cs) (S := S) hI.2.1.1 hn (fun z => absurd h0 z) (fun _ _ => k1) (fun b c e_b l1 e_c l3 _ _ => absurd ⟨c, e_c, Nat.zero_le _, l3⟩ h1)) (fun g d I J n w Q hI k1 => c_X12_load (D := D) (cs := cs) (S := S) hI.2.1.1 (fun z => absurd h0 z) (fun _ _ => k1) (fun b c e_b l1 e_c l3 _ _ _ => absurd ⟨c, e_c, Nat.zero_le _, l3⟩ h1))
  · exact ask_no 0 1 (by decide) rfl (by decide) hx (fun g d I J n w Q hI hn k1 => c_X11_load (D := D) (cs := cs) (S := S) hI.2.1.1 hn (fun _ => k1) (fun y_ _ => absurd y_ h0) (fun b c e_b l1 e_c l3 _ _ => absurd ⟨b, e_b, Nat.zero_le _, l1⟩ h0)) (fun g d I J n w Q hI k1 => c_X12_load (D := D) (cs := cs) (S := S) hI.2.1.1 (fun _ => k1) (fun y_ _ => absurd y_ h0) (fun b c e_b l1 e_c l3 _ _ _ => absurd ⟨b, e_b, Nat.zero_le _, l1⟩ h0))
theorem pr_burden {x y : Int32} (hx : gOk q0) : prS 8 7 mX11_burden mX12_burden [.ref 1, .int x, .int y] [.ref 534, .int x, .int y] cdE q0 := by
  obtain ⟨⟨t0, T0, f0⟩, ⟨D, cs, S, B, kB, rr⟩, pp, cn⟩ := q0
  by_cases h0 : iv 0 (cb D) x
  · by_cases h1 : iv 0 (cc D) y
    · exact ask_ok (nI (bur D cs S (xN x) (xN y) 0)) hx
        (fun g d I J n w Q hI hn k1 => c_X11_burden (D := D) (cs := cs) (S := S) hI.2.1.1 hn (fun z => absurd h0 z) (fun _ z => absurd h1 z) (fun b c e_b l1 e_c l3 I9 kk => by
          have hb7 := hI.2.1.1.2.1.1
          have hc12 := hI.2.1.1.2.1.2.1
          have p1 := p2_12 (show cb D ≤ 12 by have hb8 : cb D ≤ 7 := hb7; omega)
          have p2 := p2_12 (show cc D ≤ 12 from hc12)
          have E_b : xN x = b := by rw [e_b]; exact nI_clamp (by have h7 : cb D ≤ 7 := hb7; have h12 : cc D ≤ 12 := hc12; omega)
          have E_c : xN y = c := by rw [e_c]; exact nI_clamp (by have h7 : cb D ≤ 7 := hb7; have h12 : cc D ≤ 12 := hc12; omega)
          have h := k1 I9 kk
          rw [E_b, E_c] at h; exact h))
        (fun g d I J n w Q hI k1 => c_X12_burden (D := D) (cs := cs) (S := S) hI.2.1.1 (fun z => absurd h0 z) (fun _ z => absurd h1 z) (fun b c e_b l1 e_c l3 I9 kk h00 => by
          have hb7 := hI.2.1.1.2.1.1
          have hc12 := hI.2.1.1.2.1.2.1
          have p1 := p2_12 (show cb D ≤ 12 by have hb8 : cb D ≤ 7 := hb7; omega)
          have p2 := p2_12 (show cc D ≤ 12 from hc12)
          have E_b : xN x = b := by rw [e_b]; exact nI_clamp (by have h7 : cb D ≤ 7 := hb7; have h12 : cc D ≤ 12 := hc12; omega)
          have E_c : xN y = c := by rw [e_c]; exact nI_clamp (by have h7 : cb D ≤ 7 := hb7; have h12 : cc D ≤ 12 := hc12; omega)
          have h := k1 I9 kk h00
          rw [E_b, E_c] at h; exact h))
    · exact ask_no 0 1 (by decide) rfl (by decide) hx (fun g d I J n w Q hI hn k1 => c_X11_burden (D := D) (cs := cs) (S := S) hI.2.1.1 hn (fun z => absurd h0 z) (fun _ _ => k1) (fun b c e_b l1 e_c l3 _ _ => absurd ⟨c, e_c, Nat.zero_le _, l3⟩ h1)) (fun g d I J n w Q hI k1 => c_X12_burden (D := D) (cs := cs) (S := S) hI.2.1.1 (fun z => absurd h0 z) (fun _ _ => k1) (fun b c e_b l1 e_c l3 _ _ _ => absurd ⟨c, e_c, Nat.zero_le _, l3⟩ h1))
  · exact ask_no 0 1 (by decide) rfl (by decide) hx (fun g d I J n w Q hI hn k1 => c_X11_burden (D := D) (cs := cs) (S := S) hI.2.1.1 hn (fun _ => k1) (fun y_ _ => absurd y_ h0) (fun b c e_b l1 e_c l3 _ _ => absurd ⟨b, e_b, Nat.zero_le _, l1⟩ h0)) (fun g d I J n w Q hI k1 => c_X12_burden (D := D) (cs := cs) (S := S) hI.2.1.1 (fun _ => k1) (fun y_ _ => absurd y_ h0) (fun b c e_b l1 e_c l3 _ _ _ => absurd ⟨b, e_b, Nat.zero_le _, l1⟩ h0))
theorem pr_would {x y z u v5 v6 v7 v8 v9 : Int32} (hx : gOk q0) : prS 8 4 mX11_would mX12_would [.ref 1, .int x, .int y, .int z, .int u, .int v5, .int v6, .int v7, .int v8, .int v9] [.ref 534, .int x, .int y, .int z, .int u, .int v5, .int v6, .int v7, .int v8, .int v9] cdA q0 := by
  obtain ⟨⟨t0, T0, f0⟩, ⟨D, cs, S, B, kB, rr⟩, pp, cn⟩ := q0
  by_cases h0 : iv 1 (41) x
  · by_cases h1 : iv 0 (41) y
    · by_cases h2 : iv 0 (10) z
      · by_cases h3 : iv 1 (10) u
        · by_cases h4 : iv 0 (10) v5
          · by_cases h5 : iv 0 (1000) v6
            · by_cases h6 : iv 0 (13) v7
              · by_cases h7 : iv 0 (401) v8
                · by_cases h8 : iv 0 (7) v9
                  · exact ask_ok (nI (ldv (fv (nI (xN x)) (nI (xN y)) (nI (xN z)) (nI (xN u)) (nI (xN v5)) (nI (xN v6)) (nI (xN v7)) (nI (xN v8)) (nI (xN v9))) cs)) hx
                      (fun g d I J n w Q hI hn k1 => c_X11_would (D := D) (cs := cs) (S := S) hI.2.1.1 hn (fun z => absurd h0 z) (fun _ z => absurd h1 z) (fun _ _ z => absurd h2 z) (fun _ _ _ z => absurd h3 z) (fun _ _ _ _ z => absurd h4 z) (fun _ _ _ _ _ z => absurd h5 z) (fun _ _ _ _ _ _ z => absurd h6 z) (fun _ _ _ _ _ _ _ z => absurd h7 z) (fun _ _ _ _ _ _ _ _ z => absurd h8 z) (fun a0 a1 a2 a3 a4 a5 a6 a7 a8 e_a0 l1 l2 e_a1 l4 e_a2 l6 e_a3 l8 l9 e_a4 l11 e_a5 l13 e_a6 l15 e_a7 l17 e_a8 l19 I9 kk => by
                        have hb7 := hI.2.1.1.2.1.1
                        have hc12 := hI.2.1.1.2.1.2.1
                        have p1 := p2_12 (show cb D ≤ 12 by have hb8 : cb D ≤ 7 := hb7; omega)
                        have p2 := p2_12 (show cc D ≤ 12 from hc12)
                        have E_a0 : xN x = a0 := by rw [e_a0]; exact nI_clamp (by have h7 : cb D ≤ 7 := hb7; have h12 : cc D ≤ 12 := hc12; omega)
                        have E_a1 : xN y = a1 := by rw [e_a1]; exact nI_clamp (by have h7 : cb D ≤ 7 := hb7; have h12 : cc D ≤ 12 := hc12; omega)
                        have E_a2 : xN z = a2 := by rw [e_a2]; exact nI_clamp (by have h7 : cb D ≤ 7 := hb7; have h12 : cc D ≤ 12 := hc12; omega)
                        have E_a3 : xN u = a3 := by rw [e_a3]; exact nI_clamp (by have h7 : cb D ≤ 7 := hb7; have h12 : cc D ≤ 12 := hc12; omega)
                        have E_a4 : xN v5 = a4 := by rw [e_a4]; exact nI_clamp (by have h7 : cb D ≤ 7 := hb7; have h12 : cc D ≤ 12 := hc12; omega)
                        have E_a5 : xN v6 = a5 := by rw [e_a5]; exact nI_clamp (by have h7 : cb D ≤ 7 := hb7; have h12 : cc D ≤ 12 := hc12; omega)
                        have E_a6 : xN v7 = a6 := by rw [e_a6]; exact nI_clamp (by have h7 : cb D ≤ 7 := hb7; have h12 : cc D ≤ 12 := hc12; omega)
                        have E_a7 : xN v8 = a7 := by rw [e_a7]; exact nI_clamp (by have h7 : cb D ≤ 7 := hb7; have h12 : cc D ≤ 12 := hc12; omega)
                        have E_a8 : xN v9 = a8 := by rw [e_a8]; exact nI_clamp (by have h7 : cb D ≤ 7 := hb7; have h12 : cc D ≤ 12 := hc12; omega)
                        have h := k1 I9 kk
                        rw [E_a0, E_a1, E_a2, E_a3, E_a4, E_a5, E_a6, E_a7, E_a8] at h; exact h))
                      (fun g d I J n w Q hI k1 => c_X12_would (D := D) (cs := cs) (S := S) hI.2.1.1 (fun z => absurd h0 z) (fun _ z => absurd h1 z) (fun _ _ z => absurd h2 z) (fun _ _ _ z => absurd h3 z) (fun _ _ _ _ z => absurd h4 z) (fun _ _ _ _ _ z => absurd h5 z) (fun _ _ _ _ _ _ z => absurd h6 z) (fun _ _ _ _ _ _ _ z => absurd h7 z) (fun _ _ _ _ _ _ _ _ z => absurd h8 z) (fun a0 a1 a2 a3 a4 a5 a6 a7 a8 e_a0 l1 l2 e_a1 l4 e_a2 l6 e_a3 l8 l9 e_a4 l11 e_a5 l13 e_a6 l15 e_a7 l17 e_a8 l19 I9 kk h00 => by
                        have hb7 := hI.2.1.1.2.1.1
                        have hc12 := hI.2.1.1.2.1.2.1
                        have p1 := p2_12 (show cb D ≤ 12 by have hb8 : cb D ≤ 7 := hb7; omega)
                        have p2 := p2_12 (show cc D ≤ 12 from hc12)
                        have E_a0 : xN x = a0 := by rw [e_a0]; exact nI_clamp (by have h7 : cb D ≤ 7 := hb7; have h12 : cc D ≤ 12 := hc12; omega)
                        have E_a1 : xN y = a1 := by rw [e_a1]; exact nI_clamp (by have h7 : cb D ≤ 7 := hb7; have h12 : cc D ≤ 12 := hc12; omega)
                        have E_a2 : xN z = a2 := by rw [e_a2]; exact nI_clamp (by have h7 : cb D ≤ 7 := hb7; have h12 : cc D ≤ 12 := hc12; omega)
                        have E_a3 : xN u = a3 := by rw [e_a3]; exact nI_clamp (by have h7 : cb D ≤ 7 := hb7; have h12 : cc D ≤ 12 := hc12; omega)
                        have E_a4 : xN v5 = a4 := by rw [e_a4]; exact nI_clamp (by have h7 : cb D ≤ 7 := hb7; have h12 : cc D ≤ 12 := hc12; omega)
                        have E_a5 : xN v6 = a5 := by rw [e_a5]; exact nI_clamp (by have h7 : cb D ≤ 7 := hb7; have h12 : cc D ≤ 12 := hc12; omega)
                        have E_a6 : xN v7 = a6 := by rw [e_a6]; exact nI_clamp (by have h7 : cb D ≤ 7 := hb7; have h12 : cc D ≤ 12 := hc12; omega)
                        have E_a7 : xN v8 = a7 := by rw [e_a7]; exact nI_clamp (by have h7 : cb D ≤ 7 := hb7; have h12 : cc D ≤ 12 := hc12; omega)
                        have E_a8 : xN v9 = a8 := by rw [e_a8]; exact nI_clamp (by have h7 : cb D ≤ 7 := hb7; have h12 : cc D ≤ 12 := hc12; omega)
                        have h := k1 I9 kk h00
                        rw [E_a0, E_a1, E_a2, E_a3, E_a4, E_a5, E_a6, E_a7, E_a8] at h; exact h))
                  · exact ask_no 1 1 (by decide) rfl (by decide) hx (fun g d I J n w Q hI hn k1 => c_X11_would (D := D) (cs := cs) (S := S) hI.2.1.1 hn (fun z => absurd h0 z) (fun _ z => absurd h1 z) (fun _ _ z => absurd h2 z) (fun _ _ _ z => absurd h3 z) (fun _ _ _ _ z => absurd h4 z) (fun _ _ _ _ _ z => absurd h5 z) (fun _ _ _ _ _ _ z => absurd h6 z) (fun _ _ _ _ _ _ _ z => absurd h7 z) (fun _ _ _ _ _ _ _ _ _ => k1) (fun a0 a1 a2 a3 a4 a5 a6 a7 a8 e_a0 l1 l2 e_a1 l4 e_a2 l6 e_a3 l8 l9 e_a4 l11 e_a5 l13 e_a6 l15 e_a7 l17 e_a8 l19 _ _ => absurd ⟨a8, e_a8, Nat.zero_le _, l19⟩ h8)) (fun g d I J n w Q hI k1 => c_X12_would (D := D) (cs := cs) (S := S) hI.2.1.1 (fun z => absurd h0 z) (fun _ z => absurd h1 z) (fun _ _ z => absurd h2 z) (fun _ _ _ z => absurd h3 z) (fun _ _ _ _ z => absurd h4 z) (fun _ _ _ _ _ z => absurd h5 z) (fun _ _ _ _ _ _ z => absurd h6 z) (fun _ _ _ _ _ _ _ z => absurd h7 z) (fun _ _ _ _ _ _ _ _ _ => k1) (fun a0 a1 a2 a3 a4 a5 a6 a7 a8 e_a0 l1 l2 e_a1 l4 e_a2 l6 e_a3 l8 l9 e_a4 l11 e_a5 l13 e_a6 l15 e_a7 l17 e_a8 l19 _ _ _ => absurd ⟨a8, e_a8, Nat.zero_le _, l19⟩ h8))
                · exact ask_no 1 1 (by decide) rfl (by decide) hx (fun g d I J n w Q hI hn k1 => c_X11_would (D := D) (cs := cs) (S := S) hI.2.1.1 hn (fun z => absurd h0 z) (fun _ z => absurd h1 z) (fun _ _ z => absurd h2 z) (fun _ _ _ z => absurd h3 z) (fun _ _ _ _ z => absurd h4 z) (fun _ _ _ _ _ z => absurd h5 z) (fun _ _ _ _ _ _ z => absurd h6 z) (fun _ _ _ _ _ _ _ _ => k1) (fun _ _ _ _ _ _ _ y_ _ => absurd y_ h7) (fun a0 a1 a2 a3 a4 a5 a6 a7 a8 e_a0 l1 l2 e_a1 l4 e_a2 l6 e_a3 l8 l9 e_a4 l11 e_a5 l13 e_a6 l15 e_a7 l17 e_a8 l19 _ _ => absurd ⟨a7, e_a7, Nat.zero_le _, l17⟩ h7)) (fun g d I J n w Q hI k1 => c_X12_would (D := D) (cs := cs) (S := S) hI.2.1.1 (fun z => absurd h0 z) (fun _ z => absurd h1 z) (fun _ _ z => absurd h2 z) (fun _ _ _ z => absurd h3 z) (fun _ _ _ _ z => absurd h4 z) (fun _ _ _ _ _ z => absurd h5 z) (fun _ _ _ _ _ _ z => absurd h6 z) (fun _ _ _ _ _ _ _ _ => k1) (fun _ _ _ _ _ _ _ y_ _ => absurd y_ h7) (fun a0 a1 a2 a3 a4 a5 a6 a7 a8 e_a0 l1 l2 e_a1 l4 e_a2 l6 e_a3 l8 l9 e_a4 l11 e_a5 l13 e_a6 l15 e_a7 l17 e_a8 l19 _ _ _ => absurd ⟨a7, e_a7, Nat.zero_le _, l17⟩ h7))
              · exact ask_no 1 1 (by decide) rfl (by decide) hx (fun g d I J n w Q hI hn k1 => c_X11_would (D := D) (cs := cs) (S := S) hI.2.1.1 hn (fun z => absurd h0 z) (fun _ z => absurd h1 z) (fun _ _ z => absurd h2 z) (fun _ _ _ z => absurd h3 z) (fun _ _ _ _ z => absurd h4 z) (fun _ _ _ _ _ z => absurd h5 z) (fun _ _ _ _ _ _ _ => k1) (fun _ _ _ _ _ _ y_ _ => absurd y_ h6) (fun _ _ _ _ _ _ y_ _ _ => absurd y_ h6) (fun a0 a1 a2 a3 a4 a5 a6 a7 a8 e_a0 l1 l2 e_a1 l4 e_a2 l6 e_a3 l8 l9 e_a4 l11 e_a5 l13 e_a6 l15 e_a7 l17 e_a8 l19 _ _ => absurd ⟨a6, e_a6, Nat.zero_le _, l15⟩ h6)) (fun g d I J n w Q hI k1 => c_X12_would (D := D) (cs := cs) (S := S) hI.2.1.1 (fun z => absurd h0 z) (fun _ z => absurd h1 z) (fun _ _ z => absurd h2 z) (fun _ _ _ z => absurd h3 z) (fun _ _ _ _ z => absurd h4 z) (fun _ _ _ _ _ z => absurd h5 z) (fun _ _ _ _ _ _ _ => k1) (fun _ _ _ _ _ _ y_ _ => absurd y_ h6) (fun _ _ _ _ _ _ y_ _ _ => absurd y_ h6) (fun a0 a1 a2 a3 a4 a5 a6 a7 a8 e_a0 l1 l2 e_a1 l4 e_a2 l6 e_a3 l8 l9 e_a4 l11 e_a5 l13 e_a6 l15 e_a7 l17 e_a8 l19 _ _ _ => absurd ⟨a6, e_a6, Nat.zero_le _, l15⟩ h6))
            · exact ask_no 1 1 (by decide) rfl (by decide) hx (fun g d I J n w Q hI hn k1 => c_X11_would (D := D) (cs := cs) (S := S) hI.2.1.1 hn (fun z => absurd h0 z) (fun _ z => absurd h1 z) (fun _ _ z => absurd h2 z) (fun _ _ _ z => absurd h3 z) (fun _ _ _ _ z => absurd h4 z) (fun _ _ _ _ _ _ => k1) (fun _ _ _ _ _ y_ _ => absurd y_ h5) (fun _ _ _ _ _ y_ _ _ => absurd y_ h5) (fun _ _ _ _ _ y_ _ _ _ => absurd y_ h5) (fun a0 a1 a2 a3 a4 a5 a6 a7 a8 e_a0 l1 l2 e_a1 l4 e_a2 l6 e_a3 l8 l9 e_a4 l11 e_a5 l13 e_a6 l15 e_a7 l17 e_a8 l19 _ _ => absurd ⟨a5, e_a5, Nat.zero_le _, l13⟩ h5)) (fun g d I J n w Q hI k1 => c_X12_would (D := D) (cs := cs) (S := S) hI.2.1.1 (fun z => absurd h0 z) (fun _ z => absurd h1 z) (fun _ _ z => absurd h2 z) (fun _ _ _ z => absurd h3 z) (fun _ _ _ _ z => absurd h4 z) (fun _ _ _ _ _ _ => k1) (fun _ _ _ _ _ y_ _ => absurd y_ h5) (fun _ _ _ _ _ y_ _ _ => absurd y_ h5) (fun _ _ _ _ _ y_ _ _ _ => absurd y_ h5) (fun a0 a1 a2 a3 a4 a5 a6 a7 a8 e_a0 l1 l2 e_a1 l4 e_a2 l6 e_a3 l8 l9 e_a4 l11 e_a5 l13 e_a6 l15 e_a7 l17 e_a8 l19 _ _ _ => absurd ⟨a5, e_a5, Nat.zero_le _, l13⟩ h5))
          · exact ask_no 1 1 (by decide) rfl (by decide) hx (fun g d I J n w Q hI hn k1 => c_X11_would (D := D) (cs := cs) (S := S) hI.2.1.1 hn (fun z => absurd h0 z) (fun _ z => absurd h1 z) (fun _ _ z => absurd h2 z) (fun _ _ _ z => absurd h3 z) (fun _ _ _ _ _ => k1) (fun _ _ _ _ y_ _ => absurd y_ h4) (fun _ _ _ _ y_ _ _ => absurd y_ h4) (fun _ _ _ _ y_ _ _ _ => absurd y_ h4) (fun _ _ _ _ y_ _ _ _ _ => absurd y_ h4) (fun a0 a1 a2 a3 a4 a5 a6 a7 a8 e_a0 l1 l2 e_a1 l4 e_a2 l6 e_a3 l8 l9 e_a4 l11 e_a5 l13 e_a6 l15 e_a7 l17 e_a8 l19 _ _ => absurd ⟨a4, e_a4, Nat.zero_le _, l11⟩ h4)) (fun g d I J n w Q hI k1 => c_X12_would (D := D) (cs := cs) (S := S) hI.2.1.1 (fun z => absurd h0 z) (fun _ z => absurd h1 z) (fun _ _ z => absurd h2 z) (fun _ _ _ z => absurd h3 z) (fun _ _ _ _ _ => k1) (fun _ _ _ _ y_ _ => absurd y_ h4) (fun _ _ _ _ y_ _ _ => absurd y_ h4) (fun _ _ _ _ y_ _ _ _ => absurd y_ h4) (fun _ _ _ _ y_ _ _ _ _ => absurd y_ h4) (fun a0 a1 a2 a3 a4 a5 a6 a7 a8 e_a0 l1 l2 e_a1 l4 e_a2 l6 e_a3 l8 l9 e_a4 l11 e_a5 l13 e_a6 l15 e_a7 l17 e_a8 l19 _ _ _ => absurd ⟨a4, e_a4, Nat.zero_le _, l11⟩ h4))
        · exact ask_no 1 1 (by decide) rfl (by decide) hx (fun g d I J n w Q hI hn k1 => c_X11_would (D := D) (cs := cs) (S := S) hI.2.1.1 hn (fun z => absurd h0 z) (fun _ z => absurd h1 z) (fun _ _ z => absurd h2 z) (fun _ _ _ _ => k1) (fun _ _ _ y_ _ => absurd y_ h3) (fun _ _ _ y_ _ _ => absurd y_ h3) (fun _ _ _ y_ _ _ _ => absurd y_ h3) (fun _ _ _ y_ _ _ _ _ => absurd y_ h3) (fun _ _ _ y_ _ _ _ _ _ => absurd y_ h3) (fun a0 a1 a2 a3 a4 a5 a6 a7 a8 e_a0 l1 l2 e_a1 l4 e_a2 l6 e_a3 l8 l9 e_a4 l11 e_a5 l13 e_a6 l15 e_a7 l17 e_a8 l19 _ _ => absurd ⟨a3, e_a3, l8, l9⟩ h3)) (fun g d I J n w Q hI k1 => c_X12_would (D := D) (cs := cs) (S := S) hI.2.1.1 (fun z => absurd h0 z) (fun _ z => absurd h1 z) (fun _ _ z => absurd h2 z) (fun _ _ _ _ => k1) (fun _ _ _ y_ _ => absurd y_ h3) (fun _ _ _ y_ _ _ => absurd y_ h3) (fun _ _ _ y_ _ _ _ => absurd y_ h3) (fun _ _ _ y_ _ _ _ _ => absurd y_ h3) (fun _ _ _ y_ _ _ _ _ _ => absurd y_ h3) (fun a0 a1 a2 a3 a4 a5 a6 a7 a8 e_a0 l1 l2 e_a1 l4 e_a2 l6 e_a3 l8 l9 e_a4 l11 e_a5 l13 e_a6 l15 e_a7 l17 e_a8 l19 _ _ _ => absurd ⟨a3, e_a3, l8, l9⟩ h3))
      · exact ask_no 1 1 (by decide) rfl (by decide) hx (fun g d I J n w Q hI hn k1 => c_X11_would (D := D) (cs := cs) (S := S) hI.2.1.1 hn (fun z => absurd h0 z) (fun _ z => absurd h1 z) (fun _ _ _ => k1) (fun _ _ y_ _ => absurd y_ h2) (fun _ _ y_ _ _ => absurd y_ h2) (fun _ _ y_ _ _ _ => absurd y_ h2) (fun _ _ y_ _ _ _ _ => absurd y_ h2) (fun _ _ y_ _ _ _ _ _ => absurd y_ h2) (fun _ _ y_ _ _ _ _ _ _ => absurd y_ h2) (fun a0 a1 a2 a3 a4 a5 a6 a7 a8 e_a0 l1 l2 e_a1 l4 e_a2 l6 e_a3 l8 l9 e_a4 l11 e_a5 l13 e_a6 l15 e_a7 l17 e_a8 l19 _ _ => absurd ⟨a2, e_a2, Nat.zero_le _, l6⟩ h2)) (fun g d I J n w Q hI k1 => c_X12_would (D := D) (cs := cs) (S := S) hI.2.1.1 (fun z => absurd h0 z) (fun _ z => absurd h1 z) (fun _ _ _ => k1) (fun _ _ y_ _ => absurd y_ h2) (fun _ _ y_ _ _ => absurd y_ h2) (fun _ _ y_ _ _ _ => absurd y_ h2) (fun _ _ y_ _ _ _ _ => absurd y_ h2) (fun _ _ y_ _ _ _ _ _ => absurd y_ h2) (fun _ _ y_ _ _ _ _ _ _ => absurd y_ h2) (fun a0 a1 a2 a3 a4 a5 a6 a7 a8 e_a0 l1 l2 e_a1 l4 e_a2 l6 e_a3 l8 l9 e_a4 l11 e_a5 l13 e_a6 l15 e_a7 l17 e_a8 l19 _ _ _ => absurd ⟨a2, e_a2, Nat.zero_le _, l6⟩ h2))
    · exact ask_no 1 1 (by decide) rfl (by decide) hx (fun g d I J n w Q hI hn k1 => c_X11_would (D := D) (cs := cs) (S := S) hI.2.1.1 hn (fun z => absurd h0 z) (fun _ _ => k1) (fun _ y_ _ => absurd y_ h1) (fun _ y_ _ _ => absurd y_ h1) (fun _ y_ _ _ _ => absurd y_ h1) (fun _ y_ _ _ _ _ => absurd y_ h1) (fun _ y_ _ _ _ _ _ => absurd y_ h1) (fun _ y_ _ _ _ _ _ _ => absurd y_ h1) (fun _ y_ _ _ _ _ _ _ _ => absurd y_ h1) (fun a0 a1 a2 a3 a4 a5 a6 a7 a8 e_a0 l1 l2 e_a1 l4 e_a2 l6 e_a3 l8 l9 e_a4 l11 e_a5 l13 e_a6 l15 e_a7 l17 e_a8 l19 _ _ => absurd ⟨a1, e_a1, Nat.zero_le _, l4⟩ h1)) (fun g d I J n w Q hI k1 => c_X12_would (D := D) (cs := cs) (S := S) hI.2.1.1 (fun z => absurd h0 z) (fun _ _ => k1) (fun _ y_ _ => absurd y_ h1) (fun _ y_ _ _ => absurd y_ h1) (fun _ y_ _ _ _ => absurd y_ h1) (fun _ y_ _ _ _ _ => absurd y_ h1) (fun _ y_ _ _ _ _ _ => absurd y_ h1) (fun _ y_ _ _ _ _ _ _ => absurd y_ h1) (fun _ y_ _ _ _ _ _ _ _ => absurd y_ h1) (fun a0 a1 a2 a3 a4 a5 a6 a7 a8 e_a0 l1 l2 e_a1 l4 e_a2 l6 e_a3 l8 l9 e_a4 l11 e_a5 l13 e_a6 l15 e_a7 l17 e_a8 l19 _ _ _ => absurd ⟨a1, e_a1, Nat.zero_le _, l4⟩ h1))
  · exact ask_no 1 1 (by decide) rfl (by decide) hx (fun g d I J n w Q hI hn k1 => c_X11_would (D := D) (cs := cs) (S := S) hI.2.1.1 hn (fun _ => k1) (fun y_ _ => absurd y_ h0) (fun y_ _ _ => absurd y_ h0) (fun y_ _ _ _ => absurd y_ h0) (fun y_ _ _ _ _ => absurd y_ h0) (fun y_ _ _ _ _ _ => absurd y_ h0) (fun y_ _ _ _ _ _ _ => absurd y_ h0) (fun y_ _ _ _ _ _ _ _ => absurd y_ h0) (fun y_ _ _ _ _ _ _ _ _ => absurd y_ h0) (fun a0 a1 a2 a3 a4 a5 a6 a7 a8 e_a0 l1 l2 e_a1 l4 e_a2 l6 e_a3 l8 l9 e_a4 l11 e_a5 l13 e_a6 l15 e_a7 l17 e_a8 l19 _ _ => absurd ⟨a0, e_a0, l1, l2⟩ h0)) (fun g d I J n w Q hI k1 => c_X12_would (D := D) (cs := cs) (S := S) hI.2.1.1 (fun _ => k1) (fun y_ _ => absurd y_ h0) (fun y_ _ _ => absurd y_ h0) (fun y_ _ _ _ => absurd y_ h0) (fun y_ _ _ _ _ => absurd y_ h0) (fun y_ _ _ _ _ _ => absurd y_ h0) (fun y_ _ _ _ _ _ _ => absurd y_ h0) (fun y_ _ _ _ _ _ _ _ => absurd y_ h0) (fun y_ _ _ _ _ _ _ _ _ => absurd y_ h0) (fun a0 a1 a2 a3 a4 a5 a6 a7 a8 e_a0 l1 l2 e_a1 l4 e_a2 l6 e_a3 l8 l9 e_a4 l11 e_a5 l13 e_a6 l15 e_a7 l17 e_a8 l19 _ _ _ => absurd ⟨a0, e_a0, l1, l2⟩ h0))
theorem pr_ahead {x y : Int32} (hx : gOk q0) : prS 8 3 mX11_ahead mX12_ahead [.ref 1, .int x, .int y] [.ref 534, .int x, .int y] cdA q0 := by
  obtain ⟨⟨t0, T0, f0⟩, ⟨D, cs, S, B, kB, rr⟩, pp, cn⟩ := q0
  by_cases h0 : iv 0 (100) x
  · by_cases h1 : iv 0 (2) y
    · exact ask_ok (vAhd D S (xN x) (xN y)) hx
        (fun g d I J n w Q hI hn k1 => c_X11_ahead (D := D) (cs := cs) (S := S) hI.2.1.1 hn (fun z => absurd h0 z) (fun _ z => absurd h1 z) (fun k q e_k l1 e_q l3 I9 kk => by
          have hb7 := hI.2.1.1.2.1.1
          have hc12 := hI.2.1.1.2.1.2.1
          have p1 := p2_12 (show cb D ≤ 12 by have hb8 : cb D ≤ 7 := hb7; omega)
          have p2 := p2_12 (show cc D ≤ 12 from hc12)
          have E_k : xN x = k := by rw [e_k]; exact nI_clamp (by have h7 : cb D ≤ 7 := hb7; have h12 : cc D ≤ 12 := hc12; omega)
          have E_q : xN y = q := by rw [e_q]; exact nI_clamp (by have h7 : cb D ≤ 7 := hb7; have h12 : cc D ≤ 12 := hc12; omega)
          have h := k1 I9 kk
          rw [E_k, E_q] at h; exact h))
        (fun g d I J n w Q hI k1 => c_X12_ahead (D := D) (cs := cs) (S := S) hI.2.1.1 (fun z => absurd h0 z) (fun _ z => absurd h1 z) (fun k q e_k l1 e_q l3 I9 kk h00 => by
          have hb7 := hI.2.1.1.2.1.1
          have hc12 := hI.2.1.1.2.1.2.1
          have p1 := p2_12 (show cb D ≤ 12 by have hb8 : cb D ≤ 7 := hb7; omega)
          have p2 := p2_12 (show cc D ≤ 12 from hc12)
          have E_k : xN x = k := by rw [e_k]; exact nI_clamp (by have h7 : cb D ≤ 7 := hb7; have h12 : cc D ≤ 12 := hc12; omega)
          have E_q : xN y = q := by rw [e_q]; exact nI_clamp (by have h7 : cb D ≤ 7 := hb7; have h12 : cc D ≤ 12 := hc12; omega)
          have h := k1 I9 kk h00
          rw [E_k, E_q] at h; exact h))
    · exact ask_no 1 1 (by decide) rfl (by decide) hx (fun g d I J n w Q hI hn k1 => c_X11_ahead (D := D) (cs := cs) (S := S) hI.2.1.1 hn (fun z => absurd h0 z) (fun _ _ => k1) (fun k q e_k l1 e_q l3 _ _ => absurd ⟨q, e_q, Nat.zero_le _, l3⟩ h1)) (fun g d I J n w Q hI k1 => c_X12_ahead (D := D) (cs := cs) (S := S) hI.2.1.1 (fun z => absurd h0 z) (fun _ _ => k1) (fun k q e_k l1 e_q l3 _ _ _ => absurd ⟨q, e_q, Nat.zero_le _, l3⟩ h1))
  · exact ask_no 1 1 (by decide) rfl (by decide) hx (fun g d I J n w Q hI hn k1 => c_X11_ahead (D := D) (cs := cs) (S := S) hI.2.1.1 hn (fun _ => k1) (fun y_ _ => absurd y_ h0) (fun k q e_k l1 e_q l3 _ _ => absurd ⟨k, e_k, Nat.zero_le _, l1⟩ h0)) (fun g d I J n w Q hI k1 => c_X12_ahead (D := D) (cs := cs) (S := S) hI.2.1.1 (fun _ => k1) (fun y_ _ => absurd y_ h0) (fun k q e_k l1 e_q l3 _ _ _ => absurd ⟨k, e_k, Nat.zero_le _, l1⟩ h0))
theorem pr_could {x : Int32} (hx : gOk q0) : prS 8 7 mX11_could mX12_could [.ref 1, .int x] [.ref 534, .int x] cdE q0 := by
  obtain ⟨⟨t0, T0, f0⟩, ⟨D, cs, S, B, kB, rr⟩, pp, cn⟩ := q0
  by_cases h0 : iv 0 (cb D) x
  · exact ask_ok (nI (bs (fun c => brs D cs S (xN x) c 0) (cc D))) hx
      (fun g d I J n w Q hI hn k1 => c_X11_could (D := D) (cs := cs) (S := S) hI.2.1.1 hn (fun z => absurd h0 z) (fun b e_b l1 I9 kk => by
        have hb7 := hI.2.1.1.2.1.1
        have hc12 := hI.2.1.1.2.1.2.1
        have p1 := p2_12 (show cb D ≤ 12 by have hb8 : cb D ≤ 7 := hb7; omega)
        have p2 := p2_12 (show cc D ≤ 12 from hc12)
        have E_b : xN x = b := by rw [e_b]; exact nI_clamp (by have h7 : cb D ≤ 7 := hb7; have h12 : cc D ≤ 12 := hc12; omega)
        have h := k1 I9 kk
        rw [E_b] at h; exact h))
      (fun g d I J n w Q hI k1 => c_X12_could (D := D) (cs := cs) (S := S) hI.2.1.1 (fun z => absurd h0 z) (fun b e_b l1 I9 kk h00 => by
        have hb7 := hI.2.1.1.2.1.1
        have hc12 := hI.2.1.1.2.1.2.1
        have p1 := p2_12 (show cb D ≤ 12 by have hb8 : cb D ≤ 7 := hb7; omega)
        have p2 := p2_12 (show cc D ≤ 12 from hc12)
        have E_b : xN x = b := by rw [e_b]; exact nI_clamp (by have h7 : cb D ≤ 7 := hb7; have h12 : cc D ≤ 12 := hc12; omega)
        have h := k1 I9 kk h00
        rw [E_b] at h; exact h))
  · exact ask_no 0 1 (by decide) rfl (by decide) hx (fun g d I J n w Q hI hn k1 => c_X11_could (D := D) (cs := cs) (S := S) hI.2.1.1 hn (fun _ => k1) (fun b e_b l1 _ _ => absurd ⟨b, e_b, Nat.zero_le _, l1⟩ h0)) (fun g d I J n w Q hI k1 => c_X12_could (D := D) (cs := cs) (S := S) hI.2.1.1 (fun _ => k1) (fun b e_b l1 _ _ _ => absurd ⟨b, e_b, Nat.zero_le _, l1⟩ h0))
theorem pr_word {x : Int32} (hx : gOk q0) : prS 8 3 mX11_word mX12_word [.ref 1, .int x] [.ref 534, .int x] cdE q0 := by
  obtain ⟨⟨t0, T0, f0⟩, ⟨D, cs, S, B, kB, rr⟩, pp, cn⟩ := q0
  by_cases h0 : iv 0 (cc D) x
  · exact ask_ok (vWrd D S (xN x)) hx
      (fun g d I J n w Q hI hn k1 => c_X11_word (D := D) (cs := cs) (S := S) hI.2.1.1 hn (fun z => absurd h0 z) (fun c e_c l1 I9 kk => by
        have hb7 := hI.2.1.1.2.1.1
        have hc12 := hI.2.1.1.2.1.2.1
        have p1 := p2_12 (show cb D ≤ 12 by have hb8 : cb D ≤ 7 := hb7; omega)
        have p2 := p2_12 (show cc D ≤ 12 from hc12)
        have E_c : xN x = c := by rw [e_c]; exact nI_clamp (by have h7 : cb D ≤ 7 := hb7; have h12 : cc D ≤ 12 := hc12; omega)
        have h := k1 I9 kk
        rw [E_c] at h; exact h))
      (fun g d I J n w Q hI k1 => c_X12_word (D := D) (cs := cs) (S := S) hI.2.1.1 (fun z => absurd h0 z) (fun c e_c l1 I9 kk h00 => by
        have hb7 := hI.2.1.1.2.1.1
        have hc12 := hI.2.1.1.2.1.2.1
        have p1 := p2_12 (show cb D ≤ 12 by have hb8 : cb D ≤ 7 := hb7; omega)
        have p2 := p2_12 (show cc D ≤ 12 from hc12)
        have E_c : xN x = c := by rw [e_c]; exact nI_clamp (by have h7 : cb D ≤ 7 := hb7; have h12 : cc D ≤ 12 := hc12; omega)
        have h := k1 I9 kk h00
        rw [E_c] at h; exact h))
  · exact ask_no 0 1 (by decide) rfl (by decide) hx (fun g d I J n w Q hI hn k1 => c_X11_word (D := D) (cs := cs) (S := S) hI.2.1.1 hn (fun _ => k1) (fun c e_c l1 _ _ => absurd ⟨c, e_c, Nat.zero_le _, l1⟩ h0)) (fun g d I J n w Q hI k1 => c_X12_word (D := D) (cs := cs) (S := S) hI.2.1.1 (fun _ => k1) (fun c e_c l1 _ _ _ => absurd ⟨c, e_c, Nat.zero_le _, l1⟩ h0))
theorem pr_ease {x y : Int32} (hx : gOk q0) : prS 8 2 mX11_ease mX12_ease [.ref 1, .int x, .int y] [.ref 534, .int x, .int y] cdA q0 := by
  obtain ⟨⟨t0, T0, f0⟩, ⟨D, cs, S, B, kB, rr⟩, pp, cn⟩ := q0
  by_cases h0 : iv 0 (2 ^ cc D) x
  · by_cases h1 : iv 0 (10000) y
    · exact ask_ok (nI (vEas D (xN x) (xN y))) hx
        (fun g d I J n w Q hI hn k1 => c_X11_ease (D := D) (cs := cs) (S := S) hI.2.1.1 hn (fun z => absurd h0 z) (fun _ z => absurd h1 z) (fun v k e_v l1 e_k l3 I9 kk => by
          have hb7 := hI.2.1.1.2.1.1
          have hc12 := hI.2.1.1.2.1.2.1
          have p1 := p2_12 (show cb D ≤ 12 by have hb8 : cb D ≤ 7 := hb7; omega)
          have p2 := p2_12 (show cc D ≤ 12 from hc12)
          have E_v : xN x = v := by rw [e_v]; exact nI_clamp (by have h7 : cb D ≤ 7 := hb7; have h12 : cc D ≤ 12 := hc12; omega)
          have E_k : xN y = k := by rw [e_k]; exact nI_clamp (by have h7 : cb D ≤ 7 := hb7; have h12 : cc D ≤ 12 := hc12; omega)
          have h := k1 I9 kk
          rw [E_v, E_k] at h; exact h))
        (fun g d I J n w Q hI k1 => c_X12_ease (D := D) (cs := cs) (S := S) hI.2.1.1 (fun z => absurd h0 z) (fun _ z => absurd h1 z) (fun v k e_v l1 e_k l3 I9 kk h00 => by
          have hb7 := hI.2.1.1.2.1.1
          have hc12 := hI.2.1.1.2.1.2.1
          have p1 := p2_12 (show cb D ≤ 12 by have hb8 : cb D ≤ 7 := hb7; omega)
          have p2 := p2_12 (show cc D ≤ 12 from hc12)
          have E_v : xN x = v := by rw [e_v]; exact nI_clamp (by have h7 : cb D ≤ 7 := hb7; have h12 : cc D ≤ 12 := hc12; omega)
          have E_k : xN y = k := by rw [e_k]; exact nI_clamp (by have h7 : cb D ≤ 7 := hb7; have h12 : cc D ≤ 12 := hc12; omega)
          have h := k1 I9 kk h00
          rw [E_v, E_k] at h; exact h))
    · exact ask_no 1 1 (by decide) rfl (by decide) hx (fun g d I J n w Q hI hn k1 => c_X11_ease (D := D) (cs := cs) (S := S) hI.2.1.1 hn (fun z => absurd h0 z) (fun _ _ => k1) (fun v k e_v l1 e_k l3 _ _ => absurd ⟨k, e_k, Nat.zero_le _, l3⟩ h1)) (fun g d I J n w Q hI k1 => c_X12_ease (D := D) (cs := cs) (S := S) hI.2.1.1 (fun z => absurd h0 z) (fun _ _ => k1) (fun v k e_v l1 e_k l3 _ _ _ => absurd ⟨k, e_k, Nat.zero_le _, l3⟩ h1))
  · exact ask_no 1 1 (by decide) rfl (by decide) hx (fun g d I J n w Q hI hn k1 => c_X11_ease (D := D) (cs := cs) (S := S) hI.2.1.1 hn (fun _ => k1) (fun y_ _ => absurd y_ h0) (fun v k e_v l1 e_k l3 _ _ => absurd ⟨v, e_v, Nat.zero_le _, l1⟩ h0)) (fun g d I J n w Q hI k1 => c_X12_ease (D := D) (cs := cs) (S := S) hI.2.1.1 (fun _ => k1) (fun y_ _ => absurd y_ h0) (fun v k e_v l1 e_k l3 _ _ _ => absurd ⟨v, e_v, Nat.zero_le _, l1⟩ h0))
theorem pr_fits {x : Int32} (hx : gOk q0) : prS 8 8 mX11_fits mX12_fits [.ref 1, .int x] [.ref 534, .int x] cdA q0 := by
  obtain ⟨⟨t0, T0, f0⟩, ⟨D, cs, S, B, kB, rr⟩, pp, cn⟩ := q0
  by_cases h0 : iv 0 (2) x
  · exact ask_ok (vFit D cs S B (xN x)) hx
      (fun g d I J n w Q hI hn k1 => c_X11_fits (D := D) (cs := cs) (S := S) hI.2.1.1 hn hI.2.1.2.1 hx.1 (fun z => absurd h0 z) (fun q e_q l1 I9 kk => by
        have hb7 := hI.2.1.1.2.1.1
        have hc12 := hI.2.1.1.2.1.2.1
        have p1 := p2_12 (show cb D ≤ 12 by have hb8 : cb D ≤ 7 := hb7; omega)
        have p2 := p2_12 (show cc D ≤ 12 from hc12)
        have E_q : xN x = q := by rw [e_q]; exact nI_clamp (by have h7 : cb D ≤ 7 := hb7; have h12 : cc D ≤ 12 := hc12; omega)
        have h := k1 I9 kk
        rw [E_q] at h; exact h))
      (fun g d I J n w Q hI k1 => c_X12_fits (D := D) (cs := cs) (S := S) hI.2.1.1 hI.2.1.2.2.1 hx.1 (fun z => absurd h0 z) (fun q e_q l1 I9 kk h00 => by
        have hb7 := hI.2.1.1.2.1.1
        have hc12 := hI.2.1.1.2.1.2.1
        have p1 := p2_12 (show cb D ≤ 12 by have hb8 : cb D ≤ 7 := hb7; omega)
        have p2 := p2_12 (show cc D ≤ 12 from hc12)
        have E_q : xN x = q := by rw [e_q]; exact nI_clamp (by have h7 : cb D ≤ 7 := hb7; have h12 : cc D ≤ 12 := hc12; omega)
        have h := k1 I9 kk h00
        rw [E_q] at h; exact h))
  · exact ask_no 1 1 (by decide) rfl (by decide) hx (fun g d I J n w Q hI hn k1 => c_X11_fits (D := D) (cs := cs) (S := S) hI.2.1.1 hn hI.2.1.2.1 hx.1 (fun _ => k1) (fun q e_q l1 _ _ => absurd ⟨q, e_q, Nat.zero_le _, l1⟩ h0)) (fun g d I J n w Q hI k1 => c_X12_fits (D := D) (cs := cs) (S := S) hI.2.1.1 hI.2.1.2.2.1 hx.1 (fun _ => k1) (fun q e_q l1 _ _ _ => absurd ⟨q, e_q, Nat.zero_le _, l1⟩ h0))
theorem pr_look {x : Int32} (hx : gOk q0) : prS 8 9 mX11_look mX12_look [.ref 1, .int x] [.ref 534, .int x] cdA q0 := by
  obtain ⟨⟨t0, T0, f0⟩, ⟨D, cs, S, B, kB, rr⟩, pp, cn⟩ := q0
  by_cases h0 : iv 0 (2) x
  · exact ask_ok (vLk D cs S B (xN x)) hx
      (fun g d I J n w Q hI hn k1 => c_X11_look (D := D) (cs := cs) (S := S) hI.2.1.1 hn hI.2.1.2.1 hx.1 (fun z => absurd h0 z) (fun q e_q l1 I9 kk => by
        have hb7 := hI.2.1.1.2.1.1
        have hc12 := hI.2.1.1.2.1.2.1
        have p1 := p2_12 (show cb D ≤ 12 by have hb8 : cb D ≤ 7 := hb7; omega)
        have p2 := p2_12 (show cc D ≤ 12 from hc12)
        have E_q : xN x = q := by rw [e_q]; exact nI_clamp (by have h7 : cb D ≤ 7 := hb7; have h12 : cc D ≤ 12 := hc12; omega)
        have h := k1 I9 kk
        rw [E_q] at h; exact h))
      (fun g d I J n w Q hI k1 => c_X12_look (D := D) (cs := cs) (S := S) hI.2.1.1 hI.2.1.2.2.1 hx.1 (fun z => absurd h0 z) (fun q e_q l1 I9 kk h00 => by
        have hb7 := hI.2.1.1.2.1.1
        have hc12 := hI.2.1.1.2.1.2.1
        have p1 := p2_12 (show cb D ≤ 12 by have hb8 : cb D ≤ 7 := hb7; omega)
        have p2 := p2_12 (show cc D ≤ 12 from hc12)
        have E_q : xN x = q := by rw [e_q]; exact nI_clamp (by have h7 : cb D ≤ 7 := hb7; have h12 : cc D ≤ 12 := hc12; omega)
        have h := k1 I9 kk h00
        rw [E_q] at h; exact h))
  · exact ask_no 1 1 (by decide) rfl (by decide) hx (fun g d I J n w Q hI hn k1 => c_X11_look (D := D) (cs := cs) (S := S) hI.2.1.1 hn hI.2.1.2.1 hx.1 (fun _ => k1) (fun q e_q l1 _ _ => absurd ⟨q, e_q, Nat.zero_le _, l1⟩ h0)) (fun g d I J n w Q hI k1 => c_X12_look (D := D) (cs := cs) (S := S) hI.2.1.1 hI.2.1.2.2.1 hx.1 (fun _ => k1) (fun q e_q l1 _ _ _ => absurd ⟨q, e_q, Nat.zero_le _, l1⟩ h0))
theorem pr_quorum {x y : Int32} (hx : gOk q0) : prS 8 2 mX11_quorum mX12_quorum [.ref 1, .int x, .int y] [.ref 534, .int x, .int y] cdA q0 := by
  obtain ⟨⟨t0, T0, f0⟩, ⟨D, cs, S, B, kB, rr⟩, pp, cn⟩ := q0
  by_cases h0 : iv 1 (694) x
  · by_cases h1 : iv 0 (2) y
    · exact ask_ok (nI (bc (qA D S (xN x) (xN y)) (2 ^ cb D))) hx
        (fun g d I J n w Q hI hn k1 => c_X11_quorum (D := D) (cs := cs) (S := S) hI.2.1.1 hn (fun z => absurd h0 z) (fun _ z => absurd h1 z) (fun q e e_q l1 l2 e_e l4 I9 kk => by
          have hb7 := hI.2.1.1.2.1.1
          have hc12 := hI.2.1.1.2.1.2.1
          have p1 := p2_12 (show cb D ≤ 12 by have hb8 : cb D ≤ 7 := hb7; omega)
          have p2 := p2_12 (show cc D ≤ 12 from hc12)
          have E_q : xN x = q := by rw [e_q]; exact nI_clamp (by have h7 : cb D ≤ 7 := hb7; have h12 : cc D ≤ 12 := hc12; omega)
          have E_e : xN y = e := by rw [e_e]; exact nI_clamp (by have h7 : cb D ≤ 7 := hb7; have h12 : cc D ≤ 12 := hc12; omega)
          have h := k1 I9 kk
          rw [E_q, E_e] at h; exact h))
        (fun g d I J n w Q hI k1 => c_X12_quorum (D := D) (cs := cs) (S := S) hI.2.1.1 (fun z => absurd h0 z) (fun _ z => absurd h1 z) (fun q e e_q l1 l2 e_e l4 I9 kk h00 => by
          have hb7 := hI.2.1.1.2.1.1
          have hc12 := hI.2.1.1.2.1.2.1
          have p1 := p2_12 (show cb D ≤ 12 by have hb8 : cb D ≤ 7 := hb7; omega)
          have p2 := p2_12 (show cc D ≤ 12 from hc12)
          have E_q : xN x = q := by rw [e_q]; exact nI_clamp (by have h7 : cb D ≤ 7 := hb7; have h12 : cc D ≤ 12 := hc12; omega)
          have E_e : xN y = e := by rw [e_e]; exact nI_clamp (by have h7 : cb D ≤ 7 := hb7; have h12 : cc D ≤ 12 := hc12; omega)
          have h := k1 I9 kk h00
          rw [E_q, E_e] at h; exact h))
    · exact ask_no 1 1 (by decide) rfl (by decide) hx (fun g d I J n w Q hI hn k1 => c_X11_quorum (D := D) (cs := cs) (S := S) hI.2.1.1 hn (fun z => absurd h0 z) (fun _ _ => k1) (fun q e e_q l1 l2 e_e l4 _ _ => absurd ⟨e, e_e, Nat.zero_le _, l4⟩ h1)) (fun g d I J n w Q hI k1 => c_X12_quorum (D := D) (cs := cs) (S := S) hI.2.1.1 (fun z => absurd h0 z) (fun _ _ => k1) (fun q e e_q l1 l2 e_e l4 _ _ _ => absurd ⟨e, e_e, Nat.zero_le _, l4⟩ h1))
  · exact ask_no 1 1 (by decide) rfl (by decide) hx (fun g d I J n w Q hI hn k1 => c_X11_quorum (D := D) (cs := cs) (S := S) hI.2.1.1 hn (fun _ => k1) (fun y_ _ => absurd y_ h0) (fun q e e_q l1 l2 e_e l4 _ _ => absurd ⟨q, e_q, l1, l2⟩ h0)) (fun g d I J n w Q hI k1 => c_X12_quorum (D := D) (cs := cs) (S := S) hI.2.1.1 (fun _ => k1) (fun y_ _ => absurd y_ h0) (fun q e e_q l1 l2 e_e l4 _ _ _ => absurd ⟨q, e_q, l1, l2⟩ h0))
theorem pr_kneel {x y z : Int32} (hx : gOk q0) : prS 8 3 mX11_kneel mX12_kneel [.ref 1, .int x, .int y, .int z] [.ref 534, .int x, .int y, .int z] cdA q0 := by
  obtain ⟨⟨t0, T0, f0⟩, ⟨D, cs, S, B, kB, rr⟩, pp, cn⟩ := q0
  by_cases h0 : iv 0 (100) x
  · by_cases h1 : iv 0 (100) y
    · by_cases h2 : iv 0 (3) z
      · exact ask_ok (vKn (xN x) (xN y) (xN z)) hx
          (fun g d I J n w Q hI hn k1 => c_X11_kneel (D := D) (cs := cs) (S := S) hI.2.1.1 hn (fun z => absurd h0 z) (fun _ z => absurd h1 z) (fun _ _ z => absurd h2 z) (fun v u q e_v l1 e_u l3 e_q l5 I9 kk => by
            have hb7 := hI.2.1.1.2.1.1
            have hc12 := hI.2.1.1.2.1.2.1
            have p1 := p2_12 (show cb D ≤ 12 by have hb8 : cb D ≤ 7 := hb7; omega)
            have p2 := p2_12 (show cc D ≤ 12 from hc12)
            have E_v : xN x = v := by rw [e_v]; exact nI_clamp (by have h7 : cb D ≤ 7 := hb7; have h12 : cc D ≤ 12 := hc12; omega)
            have E_u : xN y = u := by rw [e_u]; exact nI_clamp (by have h7 : cb D ≤ 7 := hb7; have h12 : cc D ≤ 12 := hc12; omega)
            have E_q : xN z = q := by rw [e_q]; exact nI_clamp (by have h7 : cb D ≤ 7 := hb7; have h12 : cc D ≤ 12 := hc12; omega)
            have h := k1 I9 kk
            rw [E_v, E_u, E_q] at h; exact h))
          (fun g d I J n w Q hI k1 => c_X12_kneel (D := D) (cs := cs) (S := S) hI.2.1.1 (fun z => absurd h0 z) (fun _ z => absurd h1 z) (fun _ _ z => absurd h2 z) (fun v u q e_v l1 e_u l3 e_q l5 I9 kk h00 => by
            have hb7 := hI.2.1.1.2.1.1
            have hc12 := hI.2.1.1.2.1.2.1
            have p1 := p2_12 (show cb D ≤ 12 by have hb8 : cb D ≤ 7 := hb7; omega)
            have p2 := p2_12 (show cc D ≤ 12 from hc12)
            have E_v : xN x = v := by rw [e_v]; exact nI_clamp (by have h7 : cb D ≤ 7 := hb7; have h12 : cc D ≤ 12 := hc12; omega)
            have E_u : xN y = u := by rw [e_u]; exact nI_clamp (by have h7 : cb D ≤ 7 := hb7; have h12 : cc D ≤ 12 := hc12; omega)
            have E_q : xN z = q := by rw [e_q]; exact nI_clamp (by have h7 : cb D ≤ 7 := hb7; have h12 : cc D ≤ 12 := hc12; omega)
            have h := k1 I9 kk h00
            rw [E_v, E_u, E_q] at h; exact h))
      · exact ask_no 1 1 (by decide) rfl (by decide) hx (fun g d I J n w Q hI hn k1 => c_X11_kneel (D := D) (cs := cs) (S := S) hI.2.1.1 hn (fun z => absurd h0 z) (fun _ z => absurd h1 z) (fun _ _ _ => k1) (fun v u q e_v l1 e_u l3 e_q l5 _ _ => absurd ⟨q, e_q, Nat.zero_le _, l5⟩ h2)) (fun g d I J n w Q hI k1 => c_X12_kneel (D := D) (cs := cs) (S := S) hI.2.1.1 (fun z => absurd h0 z) (fun _ z => absurd h1 z) (fun _ _ _ => k1) (fun v u q e_v l1 e_u l3 e_q l5 _ _ _ => absurd ⟨q, e_q, Nat.zero_le _, l5⟩ h2))
    · exact ask_no 1 1 (by decide) rfl (by decide) hx (fun g d I J n w Q hI hn k1 => c_X11_kneel (D := D) (cs := cs) (S := S) hI.2.1.1 hn (fun z => absurd h0 z) (fun _ _ => k1) (fun _ y_ _ => absurd y_ h1) (fun v u q e_v l1 e_u l3 e_q l5 _ _ => absurd ⟨u, e_u, Nat.zero_le _, l3⟩ h1)) (fun g d I J n w Q hI k1 => c_X12_kneel (D := D) (cs := cs) (S := S) hI.2.1.1 (fun z => absurd h0 z) (fun _ _ => k1) (fun _ y_ _ => absurd y_ h1) (fun v u q e_v l1 e_u l3 e_q l5 _ _ _ => absurd ⟨u, e_u, Nat.zero_le _, l3⟩ h1))
  · exact ask_no 1 1 (by decide) rfl (by decide) hx (fun g d I J n w Q hI hn k1 => c_X11_kneel (D := D) (cs := cs) (S := S) hI.2.1.1 hn (fun _ => k1) (fun y_ _ => absurd y_ h0) (fun y_ _ _ => absurd y_ h0) (fun v u q e_v l1 e_u l3 e_q l5 _ _ => absurd ⟨v, e_v, Nat.zero_le _, l1⟩ h0)) (fun g d I J n w Q hI k1 => c_X12_kneel (D := D) (cs := cs) (S := S) hI.2.1.1 (fun _ => k1) (fun y_ _ => absurd y_ h0) (fun y_ _ _ => absurd y_ h0) (fun v u q e_v l1 e_u l3 e_q l5 _ _ _ => absurd ⟨v, e_v, Nat.zero_le _, l1⟩ h0))
theorem pr_balm {x y z : Int32} (hx : gOk q0) : prS 8 3 mX11_balm mX12_balm [.ref 1, .int x, .int y, .int z] [.ref 534, .int x, .int y, .int z] cdB q0 := by
  obtain ⟨⟨t0, T0, f0⟩, ⟨D, cs, S, B, kB, rr⟩, pp, cn⟩ := q0
  by_cases h0 : iv 0 (cb D) x
  · by_cases h1 : iv 0 (2 ^ cb D) y
    · by_cases h2 : iv 0 (10000) z
      · exact ask_ok (vBlm D S (xN x) (xN y) (xN z)) hx
          (fun g d I J n w Q hI hn k1 => c_X11_balm (D := D) (cs := cs) (S := S) hI.2.1.1 hn (fun z => absurd h0 z) (fun _ z => absurd h1 z) (fun _ _ z => absurd h2 z) (fun b v k e_b l1 e_v l3 e_k l5 I9 kk => by
            have hb7 := hI.2.1.1.2.1.1
            have hc12 := hI.2.1.1.2.1.2.1
            have p1 := p2_12 (show cb D ≤ 12 by have hb8 : cb D ≤ 7 := hb7; omega)
            have p2 := p2_12 (show cc D ≤ 12 from hc12)
            have E_b : xN x = b := by rw [e_b]; exact nI_clamp (by have h7 : cb D ≤ 7 := hb7; have h12 : cc D ≤ 12 := hc12; omega)
            have E_v : xN y = v := by rw [e_v]; exact nI_clamp (by have h7 : cb D ≤ 7 := hb7; have h12 : cc D ≤ 12 := hc12; omega)
            have E_k : xN z = k := by rw [e_k]; exact nI_clamp (by have h7 : cb D ≤ 7 := hb7; have h12 : cc D ≤ 12 := hc12; omega)
            have h := k1 I9 kk
            rw [E_b, E_v, E_k] at h; exact h))
          (fun g d I J n w Q hI k1 => c_X12_balm (D := D) (cs := cs) (S := S) hI.2.1.1 (fun z => absurd h0 z) (fun _ z => absurd h1 z) (fun _ _ z => absurd h2 z) (fun b v k e_b l1 e_v l3 e_k l5 I9 kk h00 => by
            have hb7 := hI.2.1.1.2.1.1
            have hc12 := hI.2.1.1.2.1.2.1
            have p1 := p2_12 (show cb D ≤ 12 by have hb8 : cb D ≤ 7 := hb7; omega)
            have p2 := p2_12 (show cc D ≤ 12 from hc12)
            have E_b : xN x = b := by rw [e_b]; exact nI_clamp (by have h7 : cb D ≤ 7 := hb7; have h12 : cc D ≤ 12 := hc12; omega)
            have E_v : xN y = v := by rw [e_v]; exact nI_clamp (by have h7 : cb D ≤ 7 := hb7; have h12 : cc D ≤ 12 := hc12; omega)
            have E_k : xN z = k := by rw [e_k]; exact nI_clamp (by have h7 : cb D ≤ 7 := hb7; have h12 : cc D ≤ 12 := hc12; omega)
            have h := k1 I9 kk h00
            rw [E_b, E_v, E_k] at h; exact h))
      · exact ask_no 1 2 (by decide) rfl (by decide) hx (fun g d I J n w Q hI hn k1 => c_X11_balm (D := D) (cs := cs) (S := S) hI.2.1.1 hn (fun z => absurd h0 z) (fun _ z => absurd h1 z) (fun _ _ _ => k1) (fun b v k e_b l1 e_v l3 e_k l5 _ _ => absurd ⟨k, e_k, Nat.zero_le _, l5⟩ h2)) (fun g d I J n w Q hI k1 => c_X12_balm (D := D) (cs := cs) (S := S) hI.2.1.1 (fun z => absurd h0 z) (fun _ z => absurd h1 z) (fun _ _ _ => k1) (fun b v k e_b l1 e_v l3 e_k l5 _ _ _ => absurd ⟨k, e_k, Nat.zero_le _, l5⟩ h2))
    · exact ask_no 1 2 (by decide) rfl (by decide) hx (fun g d I J n w Q hI hn k1 => c_X11_balm (D := D) (cs := cs) (S := S) hI.2.1.1 hn (fun z => absurd h0 z) (fun _ _ => k1) (fun _ y_ _ => absurd y_ h1) (fun b v k e_b l1 e_v l3 e_k l5 _ _ => absurd ⟨v, e_v, Nat.zero_le _, l3⟩ h1)) (fun g d I J n w Q hI k1 => c_X12_balm (D := D) (cs := cs) (S := S) hI.2.1.1 (fun z => absurd h0 z) (fun _ _ => k1) (fun _ y_ _ => absurd y_ h1) (fun b v k e_b l1 e_v l3 e_k l5 _ _ _ => absurd ⟨v, e_v, Nat.zero_le _, l3⟩ h1))
  · exact ask_no 0 1 (by decide) rfl (by decide) hx (fun g d I J n w Q hI hn k1 => c_X11_balm (D := D) (cs := cs) (S := S) hI.2.1.1 hn (fun _ => k1) (fun y_ _ => absurd y_ h0) (fun y_ _ _ => absurd y_ h0) (fun b v k e_b l1 e_v l3 e_k l5 _ _ => absurd ⟨b, e_b, Nat.zero_le _, l1⟩ h0)) (fun g d I J n w Q hI k1 => c_X12_balm (D := D) (cs := cs) (S := S) hI.2.1.1 (fun _ => k1) (fun y_ _ => absurd y_ h0) (fun y_ _ _ => absurd y_ h0) (fun b v k e_b l1 e_v l3 e_k l5 _ _ _ => absurd ⟨b, e_b, Nat.zero_le _, l1⟩ h0))
theorem pr_weariest {x : Int32} (hx : gOk q0) : prS 8 2 mX11_weariest mX12_weariest [.ref 1, .int x] [.ref 534, .int x] cdA q0 := by
  obtain ⟨⟨t0, T0, f0⟩, ⟨D, cs, S, B, kB, rr⟩, pp, cn⟩ := q0
  by_cases h0 : iv 0 (2) x
  · exact ask_ok (vPk (mxr (fun b => nI (sT S b)) (cb D)) (xN x)) hx
      (fun g d I J n w Q hI hn k1 => c_X11_weariest (D := D) (cs := cs) (S := S) hI.2.1.1 hn (fun z => absurd h0 z) (fun q e_q l1 I9 kk => by
        have hb7 := hI.2.1.1.2.1.1
        have hc12 := hI.2.1.1.2.1.2.1
        have p1 := p2_12 (show cb D ≤ 12 by have hb8 : cb D ≤ 7 := hb7; omega)
        have p2 := p2_12 (show cc D ≤ 12 from hc12)
        have E_q : xN x = q := by rw [e_q]; exact nI_clamp (by have h7 : cb D ≤ 7 := hb7; have h12 : cc D ≤ 12 := hc12; omega)
        have h := k1 I9 kk
        rw [E_q] at h; exact h))
      (fun g d I J n w Q hI k1 => c_X12_weariest (D := D) (cs := cs) (S := S) hI.2.1.1 (fun z => absurd h0 z) (fun q e_q l1 I9 kk h00 => by
        have hb7 := hI.2.1.1.2.1.1
        have hc12 := hI.2.1.1.2.1.2.1
        have p1 := p2_12 (show cb D ≤ 12 by have hb8 : cb D ≤ 7 := hb7; omega)
        have p2 := p2_12 (show cc D ≤ 12 from hc12)
        have E_q : xN x = q := by rw [e_q]; exact nI_clamp (by have h7 : cb D ≤ 7 := hb7; have h12 : cc D ≤ 12 := hc12; omega)
        have h := k1 I9 kk h00
        rw [E_q] at h; exact h))
  · exact ask_no 1 1 (by decide) rfl (by decide) hx (fun g d I J n w Q hI hn k1 => c_X11_weariest (D := D) (cs := cs) (S := S) hI.2.1.1 hn (fun _ => k1) (fun q e_q l1 _ _ => absurd ⟨q, e_q, Nat.zero_le _, l1⟩ h0)) (fun g d I J n w Q hI k1 => c_X12_weariest (D := D) (cs := cs) (S := S) hI.2.1.1 (fun _ => k1) (fun q e_q l1 _ _ _ => absurd ⟨q, e_q, Nat.zero_le _, l1⟩ h0))
theorem pr_heaviest {x y : Int32} (hx : gOk q0) : prS 8 7 mX11_heaviest mX12_heaviest [.ref 1, .int x, .int y] [.ref 534, .int x, .int y] cdB q0 := by
  obtain ⟨⟨t0, T0, f0⟩, ⟨D, cs, S, B, kB, rr⟩, pp, cn⟩ := q0
  by_cases h0 : iv 0 (cb D) x
  · by_cases h1 : iv 0 (2) y
    · exact ask_ok (vPk (mxr (fun c => nI (bur D cs S (xN x) c 0)) (cc D)) (xN y)) hx
        (fun g d I J n w Q hI hn k1 => c_X11_heaviest (D := D) (cs := cs) (S := S) hI.2.1.1 hn (fun z => absurd h0 z) (fun _ z => absurd h1 z) (fun b q e_b l1 e_q l3 I9 kk => by
          have hb7 := hI.2.1.1.2.1.1
          have hc12 := hI.2.1.1.2.1.2.1
          have p1 := p2_12 (show cb D ≤ 12 by have hb8 : cb D ≤ 7 := hb7; omega)
          have p2 := p2_12 (show cc D ≤ 12 from hc12)
          have E_b : xN x = b := by rw [e_b]; exact nI_clamp (by have h7 : cb D ≤ 7 := hb7; have h12 : cc D ≤ 12 := hc12; omega)
          have E_q : xN y = q := by rw [e_q]; exact nI_clamp (by have h7 : cb D ≤ 7 := hb7; have h12 : cc D ≤ 12 := hc12; omega)
          have h := k1 I9 kk
          rw [E_b, E_q] at h; exact h))
        (fun g d I J n w Q hI k1 => c_X12_heaviest (D := D) (cs := cs) (S := S) hI.2.1.1 (fun z => absurd h0 z) (fun _ z => absurd h1 z) (fun b q e_b l1 e_q l3 I9 kk h00 => by
          have hb7 := hI.2.1.1.2.1.1
          have hc12 := hI.2.1.1.2.1.2.1
          have p1 := p2_12 (show cb D ≤ 12 by have hb8 : cb D ≤ 7 := hb7; omega)
          have p2 := p2_12 (show cc D ≤ 12 from hc12)
          have E_b : xN x = b := by rw [e_b]; exact nI_clamp (by have h7 : cb D ≤ 7 := hb7; have h12 : cc D ≤ 12 := hc12; omega)
          have E_q : xN y = q := by rw [e_q]; exact nI_clamp (by have h7 : cb D ≤ 7 := hb7; have h12 : cc D ≤ 12 := hc12; omega)
          have h := k1 I9 kk h00
          rw [E_b, E_q] at h; exact h))
    · exact ask_no 1 2 (by decide) rfl (by decide) hx (fun g d I J n w Q hI hn k1 => c_X11_heaviest (D := D) (cs := cs) (S := S) hI.2.1.1 hn (fun z => absurd h0 z) (fun _ _ => k1) (fun b q e_b l1 e_q l3 _ _ => absurd ⟨q, e_q, Nat.zero_le _, l3⟩ h1)) (fun g d I J n w Q hI k1 => c_X12_heaviest (D := D) (cs := cs) (S := S) hI.2.1.1 (fun z => absurd h0 z) (fun _ _ => k1) (fun b q e_b l1 e_q l3 _ _ _ => absurd ⟨q, e_q, Nat.zero_le _, l3⟩ h1))
  · exact ask_no 0 1 (by decide) rfl (by decide) hx (fun g d I J n w Q hI hn k1 => c_X11_heaviest (D := D) (cs := cs) (S := S) hI.2.1.1 hn (fun _ => k1) (fun y_ _ => absurd y_ h0) (fun b q e_b l1 e_q l3 _ _ => absurd ⟨b, e_b, Nat.zero_le _, l1⟩ h0)) (fun g d I J n w Q hI k1 => c_X12_heaviest (D := D) (cs := cs) (S := S) hI.2.1.1 (fun _ => k1) (fun y_ _ => absurd y_ h0) (fun b q e_b l1 e_q l3 _ _ _ => absurd ⟨b, e_b, Nat.zero_le _, l1⟩ h0))
theorem pr_listeners {x : Int32} (hx : gOk q0) : prS 8 3 mX11_listeners mX12_listeners [.ref 1, .int x] [.ref 534, .int x] cdE q0 := by
  obtain ⟨⟨t0, T0, f0⟩, ⟨D, cs, S, B, kB, rr⟩, pp, cn⟩ := q0
  by_cases h0 : iv 0 (cb D) x
  · exact ask_ok (nI (bs (hnw S (xN x)) (cb D))) hx
      (fun g d I J n w Q hI hn k1 => c_X11_listeners (D := D) (cs := cs) (S := S) hI.2.1.1 hn (fun z => absurd h0 z) (fun b e_b l1 I9 kk => by
        have hb7 := hI.2.1.1.2.1.1
        have hc12 := hI.2.1.1.2.1.2.1
        have p1 := p2_12 (show cb D ≤ 12 by have hb8 : cb D ≤ 7 := hb7; omega)
        have p2 := p2_12 (show cc D ≤ 12 from hc12)
        have E_b : xN x = b := by rw [e_b]; exact nI_clamp (by have h7 : cb D ≤ 7 := hb7; have h12 : cc D ≤ 12 := hc12; omega)
        have h := k1 I9 kk
        rw [E_b] at h; exact h))
      (fun g d I J n w Q hI k1 => c_X12_listeners (D := D) (cs := cs) (S := S) hI.2.1.1 (fun z => absurd h0 z) (fun b e_b l1 I9 kk h00 => by
        have hb7 := hI.2.1.1.2.1.1
        have hc12 := hI.2.1.1.2.1.2.1
        have p1 := p2_12 (show cb D ≤ 12 by have hb8 : cb D ≤ 7 := hb7; omega)
        have p2 := p2_12 (show cc D ≤ 12 from hc12)
        have E_b : xN x = b := by rw [e_b]; exact nI_clamp (by have h7 : cb D ≤ 7 := hb7; have h12 : cc D ≤ 12 := hc12; omega)
        have h := k1 I9 kk h00
        rw [E_b] at h; exact h))
  · exact ask_no 0 1 (by decide) rfl (by decide) hx (fun g d I J n w Q hI hn k1 => c_X11_listeners (D := D) (cs := cs) (S := S) hI.2.1.1 hn (fun _ => k1) (fun b e_b l1 _ _ => absurd ⟨b, e_b, Nat.zero_le _, l1⟩ h0)) (fun g d I J n w Q hI k1 => c_X12_listeners (D := D) (cs := cs) (S := S) hI.2.1.1 (fun _ => k1) (fun b e_b l1 _ _ _ => absurd ⟨b, e_b, Nat.zero_le _, l1⟩ h0))
theorem pr_ready {x y : Int32} (hx : gOk q0) : prS 8 7 mX11_ready mX12_ready [.ref 1, .int x, .int y] [.ref 534, .int x, .int y] cdE q0 := by
  obtain ⟨⟨t0, T0, f0⟩, ⟨D, cs, S, B, kB, rr⟩, pp, cn⟩ := q0
  by_cases h0 : iv 0 (cb D) x
  · by_cases h1 : iv 0 (cc D) y
    · exact ask_ok (vRdy D cs S (xN x) (xN y) 100 0) hx
        (fun g d I J n w Q hI hn k1 => c_X11_ready (D := D) (cs := cs) (S := S) hI.2.1.1 hn (fun z => absurd h0 z) (fun _ z => absurd h1 z) (fun b c e_b l1 e_c l3 I9 kk => by
          have hb7 := hI.2.1.1.2.1.1
          have hc12 := hI.2.1.1.2.1.2.1
          have p1 := p2_12 (show cb D ≤ 12 by have hb8 : cb D ≤ 7 := hb7; omega)
          have p2 := p2_12 (show cc D ≤ 12 from hc12)
          have E_b : xN x = b := by rw [e_b]; exact nI_clamp (by have h7 : cb D ≤ 7 := hb7; have h12 : cc D ≤ 12 := hc12; omega)
          have E_c : xN y = c := by rw [e_c]; exact nI_clamp (by have h7 : cb D ≤ 7 := hb7; have h12 : cc D ≤ 12 := hc12; omega)
          have h := k1 I9 kk
          rw [E_b, E_c] at h; exact h))
        (fun g d I J n w Q hI k1 => c_X12_ready (D := D) (cs := cs) (S := S) hI.2.1.1 (fun z => absurd h0 z) (fun _ z => absurd h1 z) (fun b c e_b l1 e_c l3 I9 kk h00 => by
          have hb7 := hI.2.1.1.2.1.1
          have hc12 := hI.2.1.1.2.1.2.1
          have p1 := p2_12 (show cb D ≤ 12 by have hb8 : cb D ≤ 7 := hb7; omega)
          have p2 := p2_12 (show cc D ≤ 12 from hc12)
          have E_b : xN x = b := by rw [e_b]; exact nI_clamp (by have h7 : cb D ≤ 7 := hb7; have h12 : cc D ≤ 12 := hc12; omega)
          have E_c : xN y = c := by rw [e_c]; exact nI_clamp (by have h7 : cb D ≤ 7 := hb7; have h12 : cc D ≤ 12 := hc12; omega)
          have h := k1 I9 kk h00
          rw [E_b, E_c] at h; exact h))
    · exact ask_no 0 1 (by decide) rfl (by decide) hx (fun g d I J n w Q hI hn k1 => c_X11_ready (D := D) (cs := cs) (S := S) hI.2.1.1 hn (fun z => absurd h0 z) (fun _ _ => k1) (fun b c e_b l1 e_c l3 _ _ => absurd ⟨c, e_c, Nat.zero_le _, l3⟩ h1)) (fun g d I J n w Q hI k1 => c_X12_ready (D := D) (cs := cs) (S := S) hI.2.1.1 (fun z => absurd h0 z) (fun _ _ => k1) (fun b c e_b l1 e_c l3 _ _ _ => absurd ⟨c, e_c, Nat.zero_le _, l3⟩ h1))
  · exact ask_no 0 1 (by decide) rfl (by decide) hx (fun g d I J n w Q hI hn k1 => c_X11_ready (D := D) (cs := cs) (S := S) hI.2.1.1 hn (fun _ => k1) (fun y_ _ => absurd y_ h0) (fun b c e_b l1 e_c l3 _ _ => absurd ⟨b, e_b, Nat.zero_le _, l1⟩ h0)) (fun g d I J n w Q hI k1 => c_X12_ready (D := D) (cs := cs) (S := S) hI.2.1.1 (fun _ => k1) (fun y_ _ => absurd y_ h0) (fun b c e_b l1 e_c l3 _ _ _ => absurd ⟨b, e_b, Nat.zero_le _, l1⟩ h0))
theorem pr_sure {x y : Int32} (hx : gOk q0) : prS 8 3 mX11_sure mX12_sure [.ref 1, .int x, .int y] [.ref 534, .int x, .int y] cdB q0 := by
  obtain ⟨⟨t0, T0, f0⟩, ⟨D, cs, S, B, kB, rr⟩, pp, cn⟩ := q0
  by_cases h0 : iv 0 (cb D) x
  · by_cases h1 : iv 0 (2) y
    · exact ask_ok (vSur D S (xN x) (xN y)) hx
        (fun g d I J n w Q hI hn k1 => c_X11_sure (D := D) (cs := cs) (S := S) hI.2.1.1 hn (fun z => absurd h0 z) (fun _ z => absurd h1 z) (fun b q e_b l1 e_q l3 I9 kk => by
          have hb7 := hI.2.1.1.2.1.1
          have hc12 := hI.2.1.1.2.1.2.1
          have p1 := p2_12 (show cb D ≤ 12 by have hb8 : cb D ≤ 7 := hb7; omega)
          have p2 := p2_12 (show cc D ≤ 12 from hc12)
          have E_b : xN x = b := by rw [e_b]; exact nI_clamp (by have h7 : cb D ≤ 7 := hb7; have h12 : cc D ≤ 12 := hc12; omega)
          have E_q : xN y = q := by rw [e_q]; exact nI_clamp (by have h7 : cb D ≤ 7 := hb7; have h12 : cc D ≤ 12 := hc12; omega)
          have h := k1 I9 kk
          rw [E_b, E_q] at h; exact h))
        (fun g d I J n w Q hI k1 => c_X12_sure (D := D) (cs := cs) (S := S) hI.2.1.1 (fun z => absurd h0 z) (fun _ z => absurd h1 z) (fun b q e_b l1 e_q l3 I9 kk h00 => by
          have hb7 := hI.2.1.1.2.1.1
          have hc12 := hI.2.1.1.2.1.2.1
          have p1 := p2_12 (show cb D ≤ 12 by have hb8 : cb D ≤ 7 := hb7; omega)
          have p2 := p2_12 (show cc D ≤ 12 from hc12)
          have E_b : xN x = b := by rw [e_b]; exact nI_clamp (by have h7 : cb D ≤ 7 := hb7; have h12 : cc D ≤ 12 := hc12; omega)
          have E_q : xN y = q := by rw [e_q]; exact nI_clamp (by have h7 : cb D ≤ 7 := hb7; have h12 : cc D ≤ 12 := hc12; omega)
          have h := k1 I9 kk h00
          rw [E_b, E_q] at h; exact h))
    · exact ask_no 1 2 (by decide) rfl (by decide) hx (fun g d I J n w Q hI hn k1 => c_X11_sure (D := D) (cs := cs) (S := S) hI.2.1.1 hn (fun z => absurd h0 z) (fun _ _ => k1) (fun b q e_b l1 e_q l3 _ _ => absurd ⟨q, e_q, Nat.zero_le _, l3⟩ h1)) (fun g d I J n w Q hI k1 => c_X12_sure (D := D) (cs := cs) (S := S) hI.2.1.1 (fun z => absurd h0 z) (fun _ _ => k1) (fun b q e_b l1 e_q l3 _ _ _ => absurd ⟨q, e_q, Nat.zero_le _, l3⟩ h1))
  · exact ask_no 0 1 (by decide) rfl (by decide) hx (fun g d I J n w Q hI hn k1 => c_X11_sure (D := D) (cs := cs) (S := S) hI.2.1.1 hn (fun _ => k1) (fun y_ _ => absurd y_ h0) (fun b q e_b l1 e_q l3 _ _ => absurd ⟨b, e_b, Nat.zero_le _, l1⟩ h0)) (fun g d I J n w Q hI k1 => c_X12_sure (D := D) (cs := cs) (S := S) hI.2.1.1 (fun _ => k1) (fun y_ _ => absurd y_ h0) (fun b q e_b l1 e_q l3 _ _ _ => absurd ⟨b, e_b, Nat.zero_le _, l1⟩ h0))
theorem pr_bearers {x : Int32} (hx : gOk q0) : prS 8 7 mX11_bearers mX12_bearers [.ref 1, .int x] [.ref 534, .int x] cdE q0 := by
  obtain ⟨⟨t0, T0, f0⟩, ⟨D, cs, S, B, kB, rr⟩, pp, cn⟩ := q0
  by_cases h0 : iv 0 (cc D) x
  · exact ask_ok (nI (bs (fun b => brs D cs S b (xN x) 0) (cb D))) hx
      (fun g d I J n w Q hI hn k1 => c_X11_bearers (D := D) (cs := cs) (S := S) hI.2.1.1 hn (fun z => absurd h0 z) (fun c e_c l1 I9 kk => by
        have hb7 := hI.2.1.1.2.1.1
        have hc12 := hI.2.1.1.2.1.2.1
        have p1 := p2_12 (show cb D ≤ 12 by have hb8 : cb D ≤ 7 := hb7; omega)
        have p2 := p2_12 (show cc D ≤ 12 from hc12)
        have E_c : xN x = c := by rw [e_c]; exact nI_clamp (by have h7 : cb D ≤ 7 := hb7; have h12 : cc D ≤ 12 := hc12; omega)
        have h := k1 I9 kk
        rw [E_c] at h; exact h))
      (fun g d I J n w Q hI k1 => c_X12_bearers (D := D) (cs := cs) (S := S) hI.2.1.1 (fun z => absurd h0 z) (fun c e_c l1 I9 kk h00 => by
        have hb7 := hI.2.1.1.2.1.1
        have hc12 := hI.2.1.1.2.1.2.1
        have p1 := p2_12 (show cb D ≤ 12 by have hb8 : cb D ≤ 7 := hb7; omega)
        have p2 := p2_12 (show cc D ≤ 12 from hc12)
        have E_c : xN x = c := by rw [e_c]; exact nI_clamp (by have h7 : cb D ≤ 7 := hb7; have h12 : cc D ≤ 12 := hc12; omega)
        have h := k1 I9 kk h00
        rw [E_c] at h; exact h))
  · exact ask_no 0 1 (by decide) rfl (by decide) hx (fun g d I J n w Q hI hn k1 => c_X11_bearers (D := D) (cs := cs) (S := S) hI.2.1.1 hn (fun _ => k1) (fun c e_c l1 _ _ => absurd ⟨c, e_c, Nat.zero_le _, l1⟩ h0)) (fun g d I J n w Q hI k1 => c_X12_bearers (D := D) (cs := cs) (S := S) hI.2.1.1 (fun _ => k1) (fun c e_c l1 _ _ _ => absurd ⟨c, e_c, Nat.zero_le _, l1⟩ h0))
theorem pr_rumour {x y : Int32} (hx : gOk q0) : prS 8 2 mX11_rumour mX12_rumour [.ref 1, .int x, .int y] [.ref 534, .int x, .int y] cdB q0 := by
  obtain ⟨⟨t0, T0, f0⟩, ⟨D, cs, S, B, kB, rr⟩, pp, cn⟩ := q0
  by_cases h0 : iv 0 (cc D) x
  · by_cases h1 : iv 0 (2) y
    · exact ask_ok (vPk (mxr (fun b => ob (sK S b (xN x))) (cb D)) (xN y)) hx
        (fun g d I J n w Q hI hn k1 => c_X11_rumour (D := D) (cs := cs) (S := S) hI.2.1.1 hn (fun z => absurd h0 z) (fun _ z => absurd h1 z) (fun c q e_c l1 e_q l3 I9 kk => by
          have hb7 := hI.2.1.1.2.1.1
          have hc12 := hI.2.1.1.2.1.2.1
          have p1 := p2_12 (show cb D ≤ 12 by have hb8 : cb D ≤ 7 := hb7; omega)
          have p2 := p2_12 (show cc D ≤ 12 from hc12)
          have E_c : xN x = c := by rw [e_c]; exact nI_clamp (by have h7 : cb D ≤ 7 := hb7; have h12 : cc D ≤ 12 := hc12; omega)
          have E_q : xN y = q := by rw [e_q]; exact nI_clamp (by have h7 : cb D ≤ 7 := hb7; have h12 : cc D ≤ 12 := hc12; omega)
          have h := k1 I9 kk
          rw [E_c, E_q] at h; exact h))
        (fun g d I J n w Q hI k1 => c_X12_rumour (D := D) (cs := cs) (S := S) hI.2.1.1 (fun z => absurd h0 z) (fun _ z => absurd h1 z) (fun c q e_c l1 e_q l3 I9 kk h00 => by
          have hb7 := hI.2.1.1.2.1.1
          have hc12 := hI.2.1.1.2.1.2.1
          have p1 := p2_12 (show cb D ≤ 12 by have hb8 : cb D ≤ 7 := hb7; omega)
          have p2 := p2_12 (show cc D ≤ 12 from hc12)
          have E_c : xN x = c := by rw [e_c]; exact nI_clamp (by have h7 : cb D ≤ 7 := hb7; have h12 : cc D ≤ 12 := hc12; omega)
          have E_q : xN y = q := by rw [e_q]; exact nI_clamp (by have h7 : cb D ≤ 7 := hb7; have h12 : cc D ≤ 12 := hc12; omega)
          have h := k1 I9 kk h00
          rw [E_c, E_q] at h; exact h))
    · exact ask_no 1 2 (by decide) rfl (by decide) hx (fun g d I J n w Q hI hn k1 => c_X11_rumour (D := D) (cs := cs) (S := S) hI.2.1.1 hn (fun z => absurd h0 z) (fun _ _ => k1) (fun c q e_c l1 e_q l3 _ _ => absurd ⟨q, e_q, Nat.zero_le _, l3⟩ h1)) (fun g d I J n w Q hI k1 => c_X12_rumour (D := D) (cs := cs) (S := S) hI.2.1.1 (fun z => absurd h0 z) (fun _ _ => k1) (fun c q e_c l1 e_q l3 _ _ _ => absurd ⟨q, e_q, Nat.zero_le _, l3⟩ h1))
  · exact ask_no 0 1 (by decide) rfl (by decide) hx (fun g d I J n w Q hI hn k1 => c_X11_rumour (D := D) (cs := cs) (S := S) hI.2.1.1 hn (fun _ => k1) (fun y_ _ => absurd y_ h0) (fun c q e_c l1 e_q l3 _ _ => absurd ⟨c, e_c, Nat.zero_le _, l1⟩ h0)) (fun g d I J n w Q hI k1 => c_X12_rumour (D := D) (cs := cs) (S := S) hI.2.1.1 (fun _ => k1) (fun y_ _ => absurd y_ h0) (fun c q e_c l1 e_q l3 _ _ _ => absurd ⟨c, e_c, Nat.zero_le _, l1⟩ h0))
theorem pr_lied {x y : Int32} (hx : gOk q0) : prS 8 2 mX11_lied mX12_lied [.ref 1, .int x, .int y] [.ref 534, .int x, .int y] cdA q0 := by
  obtain ⟨⟨t0, T0, f0⟩, ⟨D, cs, S, B, kB, rr⟩, pp, cn⟩ := q0
  by_cases h0 : iv 0 (10) x
  · by_cases h1 : iv 0 (2) y
    · exact ask_ok (nI (bs (pL D S (xN x) (xN y)) (cc D))) hx
        (fun g d I J n w Q hI hn k1 => c_X11_lied (D := D) (cs := cs) (S := S) hI.2.1.1 hn (fun z => absurd h0 z) (fun _ z => absurd h1 z) (fun k q e_k l1 e_q l3 I9 kk => by
          have hb7 := hI.2.1.1.2.1.1
          have hc12 := hI.2.1.1.2.1.2.1
          have p1 := p2_12 (show cb D ≤ 12 by have hb8 : cb D ≤ 7 := hb7; omega)
          have p2 := p2_12 (show cc D ≤ 12 from hc12)
          have E_k : xN x = k := by rw [e_k]; exact nI_clamp (by have h7 : cb D ≤ 7 := hb7; have h12 : cc D ≤ 12 := hc12; omega)
          have E_q : xN y = q := by rw [e_q]; exact nI_clamp (by have h7 : cb D ≤ 7 := hb7; have h12 : cc D ≤ 12 := hc12; omega)
          have h := k1 I9 kk
          rw [E_k, E_q] at h; exact h))
        (fun g d I J n w Q hI k1 => c_X12_lied (D := D) (cs := cs) (S := S) hI.2.1.1 (fun z => absurd h0 z) (fun _ z => absurd h1 z) (fun k q e_k l1 e_q l3 I9 kk h00 => by
          have hb7 := hI.2.1.1.2.1.1
          have hc12 := hI.2.1.1.2.1.2.1
          have p1 := p2_12 (show cb D ≤ 12 by have hb8 : cb D ≤ 7 := hb7; omega)
          have p2 := p2_12 (show cc D ≤ 12 from hc12)
          have E_k : xN x = k := by rw [e_k]; exact nI_clamp (by have h7 : cb D ≤ 7 := hb7; have h12 : cc D ≤ 12 := hc12; omega)
          have E_q : xN y = q := by rw [e_q]; exact nI_clamp (by have h7 : cb D ≤ 7 := hb7; have h12 : cc D ≤ 12 := hc12; omega)
          have h := k1 I9 kk h00
          rw [E_k, E_q] at h; exact h))
    · exact ask_no 1 1 (by decide) rfl (by decide) hx (fun g d I J n w Q hI hn k1 => c_X11_lied (D := D) (cs := cs) (S := S) hI.2.1.1 hn (fun z => absurd h0 z) (fun _ _ => k1) (fun k q e_k l1 e_q l3 _ _ => absurd ⟨q, e_q, Nat.zero_le _, l3⟩ h1)) (fun g d I J n w Q hI k1 => c_X12_lied (D := D) (cs := cs) (S := S) hI.2.1.1 (fun z => absurd h0 z) (fun _ _ => k1) (fun k q e_k l1 e_q l3 _ _ _ => absurd ⟨q, e_q, Nat.zero_le _, l3⟩ h1))
  · exact ask_no 1 1 (by decide) rfl (by decide) hx (fun g d I J n w Q hI hn k1 => c_X11_lied (D := D) (cs := cs) (S := S) hI.2.1.1 hn (fun _ => k1) (fun y_ _ => absurd y_ h0) (fun k q e_k l1 e_q l3 _ _ => absurd ⟨k, e_k, Nat.zero_le _, l1⟩ h0)) (fun g d I J n w Q hI k1 => c_X12_lied (D := D) (cs := cs) (S := S) hI.2.1.1 (fun _ => k1) (fun y_ _ => absurd y_ h0) (fun k q e_k l1 e_q l3 _ _ _ => absurd ⟨k, e_k, Nat.zero_le _, l1⟩ h0))
theorem pr_reign {x y z u : Int32} (hx : gOk q0) : prS 9 8 mX11_reign mX12_reign [.ref 1, .int x, .int y, .int z, .int u] [.ref 534, .int x, .int y, .int z, .int u] cdA q0 := by
  obtain ⟨⟨t0, T0, f0⟩, ⟨D, cs, S, B, kB, rr⟩, pp, cn⟩ := q0
  by_cases h0 : iv 0 (17) y
  · by_cases h1 : iv 1 (49) z
    · by_cases h2 : iv 0 (4) u
      · exact ask_ok (vRg (rgn D cs (xN y) (xN z) (x, 0, S)) (xN u)) hx
          (fun g d I J n w Q hI hn k1 => c_X11_reign (D := D) (cs := cs) (S := S) hI.2.1.1 hn (fun z => absurd h0 z) (fun _ z => absurd h1 z) (fun _ _ z => absurd h2 z) (fun q m a e_q l1 e_m l3 l4 e_a l6 I9 kk => by
            have hb7 := hI.2.1.1.2.1.1
            have hc12 := hI.2.1.1.2.1.2.1
            have p1 := p2_12 (show cb D ≤ 12 by have hb8 : cb D ≤ 7 := hb7; omega)
            have p2 := p2_12 (show cc D ≤ 12 from hc12)
            have E_q : xN y = q := by rw [e_q]; exact nI_clamp (by have h7 : cb D ≤ 7 := hb7; have h12 : cc D ≤ 12 := hc12; omega)
            have E_m : xN z = m := by rw [e_m]; exact nI_clamp (by have h7 : cb D ≤ 7 := hb7; have h12 : cc D ≤ 12 := hc12; omega)
            have E_a : xN u = a := by rw [e_a]; exact nI_clamp (by have h7 : cb D ≤ 7 := hb7; have h12 : cc D ≤ 12 := hc12; omega)
            have h := k1 I9 kk
            rw [E_q, E_m, E_a] at h; exact h))
          (fun g d I J n w Q hI k1 => c_X12_reign (D := D) (cs := cs) (S := S) hI.2.1.1 (fun z => absurd h0 z) (fun _ z => absurd h1 z) (fun _ _ z => absurd h2 z) (fun q m a e_q l1 e_m l3 l4 e_a l6 I9 kk h00 => by
            have hb7 := hI.2.1.1.2.1.1
            have hc12 := hI.2.1.1.2.1.2.1
            have p1 := p2_12 (show cb D ≤ 12 by have hb8 : cb D ≤ 7 := hb7; omega)
            have p2 := p2_12 (show cc D ≤ 12 from hc12)
            have E_q : xN y = q := by rw [e_q]; exact nI_clamp (by have h7 : cb D ≤ 7 := hb7; have h12 : cc D ≤ 12 := hc12; omega)
            have E_m : xN z = m := by rw [e_m]; exact nI_clamp (by have h7 : cb D ≤ 7 := hb7; have h12 : cc D ≤ 12 := hc12; omega)
            have E_a : xN u = a := by rw [e_a]; exact nI_clamp (by have h7 : cb D ≤ 7 := hb7; have h12 : cc D ≤ 12 := hc12; omega)
            have h := k1 I9 kk h00
            rw [E_q, E_m, E_a] at h; exact h))
      · exact ask_no 1 1 (by decide) rfl (by decide) hx (fun g d I J n w Q hI hn k1 => c_X11_reign (D := D) (cs := cs) (S := S) hI.2.1.1 hn (fun z => absurd h0 z) (fun _ z => absurd h1 z) (fun _ _ _ => k1) (fun q m a e_q l1 e_m l3 l4 e_a l6 _ _ => absurd ⟨a, e_a, Nat.zero_le _, l6⟩ h2)) (fun g d I J n w Q hI k1 => c_X12_reign (D := D) (cs := cs) (S := S) hI.2.1.1 (fun z => absurd h0 z) (fun _ z => absurd h1 z) (fun _ _ _ => k1) (fun q m a e_q l1 e_m l3 l4 e_a l6 _ _ _ => absurd ⟨a, e_a, Nat.zero_le _, l6⟩ h2))
    · exact ask_no 1 1 (by decide) rfl (by decide) hx (fun g d I J n w Q hI hn k1 => c_X11_reign (D := D) (cs := cs) (S := S) hI.2.1.1 hn (fun z => absurd h0 z) (fun _ _ => k1) (fun _ y_ _ => absurd y_ h1) (fun q m a e_q l1 e_m l3 l4 e_a l6 _ _ => absurd ⟨m, e_m, l3, l4⟩ h1)) (fun g d I J n w Q hI k1 => c_X12_reign (D := D) (cs := cs) (S := S) hI.2.1.1 (fun z => absurd h0 z) (fun _ _ => k1) (fun _ y_ _ => absurd y_ h1) (fun q m a e_q l1 e_m l3 l4 e_a l6 _ _ _ => absurd ⟨m, e_m, l3, l4⟩ h1))
  · exact ask_no 1 1 (by decide) rfl (by decide) hx (fun g d I J n w Q hI hn k1 => c_X11_reign (D := D) (cs := cs) (S := S) hI.2.1.1 hn (fun _ => k1) (fun y_ _ => absurd y_ h0) (fun y_ _ _ => absurd y_ h0) (fun q m a e_q l1 e_m l3 l4 e_a l6 _ _ => absurd ⟨q, e_q, Nat.zero_le _, l1⟩ h0)) (fun g d I J n w Q hI k1 => c_X12_reign (D := D) (cs := cs) (S := S) hI.2.1.1 (fun _ => k1) (fun y_ _ => absurd y_ h0) (fun y_ _ _ => absurd y_ h0) (fun q m a e_q l1 e_m l3 l4 e_a l6 _ _ _ => absurd ⟨q, e_q, Nat.zero_le _, l1⟩ h0))
theorem pr_span {x y z u v5 v6 : Int32} (hx : gOk q0) : prS 9 8 mX11_span mX12_span [.ref 1, .int x, .int y, .int z, .int u, .int v5, .int v6] [.ref 534, .int x, .int y, .int z, .int u, .int v5, .int v6] cdA q0 := by
  obtain ⟨⟨t0, T0, f0⟩, ⟨D, cs, S, B, kB, rr⟩, pp, cn⟩ := q0
  by_cases h0 : iv 1 (11) y
  · by_cases h1 : iv 0 (17) z
    · by_cases h2 : iv 1 (49) u
      · by_cases h3 : iv 0 (3) v5
        · by_cases h4 : iv 0 (cb D) v6
          · exact ask_ok (vSp D cs S x (xN y) (xN z) (xN u) (xN v5) (xN v6)) hx
              (fun g d I J n w Q hI hn k1 => c_X11_span (D := D) (cs := cs) (S := S) hI.2.1.1 hn (fun z => absurd h0 z) (fun _ z => absurd h1 z) (fun _ _ z => absurd h2 z) (fun _ _ _ z => absurd h3 z) (fun _ _ _ _ z => absurd h4 z) (fun l q m a b e_l l1 l2 e_q l4 e_m l6 l7 e_a l9 e_b l11 I9 kk => by
                have hb7 := hI.2.1.1.2.1.1
                have hc12 := hI.2.1.1.2.1.2.1
                have p1 := p2_12 (show cb D ≤ 12 by have hb8 : cb D ≤ 7 := hb7; omega)
                have p2 := p2_12 (show cc D ≤ 12 from hc12)
                have E_l : xN y = l := by rw [e_l]; exact nI_clamp (by have h7 : cb D ≤ 7 := hb7; have h12 : cc D ≤ 12 := hc12; omega)
                have E_q : xN z = q := by rw [e_q]; exact nI_clamp (by have h7 : cb D ≤ 7 := hb7; have h12 : cc D ≤ 12 := hc12; omega)
                have E_m : xN u = m := by rw [e_m]; exact nI_clamp (by have h7 : cb D ≤ 7 := hb7; have h12 : cc D ≤ 12 := hc12; omega)
                have E_a : xN v5 = a := by rw [e_a]; exact nI_clamp (by have h7 : cb D ≤ 7 := hb7; have h12 : cc D ≤ 12 := hc12; omega)
                have E_b : xN v6 = b := by rw [e_b]; exact nI_clamp (by have h7 : cb D ≤ 7 := hb7; have h12 : cc D ≤ 12 := hc12; omega)
                have h := k1 I9 kk
                rw [E_l, E_q, E_m, E_a, E_b] at h; exact h))
              (fun g d I J n w Q hI k1 => c_X12_span (D := D) (cs := cs) (S := S) hI.2.1.1 (fun z => absurd h0 z) (fun _ z => absurd h1 z) (fun _ _ z => absurd h2 z) (fun _ _ _ z => absurd h3 z) (fun _ _ _ _ z => absurd h4 z) (fun l q m a b e_l l1 l2 e_q l4 e_m l6 l7 e_a l9 e_b l11 I9 kk h00 => by
                have hb7 := hI.2.1.1.2.1.1
                have hc12 := hI.2.1.1.2.1.2.1
                have p1 := p2_12 (show cb D ≤ 12 by have hb8 : cb D ≤ 7 := hb7; omega)
                have p2 := p2_12 (show cc D ≤ 12 from hc12)
                have E_l : xN y = l := by rw [e_l]; exact nI_clamp (by have h7 : cb D ≤ 7 := hb7; have h12 : cc D ≤ 12 := hc12; omega)
                have E_q : xN z = q := by rw [e_q]; exact nI_clamp (by have h7 : cb D ≤ 7 := hb7; have h12 : cc D ≤ 12 := hc12; omega)
                have E_m : xN u = m := by rw [e_m]; exact nI_clamp (by have h7 : cb D ≤ 7 := hb7; have h12 : cc D ≤ 12 := hc12; omega)
                have E_a : xN v5 = a := by rw [e_a]; exact nI_clamp (by have h7 : cb D ≤ 7 := hb7; have h12 : cc D ≤ 12 := hc12; omega)
                have E_b : xN v6 = b := by rw [e_b]; exact nI_clamp (by have h7 : cb D ≤ 7 := hb7; have h12 : cc D ≤ 12 := hc12; omega)
                have h := k1 I9 kk h00
                rw [E_l, E_q, E_m, E_a, E_b] at h; exact h))
          · exact ask_no 1 1 (by decide) rfl (by decide) hx (fun g d I J n w Q hI hn k1 => c_X11_span (D := D) (cs := cs) (S := S) hI.2.1.1 hn (fun z => absurd h0 z) (fun _ z => absurd h1 z) (fun _ _ z => absurd h2 z) (fun _ _ _ z => absurd h3 z) (fun _ _ _ _ _ => k1) (fun l q m a b e_l l1 l2 e_q l4 e_m l6 l7 e_a l9 e_b l11 _ _ => absurd ⟨b, e_b, Nat.zero_le _, l11⟩ h4)) (fun g d I J n w Q hI k1 => c_X12_span (D := D) (cs := cs) (S := S) hI.2.1.1 (fun z => absurd h0 z) (fun _ z => absurd h1 z) (fun _ _ z => absurd h2 z) (fun _ _ _ z => absurd h3 z) (fun _ _ _ _ _ => k1) (fun l q m a b e_l l1 l2 e_q l4 e_m l6 l7 e_a l9 e_b l11 _ _ _ => absurd ⟨b, e_b, Nat.zero_le _, l11⟩ h4))
        · exact ask_no 1 1 (by decide) rfl (by decide) hx (fun g d I J n w Q hI hn k1 => c_X11_span (D := D) (cs := cs) (S := S) hI.2.1.1 hn (fun z => absurd h0 z) (fun _ z => absurd h1 z) (fun _ _ z => absurd h2 z) (fun _ _ _ _ => k1) (fun _ _ _ y_ _ => absurd y_ h3) (fun l q m a b e_l l1 l2 e_q l4 e_m l6 l7 e_a l9 e_b l11 _ _ => absurd ⟨a, e_a, Nat.zero_le _, l9⟩ h3)) (fun g d I J n w Q hI k1 => c_X12_span (D := D) (cs := cs) (S := S) hI.2.1.1 (fun z => absurd h0 z) (fun _ z => absurd h1 z) (fun _ _ z => absurd h2 z) (fun _ _ _ _ => k1) (fun _ _ _ y_ _ => absurd y_ h3) (fun l q m a b e_l l1 l2 e_q l4 e_m l6 l7 e_a l9 e_b l11 _ _ _ => absurd ⟨a, e_a, Nat.zero_le _, l9⟩ h3))
      · exact ask_no 1 1 (by decide) rfl (by decide) hx (fun g d I J n w Q hI hn k1 => c_X11_span (D := D) (cs := cs) (S := S) hI.2.1.1 hn (fun z => absurd h0 z) (fun _ z => absurd h1 z) (fun _ _ _ => k1) (fun _ _ y_ _ => absurd y_ h2) (fun _ _ y_ _ _ => absurd y_ h2) (fun l q m a b e_l l1 l2 e_q l4 e_m l6 l7 e_a l9 e_b l11 _ _ => absurd ⟨m, e_m, l6, l7⟩ h2)) (fun g d I J n w Q hI k1 => c_X12_span (D := D) (cs := cs) (S := S) hI.2.1.1 (fun z => absurd h0 z) (fun _ z => absurd h1 z) (fun _ _ _ => k1) (fun _ _ y_ _ => absurd y_ h2) (fun _ _ y_ _ _ => absurd y_ h2) (fun l q m a b e_l l1 l2 e_q l4 e_m l6 l7 e_a l9 e_b l11 _ _ _ => absurd ⟨m, e_m, l6, l7⟩ h2))
    · exact ask_no 1 1 (by decide) rfl (by decide) hx (fun g d I J n w Q hI hn k1 => c_X11_span (D := D) (cs := cs) (S := S) hI.2.1.1 hn (fun z => absurd h0 z) (fun _ _ => k1) (fun _ y_ _ => absurd y_ h1) (fun _ y_ _ _ => absurd y_ h1) (fun _ y_ _ _ _ => absurd y_ h1) (fun l q m a b e_l l1 l2 e_q l4 e_m l6 l7 e_a l9 e_b l11 _ _ => absurd ⟨q, e_q, Nat.zero_le _, l4⟩ h1)) (fun g d I J n w Q hI k1 => c_X12_span (D := D) (cs := cs) (S := S) hI.2.1.1 (fun z => absurd h0 z) (fun _ _ => k1) (fun _ y_ _ => absurd y_ h1) (fun _ y_ _ _ => absurd y_ h1) (fun _ y_ _ _ _ => absurd y_ h1) (fun l q m a b e_l l1 l2 e_q l4 e_m l6 l7 e_a l9 e_b l11 _ _ _ => absurd ⟨q, e_q, Nat.zero_le _, l4⟩ h1))
  · exact ask_no 1 1 (by decide) rfl (by decide) hx (fun g d I J n w Q hI hn k1 => c_X11_span (D := D) (cs := cs) (S := S) hI.2.1.1 hn (fun _ => k1) (fun y_ _ => absurd y_ h0) (fun y_ _ _ => absurd y_ h0) (fun y_ _ _ _ => absurd y_ h0) (fun y_ _ _ _ _ => absurd y_ h0) (fun l q m a b e_l l1 l2 e_q l4 e_m l6 l7 e_a l9 e_b l11 _ _ => absurd ⟨l, e_l, l1, l2⟩ h0)) (fun g d I J n w Q hI k1 => c_X12_span (D := D) (cs := cs) (S := S) hI.2.1.1 (fun _ => k1) (fun y_ _ => absurd y_ h0) (fun y_ _ _ => absurd y_ h0) (fun y_ _ _ _ => absurd y_ h0) (fun y_ _ _ _ _ => absurd y_ h0) (fun l q m a b e_l l1 l2 e_q l4 e_m l6 l7 e_a l9 e_b l11 _ _ _ => absurd ⟨l, e_l, l1, l2⟩ h0))
end S
