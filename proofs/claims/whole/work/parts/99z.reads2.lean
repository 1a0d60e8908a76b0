section S
variable {g : aG} {d : Nat} {I : Nat → Nat → Int32} {J : Nat → Nat → Int64} {n w : Nat} {Q : aO → aS → Prop}
variable {q0 : gX} {S S' : sD} {D : cD} {cs : List Nat} {I' K : Nat → Nat → Int32}
theorem sk_N {t : Nat → Nat} {N : Nat} : sk t N 0 ≤ N := sk_le (Nat.zero_le _)
theorem pr_law {x : Int32} (hx : gOk q0) : prS 34 33 mX11_law mX12_law [.ref 1, .int x] [.ref 534, .int x] cdA q0 := by
  obtain ⟨⟨t0, T0, f0⟩, ⟨D, cs, S, B, kB, rr⟩, ⟨ww, PP, mm, wI, SI, PI⟩, ca, cz⟩ := q0
  by_cases hT6 : T0 ≤ 600
  · have hm := Nat.min_le_left T0 150
    have hm2 := Nat.min_le_right T0 150
    have hrg := rng2 (x := x) (L := 150) hT6 (by omega)
    by_cases hr : ¬ x < 0 ∧ ¬ nI (min T0 150) < x
    · have hr2 := hrg.mp hr
      obtain ⟨N, rfl, hN⟩ := x_N (T := min T0 150) (by omega) hr.1 hr.2
      cases hc : rLw t0 N (sk t0 N 0) with
      | inl e =>
        refine ⟨((t0, 0, nI e.2), (D, cs, S, B, kB, rr), (ww, PP, mm, wI, SI, PI), ca, cz), .inl (nI e.1 - 10), hx, noX, fun g d I J n w Q hI hn k1 _ => c_X11_law (t := t0) (T := T0) hI.1.1 hn (fun z => absurd hr z) (fun N9 e9 I9 a9 wf9 wt9 eN lN e1 hf => ?_) (fun N9 D9 I9 a9 wf9 wt9 eN lN e1 hf _ => ?_), fun g d I J n w Q hI k1 _ => c_X12_law (t := t0) (T := T0) hI.1.1 hT6 hI.1.2.2.1 (fun z => absurd hr2 z) (fun N9 e9 I9 eN lN _ e1 hf h0 h2 h8 => ?_) (fun N9 D9 I9 eN lN _ e1 _ hf _ _ _ _ => ?_)⟩
        all_goals
          have eN2 : N = N9 := (nI_eq (by omega) (by omega)).mp eN
          subst eN2
          rw [hc] at e1
          cases e1
        · exact k1 _ _ rfl (rd_cI hx hI hf) (fun a j z => rd_c hf (by omega) (by omega))
        · exact k1 _ I9 rfl (rd_m hI hf h2 h8) (gM_l hf) h0
      | inr c2 =>
        have hok := rLw_ok sk_N (by omega) hc
        refine ⟨((t0, 0, -1), (D, c2, S, B, kB, rr), (ww, PP, mm, wI, SI, PI), ca, cz), .inl 1, hx, noX, fun g d I J n w Q hI hn k1 _ => c_X11_law (t := t0) (T := T0) hI.1.1 hn (fun z => absurd hr z) (fun N9 e9 I9 a9 wf9 wt9 eN lN e1 hf => ?_) (fun N9 D9 I9 a9 wf9 wt9 eN lN e1 hf hL => ?_), fun g d I J n w Q hI k1 _ => c_X12_law (t := t0) (T := T0) hI.1.1 hT6 hI.1.2.2.1 (fun z => absurd hr2 z) (fun N9 e9 I9 eN lN _ e1 hf h0 h2 h8 => ?_) (fun N9 D9 I9 eN lN _ e1 _ hf h0 h2 h8 hL => ?_)⟩
        all_goals
          have eN2 : N = N9 := (nI_eq (by omega) (by omega)).mp eN
          subst eN2
          rw [hc] at e1
          cases e1
        · have hh := rd_cI (t := t0) (a := a9) (wf := wf9) (wt := wt9) (fk := 0) (fp := -1) hx hI hf
          refine k1 _ _ rfl ⟨tpC_f hh.1 (fun a j z => (up_a (by unfold kT at z; omega)).trans (cp_ne (by unfold kT at z; omega))), ⟨⟨Co_fr hh.2.1.1.1 (fun a j _ _ => (up_a (by omega)).trans (cp_ne (by omega))), hh.2.1.1.2.1, ⟨up_s.trans ((tp_o (Or.inl (by decide))).trans hL.1), fun i hi => ?_⟩, ⟨hok.1, hok.2.1⟩, Sc_fr hh.2.1.1.2.2.2.2.1 (fun a j _ _ => (up_a (by omega)).trans (cp_ne (by omega))), hh.2.1.1.2.2.2.2.2⟩, ⟨(up_a (by decide)).trans ((cp_ne (by decide)).trans hh.2.1.2.1.1), fun b hb => (up_a (by decide)).trans ((cp_ne (by decide)).trans (hh.2.1.2.1.2 b hb))⟩, (up_a (by decide)).trans ((cp_ne (by decide)).trans hh.2.1.2.2)⟩, psC_f (psO_n hx.2.2) hh.2.2.1 (fun a j z => (up_a (by unfold kP at z; omega)).trans (cp_ne (by unfold kP at z; omega))), ctC_f hh.2.2.2 (fun a j z => (up_a (by unfold kN at z; omega)).trans (cp_ne (by unfold kN at z; omega)))⟩ (fun a j z => (up_a (by omega)).trans ((cp_ne (by omega)).trans (rd_c hf (by omega) (by omega))))
          have hi : i < c2.length := hi
          rw [up_a (by decide)]
          unfold cpI
          rw [if_pos ⟨rfl, by omega⟩, tp_o (Or.inl (by decide))]
          exact hL.2 i hi
        · have hh := rd_m (t := t0) hI hf h2 h8
          have hcl := hok.2.1
          have hfr : ∀ a j, a ≠ 543 → a ≠ 544 → (a ≠ 534 ∨ j ≠ 26) → cpI (cpI (up I9 534 26 (nI c2.length)) 541 543 c2.length) 542 544 c2.length a j = I9 a j := fun a j z1 z2 z3 => (cp_ne z2).trans ((cp_ne z1).trans (up_n3 z3))
          refine k1 _ _ rfl ⟨tpM_f hh.1 (fun a j z => hfr a j (by unfold mT at z; omega) (by unfold mT at z; omega) (by unfold mT at z; omega)), ⟨⟨Mo_fr hh.2.1.1.1 (fun a j z => hfr a j (by omega) (by omega) (by omega)), hh.2.1.1.2.1, Or.inr ⟨hok.2.2, (cp_ne (by decide)).trans ((cp_ne (by decide)).trans up_s), fun i hi => ?_⟩, ⟨hok.1, hok.2.1⟩, Sm_fr hh.2.1.1.2.2.2.2.1 (fun j _ => hfr _ _ (by decide) (by decide) (by omega)), hh.2.1.1.2.2.2.2.2⟩, (hfr _ _ (by decide) (by decide) (by decide)).trans hh.2.1.2.1, fun b hb => (hfr _ _ (by decide) (by decide) (by omega)).trans (hh.2.1.2.2.1 b hb), (hfr _ _ (by decide) (by decide) (by decide)).trans hh.2.1.2.2.2⟩, psM_f hh.2.2.1 (fun a j z => hfr a j (by unfold mP at z; omega) (by unfold mP at z; omega) (by unfold mP at z; omega)), ctM_f hh.2.2.2 (fun a j z => hfr a j (by unfold mN at z; omega) (by unfold mN at z; omega) (by unfold mN at z; omega))⟩ (fun a j z => (hfr a j (by omega) (by omega) (by omega)).trans (gM_l hf a j z)) ((hfr _ _ (by decide) (by decide) (by decide)).trans h0)
          have hi : i < c2.length := hi
          have q := hL.2 i hi
          constructor
          · rw [cp_ne (by decide)]; unfold cpI; rw [if_pos ⟨rfl, hi⟩, up_a (by decide)]; exact q.1
          · unfold cpI; rw [if_pos ⟨rfl, hi⟩, if_neg (by omega), up_a (by decide)]; exact q.2
    · exact ask_no 1 1 (by decide) rfl (by decide) hx (fun g d I J n w Q hI hn k1 => c_X11_law (t := t0) (T := T0) hI.1.1 hn (fun _ => k1) (fun N9 e9 I9 _ _ _ eN lN => absurd (inR (T := min T0 150) (by omega) eN lN) hr) (fun N9 e9 I9 _ _ _ eN lN => absurd (inR (T := min T0 150) (by omega) eN lN) hr)) (fun g d I J n w Q hI k1 => c_X12_law (t := t0) (T := T0) hI.1.1 hT6 hI.1.2.2.1 (fun _ => k1) (fun N9 e9 I9 eN lN l2 => absurd (inR (T := min T0 150) (by omega) eN (Nat.le_min.mpr ⟨lN, l2⟩)) hr) (fun N9 e9 I9 eN lN l2 => absurd (inR (T := min T0 150) (by omega) eN (Nat.le_min.mpr ⟨lN, l2⟩)) hr))
  · exact ⟨_, .inl 0, hx, noX, fun g d I J n w Q hI => absurd hI.1.1.1 hT6, fun g d I J n w Q hI => absurd hI.1.2.1 hT6⟩
theorem pr_book {x : Int32} (hx : gOk q0) : prS 8 4 mX11_book mX12_book [.ref 1, .int x] [.ref 534, .int x] cdA q0 := by
  obtain ⟨⟨t0, T0, f0⟩, ⟨D, cs, S, B, kB, rr⟩, ⟨ww, PP, mm, wI, SI, PI⟩, ca, cz⟩ := q0
  by_cases hT6 : T0 ≤ 600
  · have hm := Nat.min_le_left T0 60
    have hm2 := Nat.min_le_right T0 60
    have hrg := rng2 (x := x) (L := 60) hT6 (by omega)
    by_cases hr : ¬ x < 0 ∧ ¬ nI (min T0 60) < x
    · have hr2 := hrg.mp hr
      obtain ⟨N, rfl, hN⟩ := x_N (T := min T0 60) (by omega) hr.1 hr.2
      cases hc : rBk t0 N (cb D) 60 (sk t0 N 0) (fun _ => none) 0 with
      | inl e =>
        refine ⟨((t0, 0, nI e.2), (D, cs, S, B, kB, rr), (ww, PP, mm, wI, SI, PI), ca, cz), .inl (nI e.1 - 10), hx, noX, fun g d I J n w Q hI hn k1 _ => c_X11_book (t := t0) (T := T0) (D := D) hI.1.1 hI.2.1.1.1 hI.2.1.1.2.1 hn (fun z => absurd hr z) (fun N9 e9 I9 a9 wf9 wt9 eN lN e1 hf => ?_) (fun N9 B9 k9 I9 a9 wf9 wt9 eN lN e1 _ hf _ _ => ?_), fun g d I J n w Q hI k1 _ => c_X12_book (t := t0) (T := T0) (nb := cb D) hI.1.1 hT6 hI.1.2.2.1 hI.2.1.1.1.1 hI.2.1.1.2.1.1 (fun z => absurd hr2 z) (fun N9 e9 I9 eN lN _ e1 hf h0 h2 h8 => ?_) (fun N9 B9 k9 I9 eN lN _ e1 _ hf _ _ _ _ _ => ?_)⟩
        all_goals
          have eN2 : N = N9 := (nI_eq (by omega) (by omega)).mp eN
          subst eN2
          rw [hc] at e1
          cases e1
        · exact k1 _ _ rfl (rd_cI hx hI hf) (fun a j z => rd_c hf (by omega) (by omega))
        · exact k1 _ I9 rfl (rd_m hI hf h2 h8) (gM_l hf) h0
      | inr b2 =>
        obtain ⟨B2, k2⟩ := b2
        by_cases hB2 : bOk B2
        · refine ⟨((t0, 0, -1), (D, cs, S, B2, k2, rr), (ww, PP, mm, wI, SI, PI), ca, cz), .inl (nI k2), ⟨hB2, hx.2⟩, noX, fun g d I J n w Q hI hn k1 _ => c_X11_book (t := t0) (T := T0) (D := D) hI.1.1 hI.2.1.1.1 hI.2.1.1.2.1 hn (fun z => absurd hr z) (fun N9 e9 I9 a9 wf9 wt9 eN lN e1 hf => ?_) (fun N9 B9 k9 I9 a9 wf9 wt9 eN lN e1 _ hf hL _ => ?_), fun g d I J n w Q hI k1 _ => c_X12_book (t := t0) (T := T0) (nb := cb D) hI.1.1 hT6 hI.1.2.2.1 hI.2.1.1.1.1 hI.2.1.1.2.1.1 (fun z => absurd hr2 z) (fun N9 e9 I9 eN lN _ e1 hf h0 h2 h8 => ?_) (fun N9 B9 k9 I9 eN lN _ e1 _ hf h0 h2 h8 hL _ => ?_)⟩
          all_goals
            have eN2 : N = N9 := (nI_eq (by omega) (by omega)).mp eN
            subst eN2
            rw [hc] at e1
            cases e1
          · have hh := rd_cI (t := t0) (a := a9) (wf := wf9) (wt := wt9) (fk := 0) (fp := -1) hx hI hf
            have hfr : ∀ a j, a ≠ 23 → a ≠ 22 → up (cpI (tp I9 a9 wf9 wt9 0 (-1)) 25 23 7) 22 1 (tp I9 a9 wf9 wt9 0 (-1) 24 1) a j = tp I9 a9 wf9 wt9 0 (-1) a j := fun a j z1 z2 => (up_a z2).trans (cp_ne z1)
            refine k1 _ _ rfl ⟨tpC_f hh.1 (fun a j z => hfr a j (by unfold kT at z; omega) (by unfold kT at z; omega)), ⟨⟨Co_fr hh.2.1.1.1 (fun a j _ _ => hfr a j (by omega) (by omega)), hh.2.1.1.2.1, Lw_fr hh.2.1.1.2.2.1 (fun a j _ _ => hfr a j (by omega) (by omega)), hh.2.1.1.2.2.2.1, Sc_fr hh.2.1.1.2.2.2.2.1 (fun a j _ _ => hfr a j (by omega) (by omega)), hh.2.1.1.2.2.2.2.2⟩, ⟨up_s.trans ((tp_o (Or.inl (by decide))).trans hL.1), fun b hb => ?_⟩, (hfr _ _ (by decide) (by decide)).trans hh.2.1.2.2⟩, psC_f (psO_n hx.2.2) hh.2.2.1 (fun a j z => hfr a j (by unfold kP at z; omega) (by unfold kP at z; omega)), ctC_f hh.2.2.2 (fun a j z => hfr a j (by unfold kN at z; omega) (by unfold kN at z; omega))⟩ (fun a j z => (hfr a j (by omega) (by omega)).trans (rd_c hf (by omega) (by omega)))
            rw [up_a (by decide)]
            unfold cpI
            rw [if_pos ⟨rfl, hb⟩, tp_o (Or.inl (by decide))]
            exact hL.2 b hb
          · have hh := rd_m (t := t0) hI hf h2 h8
            have hfr : ∀ a j, a ≠ 553 → (a ≠ 534 ∨ j ≠ 41) → cpI (up I9 534 41 (nI k2)) 552 553 7 a j = I9 a j := fun a j z1 z2 => (cp_ne z1).trans (up_n3 z2)
            refine k1 _ _ rfl ⟨tpM_f hh.1 (fun a j z => hfr a j (by unfold mT at z; omega) (by unfold mT at z; omega)), ⟨⟨Mo_fr hh.2.1.1.1 (fun a j z => hfr a j (by omega) (by omega)), hh.2.1.1.2.1, Lq_fr hh.2.1.1.2.2.1 (fun a j z => hfr a j (by omega) (by omega)), hh.2.1.1.2.2.2.1, Sm_fr hh.2.1.1.2.2.2.2.1 (fun j _ => hfr _ _ (by decide) (by omega)), hh.2.1.1.2.2.2.2.2⟩, (cp_ne (by decide)).trans up_s, fun b hb => ?_, (hfr _ _ (by decide) (by decide)).trans hh.2.1.2.2.2⟩, psM_f hh.2.2.1 (fun a j z => hfr a j (by unfold mP at z; omega) (by unfold mP at z; omega)), ctM_f hh.2.2.2 (fun a j z => hfr a j (by unfold mN at z; omega) (by unfold mN at z; omega))⟩ (fun a j z => (hfr a j (by omega) (by omega)).trans (gM_l hf a j z)) ((hfr _ _ (by decide) (by decide)).trans h0)
            unfold cpI
            rw [if_pos ⟨rfl, hb⟩, up_a (by decide)]
            exact hL b hb
        · refine ⟨_, .inl 0, hx, noX, fun g d I J n w Q hI hn k1 _ => c_X11_book (t := t0) (T := T0) (D := D) hI.1.1 hI.2.1.1.1 hI.2.1.1.2.1 hn (fun z => absurd hr z) (fun N9 e9 I9 a9 wf9 wt9 eN lN e1 hf => ?_) (fun N9 B9 k9 I9 a9 wf9 wt9 eN lN e1 _ hf hL hb9 => ?_), fun g d I J n w Q hI k1 _ => c_X12_book (t := t0) (T := T0) (nb := cb D) hI.1.1 hT6 hI.1.2.2.1 hI.2.1.1.1.1 hI.2.1.1.2.1.1 (fun z => absurd hr2 z) (fun N9 e9 I9 eN lN _ e1 hf h0 h2 h8 => ?_) (fun N9 B9 k9 I9 eN lN _ e1 _ hf h0 h2 h8 hL hb9 => ?_)⟩
          all_goals
            have eN2 : N = N9 := (nI_eq (by omega) (by omega)).mp eN
            subst eN2
            rw [hc] at e1
            cases e1
          · exact absurd hb9 hB2
          · exact absurd hb9 hB2
    · exact ask_no 1 1 (by decide) rfl (by decide) hx (fun g d I J n w Q hI hn k1 => c_X11_book (t := t0) (T := T0) (D := D) hI.1.1 hI.2.1.1.1 hI.2.1.1.2.1 hn (fun _ => k1) (fun N9 e9 I9 _ _ _ eN lN => absurd (inR (T := min T0 60) (by omega) eN lN) hr) (fun N9 e9 k9 I9 _ _ _ eN lN => absurd (inR (T := min T0 60) (by omega) eN lN) hr)) (fun g d I J n w Q hI k1 => c_X12_book (t := t0) (T := T0) (nb := cb D) hI.1.1 hT6 hI.1.2.2.1 hI.2.1.1.1.1 hI.2.1.1.2.1.1 (fun _ => k1) (fun N9 e9 I9 eN lN l2 => absurd (inR (T := min T0 60) (by omega) eN (Nat.le_min.mpr ⟨lN, l2⟩)) hr) (fun N9 e9 k9 I9 eN lN l2 => absurd (inR (T := min T0 60) (by omega) eN (Nat.le_min.mpr ⟨lN, l2⟩)) hr))
  · exact ⟨_, .inl 0, hx, noX, fun g d I J n w Q hI => absurd hI.1.1.1 hT6, fun g d I J n w Q hI => absurd hI.1.2.1 hT6⟩
end S
