section S
variable {g : aG} {d : Nat} {I : Nat → Nat → Int32} {J : Nat → Nat → Int64} {n w : Nat} {Q : aO → aS → Prop}
variable {q0 : gX} {S S' : sD} {D : cD} {cs : List Nat} {I' K : Nat → Nat → Int32}
theorem wk_c {t : Nat → Nat} {y : gX} {fp : Int32} (hx : gOk y) (h : cI y I) (hf : ∀ y j, ¬ kS y j → (y ≠ 2 ∨ j = 0) → I' y j = I y j) (h1 : I' 2 1 = 0) (h7 : I' 2 7 = fp) : cI ((t, 0, fp), y.2) I' :=
  ⟨⟨⟨Nat.zero_le _, h1, fun i hi => absurd hi (Nat.not_lt_zero _)⟩, h7⟩, sgC_f h.2.1 (fun a j z => hf a j (by unfold kG at z; unfold kS; omega) (by unfold kG at z; omega)), psC_f (psO_n hx.2.2) h.2.2.1 (fun a j z => hf a j (by unfold kP at z; unfold kS; omega) (by unfold kP at z; omega)), ctC_f h.2.2.2 (fun a j z => hf a j (by unfold kN at z; unfold kS; omega) (by unfold kN at z; omega))⟩
theorem wk_m {t : Nat → Nat} {y : gX} {fp : Int32} (h : mI y I) (hf : ∀ y j, ¬ mS y j → (y ≠ 534 ∨ (j ≠ 2 ∧ j ≠ 8)) → I' y j = I y j) (h1 : I' 534 2 = 0) (h7 : I' 534 8 = fp) : mI ((t, 0, fp), y.2) I' :=
  ⟨⟨h1, Nat.zero_le _, fun i hi => absurd hi (Nat.not_lt_zero _), h7⟩, sgM_f h.2.1 (fun a j z => hf a j (by unfold mG at z; unfold mS; omega) (by unfold mG at z; omega)), psM_f h.2.2.1 (fun a j z => hf a j (by unfold mP at z; unfold mS; omega) (by unfold mP at z; omega)), ctM_f h.2.2.2 (fun a j z => hf a j (by unfold mN at z; unfold mS; omega) (by unfold mN at z; omega))⟩
theorem pr_work {x : Int32} (hx : gOk q0) : prS 26 19 mX11_work mX12_work [.ref 1, .int x] [.ref 534, .int x] cdA q0 := by
  obtain ⟨⟨t0, T0, f0⟩, ⟨D, cs, S, B, kB, rr⟩, ⟨ww, PP, mm, wI, SI, PI⟩, ca, cz⟩ := q0
  have h16 : ww ≤ 16 := hx.2.2.1
  have hm3 : mm ≤ 3 := hx.2.2.2.2.1
  have hwi : ∀ v, v < mm → wI v ≤ 16 := fun v hv => (hx.2.2.2.2.2 v hv).1
  by_cases hT6 : T0 ≤ 600
  · have hm := Nat.min_le_left T0 150
    have hm2 := Nat.min_le_right T0 150
    have hrg := rng2 (x := x) (L := 150) hT6 (by omega)
    by_cases hr : ¬ x < 0 ∧ ¬ nI (min T0 150) < x
    · have hr2 := hrg.mp hr
      by_cases e16 : ww = 16
      · exact ⟨((t0, 0, -1), (D, cs, S, B, kB, rr), (ww, PP, mm, wI, SI, PI), ca, cz), .inl (-20), hx, noX, fun g d I J n w Q hI hn k1 _ => c_X11_work (t := t0) (T := T0) (D := D) (cs := cs) (S := S) (ww := ww) hI.1.1 hI.2.1.1 hx.2.1 hI.2.2.1.1 h16 hn (fun z => absurd hr z) (fun N9 I9 _ _ _ hf h1 h7 => k1 _ I9 rfl (wk_c hx hI hf h1 h7) (fun a j z => hf a j (by unfold kS; omega) (by omega))) (fun _ _ _ _ _ z => absurd z (by omega)) (fun _ _ _ _ _ _ z => absurd z (by omega)), fun g d I J n w Q hI k1 _ => c_X12_work (t := t0) (T := T0) (D := D) (cs := cs) (S := S) (ww := ww) hI.1.1 hT6 hI.1.2.2.1 hI.2.1.1 hx.2.1 hI.2.2.1.1 h16 (fun z => absurd hr2 z) (fun N9 I9 _ _ _ _ hf h0 h1 h7 => k1 _ I9 rfl (wk_m hI hf h1 h7) (fun a j z => hf a j (by unfold mS; omega) (by omega)) h0) (fun _ _ _ _ _ _ z => absurd z (by omega)) (fun _ _ _ _ _ _ _ z => absurd z (by omega))⟩
      · obtain ⟨N, rfl, hN⟩ := x_N (T := min T0 150) (by omega) hr.1 hr.2
        cases hc : pTop t0 N (cb D) (cc D) (sk t0 N 0) with
        | inl e =>
          refine ⟨((t0, 0, nI e.2), (D, cs, S, B, kB, rr), (ww, PP, mm, wI, SI, PI), ca, cz), .inl (nI e.1 - 10), hx, noX, fun g d I J n w Q hI hn k1 _ => c_X11_work (t := t0) (T := T0) (D := D) (cs := cs) (S := S) (ww := ww) hI.1.1 hI.2.1.1 hx.2.1 hI.2.2.1.1 h16 hn (fun z => absurd hr z) (fun _ _ _ _ z => absurd z e16) (fun N9 e9 I9 eN lN _ e1 hf h1 h7 => ?_) (fun N9 q9 r9 I9 eN lN _ e1 => ?_), fun g d I J n w Q hI k1 _ => c_X12_work (t := t0) (T := T0) (D := D) (cs := cs) (S := S) (ww := ww) hI.1.1 hT6 hI.1.2.2.1 hI.2.1.1 hx.2.1 hI.2.2.1.1 h16 (fun z => absurd hr2 z) (fun _ _ _ _ _ z => absurd z e16) (fun N9 e9 I9 eN lN _ _ e1 hf h0 h1 h7 => ?_) (fun N9 q9 r9 I9 eN lN _ _ e1 => ?_)⟩
          all_goals
            have eN2 : N = N9 := (nI_eq (by omega) (by omega)).mp eN
            subst eN2
            rw [hc] at e1
            cases e1
          · exact k1 _ I9 rfl (wk_c hx hI hf h1 h7) (fun a j z => hf a j (by unfold kS; omega) (by omega))
          · exact k1 _ I9 rfl (wk_m hI hf h1 h7) (fun a j z => hf a j (by unfold mS; omega) (by omega)) h0
        | inr qt =>
          obtain ⟨q, tr⟩ := qt
          by_cases hSo : sOk D S
          · by_cases hX : xOk D (exT D cs 7 tr (S, 0, 0, 0))
            · have hg : gOk ((t0, 0, -1), (D, cs, (exT D cs 7 tr (S, 0, 0, 0)).1, B, kB, nI (exT D cs 7 tr (S, 0, 0, 0)).2.2.2), (ww + 1, (fun i => if i = ww then S else PP i), mm, wI, SI, PI), ca, cz) := ⟨hx.1, hX.2.1, by show ww + 1 ≤ 16; omega, fun i hi => by
                have hi : i < ww + 1 := hi
                show stO D (if i = ww then S else PP i)
                by_cases e : i = ww
                · rw [if_pos e]; exact ⟨hSo, hx.2.1⟩
                · rw [if_neg e]; exact hx.2.2.2.1 i (show i < ww by omega), hx.2.2.2.2⟩
              refine ⟨((t0, 0, -1), (D, cs, (exT D cs 7 tr (S, 0, 0, 0)).1, B, kB, nI (exT D cs 7 tr (S, 0, 0, 0)).2.2.2), (ww + 1, (fun i => if i = ww then S else PP i), mm, wI, SI, PI), ca, cz), .inl (nI (exT D cs 7 tr (S, 0, 0, 0)).2.2.1), hg, noX, fun g d I J n w Q hI hn k1 _ => c_X11_work (t := t0) (T := T0) (D := D) (cs := cs) (S := S) (ww := ww) hI.1.1 hI.2.1.1 hx.2.1 hI.2.2.1.1 h16 hn (fun z => absurd hr z) (fun _ _ _ _ z => absurd z e16) (fun N9 e9 I9 eN lN _ e1 hf h1 h7 => ?_) (fun N9 q9 r9 I9 eN lN _ e1 hf h1 h7 h32 h116 hS9 hSp _ => ?_), fun g d I J n w Q hI k1 _ => c_X12_work (t := t0) (T := T0) (D := D) (cs := cs) (S := S) (ww := ww) hI.1.1 hT6 hI.1.2.2.1 hI.2.1.1 hx.2.1 hI.2.2.1.1 h16 (fun z => absurd hr2 z) (fun _ _ _ _ _ z => absurd z e16) (fun N9 e9 I9 eN lN _ _ e1 hf h0 h1 h7 => ?_) (fun N9 q9 r9 I9 eN lN _ _ e1 hf h0 h1 h7 h31 h32 hS9 hSp _ => ?_)⟩
              all_goals
                have eN2 : N = N9 := (nI_eq (by omega) (by omega)).mp eN
                subst eN2
                rw [hc] at e1
                cases e1
              · refine k1 _ I9 rfl ⟨⟨⟨Nat.zero_le _, h1, fun i hi => absurd hi (Nat.not_lt_zero _)⟩, h7⟩, ⟨Wc_s hI.2.1.1 (fun a j z => hf a j (by unfold kS; omega) (by omega) (by omega) (by omega) (by omega)) hS9 hX.1, ⟨(hf 22 1 (by unfold kS; omega) (by omega) (by omega) (by omega) (by omega)).trans hI.2.1.2.1.1, fun b hb => (hf 23 b (by unfold kS; omega) (by omega) (by omega) (by omega) (by omega)).trans (hI.2.1.2.1.2 b hb)⟩, h116⟩, ⟨h32, fun i hi => ?_, (hf 1 15 (by unfold kS; omega) (by omega) (by omega) (by omega) (by omega)).trans hI.2.2.1.2.2.1, fun v hv => ?_⟩, ctC_f hI.2.2.2 (fun a j z => hf a j (by unfold kN at z; unfold kS; omega) (by unfold kN at z; omega) (by unfold kN at z; omega) (by unfold kN at z; omega) (by unfold kN at z; omega))⟩ (fun a j z => hf a j (by unfold kS; omega) (by omega) (by omega) (by omega) (by omega))
                · have hi : i < ww + 1 := hi
                  show Sc I9 (41 + 7 * i) (if i = ww then S else PP i)
                  by_cases e : i = ww
                  · rw [if_pos e, e]; exact hSp
                  · rw [if_neg e]; exact Sc_fr (hI.2.2.1.2.1 i (show i < ww by omega)) (fun a j _ _ => hf a j (by unfold kS; omega) (by omega) (by omega) (by omega) (by omega))
                · have hv : v < mm := hv
                  have q9 := hI.2.2.1.2.2.2 v hv
                  have qw := hwi v hv
                  exact ⟨(hf _ _ (by unfold kS; omega) (by omega) (by omega) (by omega) (by omega)).trans q9.1, Sc_fr q9.2.1 (fun a j _ _ => hf a j (by unfold kS; omega) (by omega) (by omega) (by omega) (by omega)), fun i hi => Sc_fr (q9.2.2 i hi) (fun a j _ _ => hf a j (by have : i < wI v := hi; unfold kS; omega) (by omega) (by omega) (by omega) (by omega))⟩
              · refine k1 _ I9 rfl ⟨⟨h1, Nat.zero_le _, fun i hi => absurd hi (Nat.not_lt_zero _), h7⟩, ⟨Wn_s hI.2.1.1 (fun a j z z2 z3 => hf a j (by unfold mG at z; unfold mS; omega) (by unfold mG at z; omega) z2 (by unfold mG at z; omega)) hS9 hX.1, (hf _ _ (by unfold mS; omega) (by omega) (by omega) (by omega)).trans hI.2.1.2.1, fun b hb => (hf _ _ (by unfold mS; omega) (by omega) (by omega) (by omega)).trans (hI.2.1.2.2.1 b hb), h32⟩, ⟨h31, fun i hi => ?_, (hf _ _ (by unfold mS; omega) (by omega) (by omega) (by omega)).trans hI.2.2.1.2.2.1, fun v hv => ?_⟩, ctM_f hI.2.2.2 (fun a j z => hf a j (by unfold mN at z; unfold mS; omega) (by unfold mN at z; omega) (by unfold mN at z; omega) (by unfold mN at z; omega))⟩ (fun a j z => hf a j (by unfold mS; omega) (by omega) (by omega) (by omega)) h0
                · have hi : i < ww + 1 := hi
                  show Sm (fun k => I9 551 (126 * i + k)) (if i = ww then S else PP i)
                  by_cases e : i = ww
                  · rw [if_pos e, e]; exact hSp
                  · rw [if_neg e]; exact Sm_fr (hI.2.2.1.2.1 i (show i < ww by omega)) (fun j hj => hf _ _ (by unfold mS; omega) (by omega) (by omega) (by omega))
                · have q9 := hI.2.2.1.2.2.2 v hv
                  exact ⟨(hf _ _ (by unfold mS; omega) (by omega) (by omega) (by omega)).trans q9.1, Sm_fr q9.2.1 (fun j _ => hf _ _ (by unfold mS; omega) (by omega) (by omega) (by omega)), fun i hi => Sm_fr (q9.2.2 i hi) (fun j _ => hf _ _ (by unfold mS; omega) (by omega) (by omega) (by omega))⟩
            · refine ⟨_, .inl 0, hx, noX, fun g d I J n w Q hI hn k1 _ => c_X11_work (t := t0) (T := T0) (D := D) (cs := cs) (S := S) (ww := ww) hI.1.1 hI.2.1.1 hx.2.1 hI.2.2.1.1 h16 hn (fun z => absurd hr z) (fun _ _ _ _ z => absurd z e16) (fun N9 e9 I9 eN lN _ e1 hf h1 h7 => ?_) (fun N9 q9 r9 I9 eN lN _ e1 hf h1 h7 h32 h116 hS9 hSp hX9 => ?_), fun g d I J n w Q hI k1 _ => c_X12_work (t := t0) (T := T0) (D := D) (cs := cs) (S := S) (ww := ww) hI.1.1 hT6 hI.1.2.2.1 hI.2.1.1 hx.2.1 hI.2.2.1.1 h16 (fun z => absurd hr2 z) (fun _ _ _ _ _ z => absurd z e16) (fun N9 e9 I9 eN lN _ _ e1 hf h0 h1 h7 => ?_) (fun N9 q9 r9 I9 eN lN _ _ e1 hf h0 h1 h7 h31 h32 hS9 hSp hX9 => ?_)⟩
              all_goals
                have eN2 : N = N9 := (nI_eq (by omega) (by omega)).mp eN
                subst eN2
                rw [hc] at e1
                cases e1
              · exact absurd hX9 hX
              · exact absurd hX9 hX
          · exact ⟨_, .inl 0, hx, noX, fun g d I J n w Q hI => absurd hI.2.1.1.2.2.2.2.2 hSo, fun g d I J n w Q hI => absurd hI.2.1.1.2.2.2.2.2 hSo⟩
    · exact ask_no 1 1 (by decide) rfl (by decide) hx (fun g d I J n w Q hI hn k1 => c_X11_work (t := t0) (T := T0) (D := D) (cs := cs) (S := S) (ww := ww) hI.1.1 hI.2.1.1 hx.2.1 hI.2.2.1.1 h16 hn (fun _ => k1) (fun N9 I9 eN lN => absurd (inR (T := min T0 150) (by omega) eN lN) hr) (fun N9 e9 I9 eN lN => absurd (inR (T := min T0 150) (by omega) eN lN) hr) (fun N9 e9 r9 I9 eN lN => absurd (inR (T := min T0 150) (by omega) eN lN) hr)) (fun g d I J n w Q hI k1 => c_X12_work (t := t0) (T := T0) (D := D) (cs := cs) (S := S) (ww := ww) hI.1.1 hT6 hI.1.2.2.1 hI.2.1.1 hx.2.1 hI.2.2.1.1 h16 (fun _ => k1) (fun N9 I9 eN lN l2 => absurd (inR (T := min T0 150) (by omega) eN (Nat.le_min.mpr ⟨lN, l2⟩)) hr) (fun N9 e9 I9 eN lN l2 => absurd (inR (T := min T0 150) (by omega) eN (Nat.le_min.mpr ⟨lN, l2⟩)) hr) (fun N9 e9 r9 I9 eN lN l2 => absurd (inR (T := min T0 150) (by omega) eN (Nat.le_min.mpr ⟨lN, l2⟩)) hr))
  · exact ⟨_, .inl 0, hx, noX, fun g d I J n w Q hI => absurd hI.1.1.1 hT6, fun g d I J n w Q hI => absurd hI.1.2.1 hT6⟩
end S
