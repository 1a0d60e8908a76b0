section S
variable {g : aG} {d : Nat} {I : Nat → Nat → Int32} {J : Nat → Nat → Int64} {n w : Nat} {Q : aO → aS → Prop}
variable {q0 : gX} {S S' : sD} {D : cD} {cs : List Nat} {I' K : Nat → Nat → Int32}
def sE : sD := (fun _ => 0, fun _ => false, fun _ => 0, fun _ => 0, fun _ _ => none, fun _ => 0, 0, 0)
theorem sE_ok : sOk D sE := ⟨fun b => ⟨Nat.zero_le _, fun _ => Nat.zero_le _, fun _ => ⟨rfl, rfl⟩⟩, fun b c h e => (by cases e), fun _ _ => rfl, Nat.zero_le _⟩
theorem inR {x : Int32} {T N : Nat} (hT : T ≤ 600) (e : x = nI N) (h : N ≤ T) : ¬ x < 0 ∧ ¬ nI T < x := by subst e; exact ⟨nI_pos (by omega), nI_nlt h (by omega)⟩
theorem rng2 {x : Int32} {T L : Nat} (hT : T ≤ 600) (hL : L ≤ 600) : (¬ x < 0 ∧ ¬ nI (min T L) < x) ↔ (¬ x < 0 ∧ ¬ nI T < x ∧ ¬ nI L < x) := by
  by_cases hx : x < 0
  · exact ⟨fun h => absurd hx h.1, fun h => absurd hx h.1⟩
  · obtain ⟨N, hN, rfl⟩ := pos_n hx
    rw [nI_ltI (by omega) hN, nI_ltI (by omega) hN, nI_ltI (by omega) hN]
    have h1 := Nat.min_le_left T L
    have h2 := Nat.min_le_right T L
    constructor
    · rintro ⟨a, b⟩; exact ⟨a, by omega, by omega⟩
    · rintro ⟨a, b, c⟩
      refine ⟨a, fun z => ?_⟩
      rcases Nat.le_total T L with q | q
      · rw [Nat.min_eq_left q] at z; omega
      · rw [Nat.min_eq_right q] at z; omega
/-- behind a reading: the cells that it leaves -/
theorem rd_c {x fk fp : Int32} {a wf wt b j : Nat} (hf : fC (up (up I 2 1 0) 2 2 x) I') (hb : b ≠ 2) (hc : b < 9 ∨ (13 < b ∧ b < 18) ∨ (21 < b ∧ b < 24) ∨ 30 < b) : tp I' a wf wt fk fp b j = I b j := by
  rw [tp_o (Or.inl hb), hf b j hc, up_a hb, up_a hb]
theorem rd_1 {x fk fp : Int32} {a wf wt : Nat} (hf : fC (up (up I 2 1 0) 2 2 x) I') : tp I' a wf wt fk fp 2 1 = nI 0 := by
  rw [tp_o (Or.inr (by decide)), hf 2 1 (by decide), up_k (by decide), up_s]; rfl
theorem rd_7 {fk fp : Int32} {a wf wt : Nat} : tp I' a wf wt fk fp 2 7 = fp := by simp [tp]
theorem rd_t {x fk fp : Int32} {a wf wt : Nat} {t : Nat → Nat} (hf : fC (up (up I 2 1 0) 2 2 x) I') : tpC (t, 0, fp) (tp I' a wf wt fk fp) := ⟨⟨Nat.zero_le _, rd_1 hf, fun i hi => absurd hi (Nat.not_lt_zero _)⟩, rd_7⟩
theorem rd_cI {x fk fp : Int32} {a wf wt : Nat} {t : Nat → Nat} {y : gX} (hx : gOk y) (h : cI y I) (hf : fC (up (up I 2 1 0) 2 2 x) I') : cI ((t, 0, fp), y.2) (tp I' a wf wt fk fp) :=
  ⟨rd_t hf, sgC_f h.2.1 (fun b j z => rd_c hf (by unfold kG at z; omega) (by unfold kG at z; omega)), psC_f (psO_n hx.2.2) h.2.2.1 (fun b j z => rd_c hf (by unfold kP at z; omega) (by unfold kP at z; omega)), ctC_f h.2.2.2 (fun b j z => rd_c hf (by unfold kN at z; omega) (by unfold kN at z; omega))⟩
theorem rd_m {t : Nat → Nat} {y : gX} {fp : Int32} (h : mI y I) (hf : gM I I') (h2 : I' 534 2 = 0) (h8 : I' 534 8 = fp) : mI ((t, 0, fp), y.2) I' :=
  ⟨⟨h2, Nat.zero_le _, fun i hi => absurd hi (Nat.not_lt_zero _), h8⟩, sgM_f h.2.1 (fun b j z => hf b j (by unfold mG at z; omega)), psM_f h.2.2.1 (fun b j z => hf b j (by unfold mP at z; omega)), ctM_f h.2.2.2 (fun b j z => hf b j (by unfold mN at z; omega))⟩
theorem gM_l (hf : gM I I') : fml I I' := fun a j z => hf a j (by omega)
theorem fl_x {a n x j : Nat} {v : Int32} (h : x ≠ a) : flI I a n v x j = I x j := by unfold flI; rw [if_neg (fun z => h z.1)]
/-- behind a new court -/
theorem stC_f {a j : Nat} (h : a = 2 ∨ 533 < a ∨ (a = 1 ∧ (j = 17 ∨ j = 18))) : stC K a j = K a j := by
  rw [stC, up_n3 (by omega), up_n3 (by omega), up_n3 (by omega), clS, up_a (by omega), up_a (by omega), up_a (by omega), fl_x (by omega), fl_x (by omega), fl_x (by omega), fl_x (by omega), fl_x (by omega), fl_x (by omega), up_a (by omega), fl_x (by omega), usL]
  rw [up_a (by omega), up_a (by omega), up_a (by omega), up_a (by omega), up_a (by omega), up_a (by omega), up_a (by omega), up_a (by omega), up_a (by omega), up_a (by omega), up_a (by omega), cpC, up_a (by omega), up_a (by omega), up_a (by omega), cp_ne (by omega), cp_ne (by omega), cp_ne (by omega), cp_ne (by omega)]
theorem stC_4 {a j : Nat} (h1 : 4 ≤ a) (h2 : a ≤ 8) : stC K a j = cpC K a j := by
  rw [stC, up_n3 (by omega), up_n3 (by omega), up_n3 (by omega), clS, up_a (by omega), up_a (by omega), up_a (by omega), fl_x (by omega), fl_x (by omega), fl_x (by omega), fl_x (by omega), fl_x (by omega), fl_x (by omega), up_a (by omega), fl_x (by omega), usL]
  rw [up_a (by omega), up_a (by omega), up_a (by omega), up_a (by omega), up_a (by omega), up_a (by omega), up_a (by omega), up_a (by omega), up_a (by omega), up_a (by omega), up_a (by omega)]
theorem stC_W {D : cD} (h : Co K 9 D) (hk : cOk D) : sgC (D, uL, sE, (fun _ => none), 0, 0) (stC K) := by
  refine ⟨⟨Co_fr (Co_cp h hk) (fun a j h1 h2 => stC_4 h1 (by omega)), hk, ⟨by simp [stC, clS, flI, usL, up]; rfl, fun i hi => ?_⟩, uL_ok, ⟨fun b hb => ?_, fun b c k _ _ e => (by cases e), fun c hc => ?_, ?_, ?_, ?_⟩, sE_ok⟩, ⟨by simp [stC, clS, flI, up]; rfl, fun b hb => ?_⟩, by simp [stC, up]⟩
  · have hi : i < 5 := hi
    rcases (show i = 0 ∨ i = 1 ∨ i = 2 ∨ i = 3 ∨ i = 4 by omega) with rfl | rfl | rfl | rfl | rfl <;> (simp [stC, clS, flI, usL, up]; rfl)
  · refine ⟨?_, ?_, ?_, ?_⟩
    · show _ = nI 0; simp [stC, clS, flI, up, hb]; rfl
    · show _ = (0 : Int32); simp [stC, clS, flI, up, hb]
    · show _ = (0 : Int32); simp [stC, clS, flI, up, hb]
    · show _ = nI (bs (fun c => false) 12); simp [stC, clS, flI, up, hb]; rfl
  · show _ = (0 : Int32); simp [stC, clS, flI, up, hc]
  · show _ = nI (bs (fun c => false) 7); simp [stC, clS, up]; rfl
  · show _ = nI 0; simp [stC, clS, up]; rfl
  · show _ = nI 0; simp [stC, clS, up]; rfl
  · show _ = (-1 : Int32); simp [stC, clS, flI, up, hb]
theorem stC_P {PP : Nat → sD} {wI : Nat → Nat} {SI : Nat → sD} {PI : Nat → Nat → sD} : psC (0, PP, 0, wI, SI, PI) (stC K) := ⟨by simp [stC, up]; rfl, fun i hi => absurd hi (Nat.not_lt_zero _), by simp [stC, up]; rfl, fun i hi => absurd hi (Nat.not_lt_zero _)⟩
theorem stM_9 {j : Nat} (h : j < 126) : stM K 549 j = if j < 84 then -1 else 0 := by unfold stM nwI; rw [if_pos ⟨rfl, h⟩]
theorem stM_f {a j : Nat} (h : a < 534 ∨ a = 535 ∨ a = 536 ∨ (a = 534 ∧ (j = 0 ∨ j = 2 ∨ j = 8))) : stM K a j = K a j := by
  unfold stM nwI
  rw [if_neg (by omega), fl_x (by omega), up_n3 (by omega), up_n3 (by omega), up_n3 (by omega), up_n3 (by omega), up_n3 (by omega), cp_ne (by omega), cp_ne (by omega), up_n3 (by omega), up_n3 (by omega), up_n3 (by omega)]
theorem stM_W {D : cD} (h : Mo K 14 537 538 D) (hk : cOk D) : sgM (D, uL, sE, (fun _ => none), 0, 0) (stM K) := by
  have hb7 := hk.1
  have hc12 := hk.2.1
  refine ⟨⟨⟨?_, ?_, ?_, fun b hb => ?_, fun c hc => ?_⟩, hk, Or.inl ⟨by simp [stM, nwI, flI, up], rfl⟩, uL_ok, ⟨fun b hb => ?_, fun b c hb hc => ?_, fun c hc => ?_, ?_, ?_⟩, sE_ok⟩, by simp [stM, nwI, flI, up]; rfl, fun b hb => ?_, by simp [stM, nwI, flI, up]⟩
  · simp [stM, nwI, flI, up, cpI]; exact h.1
  · simp [stM, nwI, flI, up, cpI]; exact h.2.1
  · simp [stM, nwI, flI, up, cpI]; exact h.2.2.1
  · have hb : b < cb D := hb
    have q := h.2.2.2.1 b hb
    have z1 : 2 * b < 14 := by omega
    have z2 : 2 * b + 1 < 14 := by omega
    exact ⟨by simp [stM, nwI, flI, up, cpI, z1]; exact q.1, by simp [stM, nwI, flI, up, cpI, z2]; exact q.2⟩
  · have hc : c < cc D := hc
    have q := h.2.2.2.2 c hc
    have z1 : 2 * c < 24 := by omega
    have z2 : 2 * c + 1 < 24 := by omega
    exact ⟨by simp [stM, nwI, flI, up, cpI, z1]; exact q.1, by simp [stM, nwI, flI, up, cpI, z2]; exact q.2⟩
  · refine ⟨?_, ?_, ?_, ?_⟩
    · show _ = nI 0; rw [stM_9 (by omega), if_neg (by omega)]; rfl
    · show _ = (if false = true then 1 else 0 : Int32); rw [stM_9 (by omega), if_neg (by omega)]; rfl
    · show _ = (0 : Int32); rw [stM_9 (by omega), if_neg (by omega)]
    · show _ = (0 : Int32); rw [stM_9 (by omega), if_neg (by omega)]
  · show _ = (-1 : Int32); rw [stM_9 (by omega), if_pos (by omega)]
  · show _ = (0 : Int32); rw [stM_9 (by omega), if_neg (by omega)]
  · show _ = nI 0; rw [stM_9 (by omega), if_neg (by omega)]; rfl
  · show _ = nI 0; rw [stM_9 (by omega), if_neg (by omega)]; rfl
  · show _ = (-1 : Int32); simp [stM, nwI, flI, hb]
theorem stM_P {PP : Nat → sD} {wI : Nat → Nat} {SI : Nat → sD} {PI : Nat → Nat → sD} : psM (0, PP, 0, wI, SI, PI) (stM K) := ⟨by simp [stM, nwI, flI, up]; rfl, fun i hi => absurd hi (Nat.not_lt_zero _), by simp [stM, nwI, flI, up]; rfl, fun i hi => absurd hi (Nat.not_lt_zero _)⟩
theorem noX {A : Int32} : ∀ k, (Sum.inl A : Int32 ⊕ Nat) = .inr k → ∃ c, cdA k = some c ∧ c ≠ 0 := fun k e => (by cases e)
theorem pr_court {x : Int32} (hx : gOk q0) : prS 8 6 mX11_court mX12_court [.ref 1, .int x] [.ref 534, .int x] cdA q0 := by
  obtain ⟨⟨t0, T0, f0⟩, ⟨D, cs, S, B, kB, rr⟩, ⟨ww, PP, mm, wI, SI, PI⟩, ca, cz⟩ := q0
  by_cases hT6 : T0 ≤ 600
  · by_cases hr : ¬ x < 0 ∧ ¬ nI T0 < x
    · obtain ⟨N, rfl, hN⟩ := x_N hT6 hr.1 hr.2
      cases hc : rCo t0 N 61 0 (sk t0 N 0) d0 with
      | inl e =>
        refine ⟨((t0, 0, nI e.2), (D, cs, S, B, kB, rr), (ww, PP, mm, wI, SI, PI), ca, cz), .inl (nI e.1 - 10), hx, noX, fun g d I J n w Q hI hn k1 _ => c_X11_court (t := t0) (T := T0) hI.1.1 hn (fun z => absurd hr z) (fun N9 e9 I9 a9 wf9 wt9 eN lN e1 hf => ?_) (fun N9 D9 I9 a9 wf9 wt9 eN lN e1 hf _ _ => ?_), fun g d I J n w Q hI k1 _ => c_X12_court (t := t0) (T := T0) hI.1.1 hT6 hI.1.2.2.1 (fun z => absurd hr z) (fun N9 e9 I9 eN lN e1 hf h0 h2 h8 => ?_) (fun N9 D9 I9 eN lN e1 hf _ _ _ _ _ => ?_)⟩
        all_goals
          have eN2 : N = N9 := (nI_eq (by omega) (by omega)).mp eN
          subst eN2
          rw [hc] at e1
          cases e1
        · exact k1 _ _ rfl (rd_cI hx hI hf) (fun a j z => rd_c hf (by omega) (by omega))
        · exact k1 _ I9 rfl (rd_m hI hf h2 h8) (gM_l hf) h0
      | inr D2 =>
        by_cases hk2 : cOk D2
        · refine ⟨((t0, 0, -1), (D2, uL, sE, (fun _ => none), 0, 0), (0, PP, 0, wI, SI, PI), ca, cz), .inl (nI (cb D2)), ⟨fun b v e => (by cases e), Nat.zero_le _, Nat.zero_le _, fun i hi => absurd hi (Nat.not_lt_zero _), Nat.zero_le _, fun i hi => absurd hi (Nat.not_lt_zero _)⟩, noX, fun g d I J n w Q hI hn k1 _ => c_X11_court (t := t0) (T := T0) hI.1.1 hn (fun z => absurd hr z) (fun N9 e9 I9 a9 wf9 wt9 eN lN e1 hf => ?_) (fun N9 D9 I9 a9 wf9 wt9 eN lN e1 hf hC _ => ?_), fun g d I J n w Q hI k1 _ => c_X12_court (t := t0) (T := T0) hI.1.1 hT6 hI.1.2.2.1 (fun z => absurd hr z) (fun N9 e9 I9 eN lN e1 hf h0 h2 h8 => ?_) (fun N9 D9 I9 eN lN e1 hf h0 h2 h8 hM _ => ?_)⟩
          all_goals
            have eN2 : N = N9 := (nI_eq (by omega) (by omega)).mp eN
            subst eN2
            rw [hc] at e1
            cases e1
          · refine k1 _ _ rfl ⟨⟨⟨Nat.zero_le _, ?_, fun i hi => absurd hi (Nat.not_lt_zero _)⟩, ?_⟩, stC_W (Co_fr hC (fun a j h1 h2 => tp_o (Or.inl (by omega)))) hk2, stC_P, ?_, ?_⟩ (fun a j z => (stC_f (by omega)).trans (rd_c hf (by omega) (by omega)))
            · exact (stC_f (by omega)).trans (rd_1 hf)
            · exact (stC_f (by omega)).trans rd_7
            · exact (stC_f (by omega)).trans ((rd_c hf (by omega) (by omega)).trans hI.2.2.2.1)
            · exact (stC_f (by omega)).trans ((rd_c hf (by omega) (by omega)).trans hI.2.2.2.2)
          · refine k1 _ _ rfl ⟨⟨(stM_f (by omega)).trans h2, Nat.zero_le _, fun i hi => absurd hi (Nat.not_lt_zero _), (stM_f (by omega)).trans h8⟩, stM_W hM hk2, stM_P, ?_, ?_⟩ (fun a j z => (stM_f (by omega)).trans (hf a j (by omega))) ((stM_f (by omega)).trans h0)
            · exact (stM_f (by omega)).trans ((hf _ _ (by omega)).trans hI.2.2.2.1)
            · exact (stM_f (by omega)).trans ((hf _ _ (by omega)).trans hI.2.2.2.2)
        · refine ⟨_, .inl 0, hx, noX, fun g d I J n w Q hI hn k1 _ => c_X11_court (t := t0) (T := T0) hI.1.1 hn (fun z => absurd hr z) (fun N9 e9 I9 a9 wf9 wt9 eN lN e1 hf => ?_) (fun N9 D9 I9 a9 wf9 wt9 eN lN e1 hf hC hk9 => ?_), fun g d I J n w Q hI k1 _ => c_X12_court (t := t0) (T := T0) hI.1.1 hT6 hI.1.2.2.1 (fun z => absurd hr z) (fun N9 e9 I9 eN lN e1 hf h0 h2 h8 => ?_) (fun N9 D9 I9 eN lN e1 hf h0 h2 h8 hM hk9 => ?_)⟩
          all_goals
            have eN2 : N = N9 := (nI_eq (by omega) (by omega)).mp eN
            subst eN2
            rw [hc] at e1
            cases e1
          · exact absurd hk9 hk2
          · exact absurd hk9 hk2
    · exact ask_no 1 1 (by decide) rfl (by decide) hx (fun g d I J n w Q hI hn k1 => c_X11_court (t := t0) (T := T0) hI.1.1 hn (fun _ => k1) (fun N9 e9 I9 _ _ _ eN lN => absurd (inR hT6 eN lN) hr) (fun N9 e9 I9 _ _ _ eN lN => absurd (inR hT6 eN lN) hr)) (fun g d I J n w Q hI k1 => c_X12_court (t := t0) (T := T0) hI.1.1 hT6 hI.1.2.2.1 (fun _ => k1) (fun N9 e9 I9 eN lN => absurd (inR hT6 eN lN) hr) (fun N9 e9 I9 eN lN => absurd (inR hT6 eN lN) hr))
  · exact ⟨_, .inl 0, hx, noX, fun g d I J n w Q hI => absurd hI.1.1.1 hT6, fun g d I J n w Q hI => absurd hI.1.2.1 hT6⟩
end S
