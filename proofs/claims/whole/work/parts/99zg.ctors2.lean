section S
variable {g : aG} {d : Nat} {I : Nat → Nat → Int32} {J : Nat → Nat → Int64} {n w : Nat} {Q : aO → aS → Prop}
variable {R : Nat → Nat → Option Nat}
/-- a Past's cells -/
def pP (o : Nat) : Prop := isO 5 o ∧ o + 120 ≤ 560 ∧ (sO (o + 1) ∧ pS (o + 1)) ∧ isA 67 16 (o + 8) ∧ (∀ i, i < 16 → sO (o + 9 + 7 * i) ∧ pS (o + 9 + 7 * i)) ∧ R0l.getD o [] = [some (o + 1), some (o + 8)] ∧ R0l.getD (o + 8) [] = (List.range 16).map (fun i => some (o + 9 + 7 * i))
def rH (R : Nat → Nat → Option Nat) (a i : Nat) : Nat → Nat → Option Nat := fun x j => if x = a ∧ i ≤ j then none else R x j
theorem rH_n {a i x j : Nat} (h : x ≠ a) : rH R a i x j = R x j := if_neg (fun z => h z.1)
theorem rH_0 {a : Nat} : rN R a = rH R a 0 := by
  funext x j
  unfold rN rH
  by_cases e : x = a
  · rw [if_pos e, if_pos ⟨e, Nat.zero_le _⟩]
  · rw [if_neg e, if_neg (fun z => e z.1)]
theorem rH_1 {a i b : Nat} (h : R a i = some b) : upR (rH R a i) a i b = rH R a (i + 1) := by
  funext x j
  unfold upR rH
  by_cases e : x = a
  · subst e
    by_cases e2 : j = i
    · subst e2; rw [if_pos ⟨rfl, rfl⟩, if_neg (by omega), h]
    · rw [if_neg (by omega)]
      by_cases e3 : i ≤ j
      · rw [if_pos ⟨rfl, e3⟩, if_pos ⟨rfl, by omega⟩]
      · rw [if_neg (by omega), if_neg (by omega)]
  · rw [if_neg (by omega), if_neg (by omega), if_neg (by omega)]
theorem rH_e {a n : Nat} (h : ∀ j, n ≤ j → R a j = none) : rH R a n = R := by
  funext x j
  unfold rH
  by_cases e : x = a ∧ n ≤ j
  · rw [if_pos e, e.1, h j e.2]
  · rw [if_neg e]
theorem r0_16 {o i : Nat} (hp : pP o) (hi : i < 16) : R0 (o + 8) i = some (o + 9 + 7 * i) := by
  rw [r0_l hp.2.2.2.2.2.2]
  simp [List.getD, hi]
theorem r0_17 {o j : Nat} (hp : pP o) (hj : 16 ≤ j) : R0 (o + 8) j = none := by
  rw [r0_l hp.2.2.2.2.2.2]
  simp [List.getD, hj]
theorem past_lp {o w : Nat} (hp : pP o) (hz : zI o I) (hR : ∀ a j, o ≤ a → R a j = R0 a j) (hw : w + 2200 ≤ 100000) (hq : Q (.inl none) (Kz I J0 R (o + 120) (w + 2128))) : ∀ f i, i + f = 16 → Rn g (d + 2) mX5_init 26 [.ref o, .int (nI i)] [] [] (Kz I J0 (rH R (o + 8) i) (o + 8 + 7 * i) (w + 133 * i)) Q := by
  have ho1 := hp.1.2.1
  have ho2 := hp.2.1
  intro f
  induction f with
  | zero =>
    intro i hi
    have e : i = 16 := by omega
    subst e
    refine s_iload_n (pc := 26) (i := 1) dX5_init_26 rfl rfl ?_
    refine m_bi (pc := 27) (v := 16) dX5_init_27 rfl ?_
    refine s_icge (pc := 29) (tgt := 51) dX5_init_29 rfl (fun h29 => ?_) (fun h29 => absurd (nI_le (a := 16) (b := 16) (by omega) (by omega)) h29)
    refine s_return (pc := 51) dX5_init_51 rfl ?_
    rw [rH_e (fun j hj => (hR _ j (by omega)).trans (r0_17 hp hj))]
    exact hq
  | succ f ih =>
    intro i hi
    have hs := hp.2.2.2.2.1 i (by omega)
    refine s_iload_n (pc := 26) (i := 1) dX5_init_26 rfl rfl ?_
    refine m_bi (pc := 27) (v := 16) dX5_init_27 rfl ?_
    refine s_icge (pc := 29) (tgt := 51) dX5_init_29 rfl (fun h29 => absurd h29 (nI_ge (a := i) (b := 16) (by omega) (by omega))) (fun h29 => ?_)
    refine s_aload_n (pc := 32) (i := 0) dX5_init_32 rfl rfl ?_
    refine k_gr (pc := 33) (k := 1) (b := o + 8) dX5_init_33 ff_X5_18 rfl ⟨hp.1.1, by omega, by omega⟩ ((rH_n (by omega)).trans ((hR _ _ (by omega)).trans (r0_l hp.2.2.2.2.2.1))) ?_
    refine s_iload_n (pc := 36) (i := 1) dX5_init_36 rfl rfl ?_
    refine k_new (pc := 37) (ci := 9) (L' := o + 9 + 7 * i) (w' := w + 133 * i + 9) dX5_init_37 kl_X5_9 (by decide) hs.1.1.1 (by omega) rfl (by omega) (fun j => hz _ j (by omega)) ?_
    refine s_dup (pc := 40) dX5_init_40 rfl ?_
    refine m_i0 (pc := 41) dX5_init_41 lk_X5_11 ok_X9_init rfl rfl (kc_X9_init (R := rH R (o + 8) i) (w := w + 133 * i + 9) hs.1 hs.2 (zI_m hz (by omega)) (fun a j h => (rH_n (by omega)).trans (hR a j (by omega))) (by omega) (kt_v ?_))
    refine k_as (pc := 44) (t := 67) (ci := 9) (N := 16) dX5_init_44 (kA hp.2.2.2.1 (by omega)) (Or.inl ⟨rfl, rfl⟩) (vp_in_nI (n := i) (by omega) (by decide)) ⟨hs.1.1.1, by omega, by omega⟩ ?_
    rw [nI_clamp (n := i) (by omega), rH_1 ((hR _ _ (by omega)).trans (r0_16 hp (by omega)))]
    refine m_inc (pc := 45) (v := 1) dX5_init_45 rfl rfl ?_
    dsimp only [List.set, List.filter]
    rw [nI_1]
    refine s_goto (pc := 48) (tgt := 26) dX5_init_48 rfl ?_
    have h := ih (i + 1) (by omega)
    rw [show o + 8 + 7 * (i + 1) = o + 9 + 7 * i + 6 by omega, show w + 133 * (i + 1) = w + 133 * i + 9 + 124 by omega] at h
    exact h
theorem kc_X5_init {o w : Nat} (hp : pP o) (hz : zI o I) (hR : ∀ a j, o ≤ a → R a j = R0 a j) (hw : w + 2400 ≤ 100000) (hq : Q (.inl none) (Kz I J0 R (o + 120) (w + 2277))) : Cn g (d + 2) mX5_init [.ref o] (Kz I J0 (rN R o) o w) Q := by
  have ho1 := hp.1.2.1
  have ho2 := hp.2.1
  have hs := hp.2.2.1
  show Rn g (d + 2) mX5_init 0 [.ref o, .retAddr 0] [] [] (Kz I J0 (rN R o) o w) Q
  refine s_aload_n (pc := 0) (i := 0) dX5_init_0 rfl rfl ?_
  refine s_objI (pc := 1) dX5_init_1 ml_X5_3 in_obj cd_obj (by omega) (by decide) ?_
  refine s_aload_n (pc := 4) (i := 0) dX5_init_4 rfl rfl ?_
  refine k_new (pc := 5) (ci := 9) (L' := o + 1) (w' := w + 9) dX5_init_5 kl_X5_9 (by decide) hs.1.1.1 rfl rfl (by omega) (fun j => hz _ j (by omega)) ?_
  refine s_dup (pc := 8) dX5_init_8 rfl ?_
  refine m_i0 (pc := 9) dX5_init_9 lk_X5_11 ok_X9_init rfl rfl (kc_X9_init (R := rN R o) (w := w + 9) hs.1 hs.2 (zI_m hz (by omega)) (fun a j h => (rN_n (by omega)).trans (hR a j (by omega))) (by omega) (kt_v ?_))
  refine k_pr (pc := 12) (k := 0) dX5_init_12 ff_X5_12 rfl rfl rfl rfl ⟨hp.1.1, by omega, by omega⟩ ?_
  refine s_aload_n (pc := 15) (i := 0) dX5_init_15 rfl rfl ?_
  refine m_bi (pc := 16) (v := 16) dX5_init_16 rfl ?_
  refine k_an (pc := 18) (t := 67) (ci := 9) (n := 16) (L' := o + 8) (w' := w + 149) dX5_init_18 (Or.inl ⟨rfl, rfl⟩) kl_X5_9 ao_State (by decide) rfl (by decide) hp.2.2.2.1.1 hp.2.2.2.1.2.1 rfl rfl (by omega) (fun j => hz _ j (by omega)) ?_
  refine k_pr (pc := 21) (k := 1) dX5_init_21 ff_X5_18 rfl rfl rfl rfl ⟨hp.1.1, by omega, by omega⟩ ?_
  have eR : upR (rN (upR (rN R o) o 0 (o + 1)) (o + 8)) o 1 (o + 8) = rH R (o + 8) 0 := by
    rw [← rH_0]
    funext x j
    by_cases e : x = o
    · subst e
      have e8 : ¬ x = x + 8 := by omega
      rw [rN_n e8, hR x j (Nat.le_refl _), r0_l hp.2.2.2.2.2.1]
      rcases j with _ | _ | j <;> simp [upR, rN]
    · simp [upR, rN, e]
  rw [eR]
  refine m_ic (pc := 24) (v := 0) dX5_init_24 rfl ?_
  refine s_istore_n (pc := 25) (i := 1) dX5_init_25 rfl (Nat.le_of_ble_eq_true rfl) ?_
  dsimp only [List.set, List.filter]
  exact past_lp (w := w + 149) hp hz hR (by omega) hq 16 0 rfl
theorem pP_32 : pP 32 := ⟨by decide +kernel, by decide, ⟨by unfold sO; decide +kernel, by unfold pS; decide +kernel⟩, by decide +kernel, fun i hi => (by
  rcases (show i = 0 ∨ i = 1 ∨ i = 2 ∨ i = 3 ∨ i = 4 ∨ i = 5 ∨ i = 6 ∨ i = 7 ∨ i = 8 ∨ i = 9 ∨ i = 10 ∨ i = 11 ∨ i = 12 ∨ i = 13 ∨ i = 14 ∨ i = 15 by omega) with rfl | rfl | rfl | rfl | rfl | rfl | rfl | rfl | rfl | rfl | rfl | rfl | rfl | rfl | rfl | rfl <;> exact ⟨by unfold sO; decide +kernel, by unfold pS; decide +kernel⟩), by decide +kernel, by decide +kernel⟩
theorem pP_154 : pP 154 := ⟨by decide +kernel, by decide, ⟨by unfold sO; decide +kernel, by unfold pS; decide +kernel⟩, by decide +kernel, fun i hi => (by
  rcases (show i = 0 ∨ i = 1 ∨ i = 2 ∨ i = 3 ∨ i = 4 ∨ i = 5 ∨ i = 6 ∨ i = 7 ∨ i = 8 ∨ i = 9 ∨ i = 10 ∨ i = 11 ∨ i = 12 ∨ i = 13 ∨ i = 14 ∨ i = 15 by omega) with rfl | rfl | rfl | rfl | rfl | rfl | rfl | rfl | rfl | rfl | rfl | rfl | rfl | rfl | rfl | rfl <;> exact ⟨by unfold sO; decide +kernel, by unfold pS; decide +kernel⟩), by decide +kernel, by decide +kernel⟩
theorem pP_275 : pP 275 := ⟨by decide +kernel, by decide, ⟨by unfold sO; decide +kernel, by unfold pS; decide +kernel⟩, by decide +kernel, fun i hi => (by
  rcases (show i = 0 ∨ i = 1 ∨ i = 2 ∨ i = 3 ∨ i = 4 ∨ i = 5 ∨ i = 6 ∨ i = 7 ∨ i = 8 ∨ i = 9 ∨ i = 10 ∨ i = 11 ∨ i = 12 ∨ i = 13 ∨ i = 14 ∨ i = 15 by omega) with rfl | rfl | rfl | rfl | rfl | rfl | rfl | rfl | rfl | rfl | rfl | rfl | rfl | rfl | rfl | rfl <;> exact ⟨by unfold sO; decide +kernel, by unfold pS; decide +kernel⟩), by decide +kernel, by decide +kernel⟩
theorem pP_396 : pP 396 := ⟨by decide +kernel, by decide, ⟨by unfold sO; decide +kernel, by unfold pS; decide +kernel⟩, by decide +kernel, fun i hi => (by
  rcases (show i = 0 ∨ i = 1 ∨ i = 2 ∨ i = 3 ∨ i = 4 ∨ i = 5 ∨ i = 6 ∨ i = 7 ∨ i = 8 ∨ i = 9 ∨ i = 10 ∨ i = 11 ∨ i = 12 ∨ i = 13 ∨ i = 14 ∨ i = 15 by omega) with rfl | rfl | rfl | rfl | rfl | rfl | rfl | rfl | rfl | rfl | rfl | rfl | rfl | rfl | rfl | rfl <;> exact ⟨by unfold sO; decide +kernel, by unfold pS; decide +kernel⟩), by decide +kernel, by decide +kernel⟩
def Ic (I : Nat → Nat → Int32) : Nat → Nat → Int32 := (up (flI (up (flI (usL (usL (up (up (up I 2 7 (-1)) 4 6 20) 9 6 20) 14) 18) 23 7 (-1)) 22 1 0) 25 7 (-1)) 24 1 0)
theorem kc_X11_init (hz : zI 1 I) (hw : w + 30000 ≤ 100000) (hq : Q (.inl none) (Kz (Ic I) J0 R0 533 (w + 11293))) : Cn g (d + 4) mX11_init [.ref 1] (Kz I J0 (rN R0 1) 1 w) Q := by
  have hR : ∀ a j, 1 ≤ a → R0 a j = R0 a j := fun _ _ _ => rfl
  show Rn g (d + 4) mX11_init 0 [.ref 1] [] [] (Kz I J0 (rN R0 1) 1 w) Q
  refine s_aload_n (pc := 0) (i := 0) dX11_init_0 rfl rfl ?_
  refine s_objI (pc := 1) dX11_init_1 ml_X11_1 in_obj cd_obj (by omega) (by decide) ?_
  refine s_aload_n (pc := 4) (i := 0) dX11_init_4 rfl rfl ?_
  refine k_new (pc := 5) (ci := 10) (L' := 2) (w' := (w + 8)) dX11_init_5 kl_X11_7 (by decide) (by decide +kernel) rfl rfl (by omega) (fun j => (zI_m (L' := 1) hz (by omega)) _ j (by omega)) ?_
  refine s_dup (pc := 8) dX11_init_8 rfl ?_
  refine m_i0 (pc := 9) dX11_init_9 lk_X11_9 ok_X10_init rfl rfl (kc_X10_init_2 (R := (rN R0 1)) (w := (w + 8)) (zI_m (L' := 2) hz (by omega)) (fun a j h => ((rN_n (by omega)).trans (hR a j (by omega)))) (by omega) (kt_v ?_))
  refine k_pr (pc := 12) (k := 0) dX11_init_12 ff_X11_10 rfl rfl rfl rfl (⟨by decide +kernel, by omega, by omega⟩) ?_
  refine s_aload_n (pc := 15) (i := 0) dX11_init_15 rfl rfl ?_
  refine k_new (pc := 16) (ci := 1) (L' := 4) (w' := (w + 615)) dX11_init_16 kl_X11_16 (by decide) (by decide +kernel) rfl rfl (by omega) (fun j => (zI_u (zI_m (L' := 3) hz (by omega)) (by omega)) _ j (by omega)) ?_
  refine s_dup (pc := 19) dX11_init_19 rfl ?_
  refine m_i0 (pc := 20) dX11_init_20 lk_X11_18 ok_X1_init rfl rfl (kc_X1_init_4 (R := (upR (rN R0 1) 1 0 2)) (w := (w + 615)) (zI_u (zI_m (L' := 4) hz (by omega)) (by omega)) (fun a j h => ((upR_n (by omega)).trans ((rN_n (by omega)).trans (hR a j (by omega))))) (by omega) (kt_v ?_))
  refine k_pr (pc := 23) (k := 1) dX11_init_23 ff_X11_19 rfl rfl rfl rfl (⟨by decide +kernel, by omega, by omega⟩) ?_
  refine s_aload_n (pc := 26) (i := 0) dX11_init_26 rfl rfl ?_
  refine k_new (pc := 27) (ci := 1) (L' := 9) (w' := (w + 660)) dX11_init_27 kl_X11_16 (by decide) (by decide +kernel) rfl rfl (by omega) (fun j => (zI_u (zI_u (zI_m (L' := 8) hz (by omega)) (by omega)) (by omega)) _ j (by omega)) ?_
  refine s_dup (pc := 30) dX11_init_30 rfl ?_
  refine m_i0 (pc := 31) dX11_init_31 lk_X11_18 ok_X1_init rfl rfl (kc_X1_init_9 (R := (upR (upR (rN R0 1) 1 0 2) 1 1 4)) (w := (w + 660)) (zI_u (zI_u (zI_m (L' := 9) hz (by omega)) (by omega)) (by omega)) (fun a j h => ((upR_n (by omega)).trans ((upR_n (by omega)).trans ((rN_n (by omega)).trans (hR a j (by omega)))))) (by omega) (kt_v ?_))
  refine k_pr (pc := 34) (k := 2) dX11_init_34 ff_X11_23 rfl rfl rfl rfl (⟨by decide +kernel, by omega, by omega⟩) ?_
  refine s_aload_n (pc := 37) (i := 0) dX11_init_37 rfl rfl ?_
  refine k_new (pc := 38) (ci := 4) (L' := 14) (w' := (w + 702)) dX11_init_38 kl_X11_26 (by decide) (by decide +kernel) rfl rfl (by omega) (fun j => (zI_u (zI_u (zI_u (zI_m (L' := 13) hz (by omega)) (by omega)) (by omega)) (by omega)) _ j (by omega)) ?_
  refine s_dup (pc := 41) dX11_init_41 rfl ?_
  refine m_i0 (pc := 42) dX11_init_42 lk_X11_28 ok_X4_init rfl rfl (kc_X4_init_14 (R := (upR (upR (upR (rN R0 1) 1 0 2) 1 1 4) 1 2 9)) (w := (w + 702)) (zI_u (zI_u (zI_u (zI_m (L' := 14) hz (by omega)) (by omega)) (by omega)) (by omega)) (fun a j h => ((upR_n (by omega)).trans ((upR_n (by omega)).trans ((upR_n (by omega)).trans ((rN_n (by omega)).trans (hR a j (by omega))))))) (by omega) (kt_v ?_))
  refine k_pr (pc := 45) (k := 3) dX11_init_45 ff_X11_29 rfl rfl rfl rfl (⟨by decide +kernel, by omega, by omega⟩) ?_
  refine s_aload_n (pc := 48) (i := 0) dX11_init_48 rfl rfl ?_
  refine k_new (pc := 49) (ci := 4) (L' := 18) (w' := (w + 1015)) dX11_init_49 kl_X11_26 (by decide) (by decide +kernel) rfl rfl (by omega) (fun j => (zI_us (zI_u (zI_u (zI_u (zI_m (L' := 17) hz (by omega)) (by omega)) (by omega)) (by omega)) (by omega)) _ j (by omega)) ?_
  refine s_dup (pc := 52) dX11_init_52 rfl ?_
  refine m_i0 (pc := 53) dX11_init_53 lk_X11_28 ok_X4_init rfl rfl (kc_X4_init_18 (R := (upR (upR (upR (upR (rN R0 1) 1 0 2) 1 1 4) 1 2 9) 1 3 14)) (w := (w + 1015)) (zI_us (zI_u (zI_u (zI_u (zI_m (L' := 18) hz (by omega)) (by omega)) (by omega)) (by omega)) (by omega)) (fun a j h => ((upR_n (by omega)).trans ((upR_n (by omega)).trans ((upR_n (by omega)).trans ((upR_n (by omega)).trans ((rN_n (by omega)).trans (hR a j (by omega)))))))) (by omega) (kt_v ?_))
  refine k_pr (pc := 56) (k := 4) dX11_init_56 ff_X11_33 rfl rfl rfl rfl (⟨by decide +kernel, by omega, by omega⟩) ?_
  refine s_aload_n (pc := 59) (i := 0) dX11_init_59 rfl rfl ?_
  refine k_new (pc := 60) (ci := 0) (L' := 22) (w' := (w + 1326)) dX11_init_60 kl_X11_36 (by decide) (by decide +kernel) rfl rfl (by omega) (fun j => (zI_us (zI_us (zI_u (zI_u (zI_u (zI_m (L' := 21) hz (by omega)) (by omega)) (by omega)) (by omega)) (by omega)) (by omega)) _ j (by omega)) ?_
  refine s_dup (pc := 63) dX11_init_63 rfl ?_
  refine m_i0 (pc := 64) dX11_init_64 lk_X11_38 ok_X0_init rfl rfl (kc_X0_init_22 (R := (upR (upR (upR (upR (upR (rN R0 1) 1 0 2) 1 1 4) 1 2 9) 1 3 14) 1 4 18)) (w := (w + 1326)) (zI_us (zI_us (zI_u (zI_u (zI_u (zI_m (L' := 22) hz (by omega)) (by omega)) (by omega)) (by omega)) (by omega)) (by omega)) (fun a j h => ((upR_n (by omega)).trans ((upR_n (by omega)).trans ((upR_n (by omega)).trans ((upR_n (by omega)).trans ((upR_n (by omega)).trans ((rN_n (by omega)).trans (hR a j (by omega))))))))) (by omega) (kt_v ?_))
  refine k_pr (pc := 67) (k := 5) dX11_init_67 ff_X11_39 rfl rfl rfl rfl (⟨by decide +kernel, by omega, by omega⟩) ?_
  refine s_aload_n (pc := 70) (i := 0) dX11_init_70 rfl rfl ?_
  refine k_new (pc := 71) (ci := 0) (L' := 24) (w' := (w + 1335)) dX11_init_71 kl_X11_36 (by decide) (by decide +kernel) rfl rfl (by omega) (fun j => (zI_u (zI_f (zI_us (zI_us (zI_u (zI_u (zI_u (zI_m (L' := 23) hz (by omega)) (by omega)) (by omega)) (by omega)) (by omega)) (by omega)) (by omega)) (by omega)) _ j (by omega)) ?_
  refine s_dup (pc := 74) dX11_init_74 rfl ?_
  refine m_i0 (pc := 75) dX11_init_75 lk_X11_38 ok_X0_init rfl rfl (kc_X0_init_24 (R := (upR (upR (upR (upR (upR (upR (rN R0 1) 1 0 2) 1 1 4) 1 2 9) 1 3 14) 1 4 18) 1 5 22)) (w := (w + 1335)) (zI_u (zI_f (zI_us (zI_us (zI_u (zI_u (zI_u (zI_m (L' := 24) hz (by omega)) (by omega)) (by omega)) (by omega)) (by omega)) (by omega)) (by omega)) (by omega)) (fun a j h => ((upR_n (by omega)).trans ((upR_n (by omega)).trans ((upR_n (by omega)).trans ((upR_n (by omega)).trans ((upR_n (by omega)).trans ((upR_n (by omega)).trans ((rN_n (by omega)).trans (hR a j (by omega)))))))))) (by omega) (kt_v ?_))
  refine k_pr (pc := 78) (k := 6) dX11_init_78 ff_X11_43 rfl rfl rfl rfl (⟨by decide +kernel, by omega, by omega⟩) ?_
  refine s_aload_n (pc := 81) (i := 0) dX11_init_81 rfl rfl ?_
  refine k_new (pc := 82) (ci := 6) (L' := 26) (w' := (w + 1349)) dX11_init_82 kl_X11_46 (by decide) (by decide +kernel) rfl rfl (by omega) (fun j => (zI_u (zI_f (zI_u (zI_f (zI_us (zI_us (zI_u (zI_u (zI_u (zI_m (L' := 25) hz (by omega)) (by omega)) (by omega)) (by omega)) (by omega)) (by omega)) (by omega)) (by omega)) (by omega)) (by omega)) _ j (by omega)) ?_
  refine s_dup (pc := 85) dX11_init_85 rfl ?_
  refine m_i0 (pc := 86) dX11_init_86 lk_X11_48 ok_X6_init rfl rfl (kc_X6_init_26 (R := (upR (upR (upR (upR (upR (upR (upR (rN R0 1) 1 0 2) 1 1 4) 1 2 9) 1 3 14) 1 4 18) 1 5 22) 1 6 24)) (w := (w + 1349)) (zI_u (zI_f (zI_u (zI_f (zI_us (zI_us (zI_u (zI_u (zI_u (zI_m (L' := 26) hz (by omega)) (by omega)) (by omega)) (by omega)) (by omega)) (by omega)) (by omega)) (by omega)) (by omega)) (by omega)) (fun a j h => ((upR_n (by omega)).trans ((upR_n (by omega)).trans ((upR_n (by omega)).trans ((upR_n (by omega)).trans ((upR_n (by omega)).trans ((upR_n (by omega)).trans ((upR_n (by omega)).trans ((rN_n (by omega)).trans (hR a j (by omega))))))))))) (by omega) (kt_v ?_))
  refine k_pr (pc := 89) (k := 7) dX11_init_89 ff_X11_49 rfl rfl rfl rfl (⟨by decide +kernel, by omega, by omega⟩) ?_
  refine s_aload_n (pc := 92) (i := 0) dX11_init_92 rfl rfl ?_
  refine k_new (pc := 93) (ci := 3) (L' := 31) (w' := (w + 1807)) dX11_init_93 kl_X11_53 (by decide) (by decide +kernel) rfl rfl (by omega) (fun j => (zI_u (zI_f (zI_u (zI_f (zI_us (zI_us (zI_u (zI_u (zI_u (zI_m (L' := 30) hz (by omega)) (by omega)) (by omega)) (by omega)) (by omega)) (by omega)) (by omega)) (by omega)) (by omega)) (by omega)) _ j (by omega)) ?_
  refine s_dup (pc := 96) dX11_init_96 rfl ?_
  refine s_aload_n (pc := 97) (i := 0) dX11_init_97 rfl rfl ?_
  refine k_gr (pc := 98) (k := 1) (b := 4) dX11_init_98 ff_X11_19 rfl (⟨by decide +kernel, by omega, by omega⟩) (((rN_n (by omega)).trans ((upR_n (by omega)).trans ((upR_n (by omega)).trans ((upR_n (by omega)).trans ((upR_n (by omega)).trans ((upR_n (by omega)).trans ((upR_n (by omega)).trans upR_s)))))))) ?_
  refine s_aload_n (pc := 101) (i := 0) dX11_init_101 rfl rfl ?_
  refine k_gr (pc := 102) (k := 3) (b := 14) dX11_init_102 ff_X11_29 rfl (⟨by decide +kernel, by omega, by omega⟩) (((rN_n (by omega)).trans ((upR_n (by omega)).trans ((upR_n (by omega)).trans ((upR_n (by omega)).trans ((upR_n (by omega)).trans upR_s)))))) ?_
  refine m_i2 (pc := 105) dX11_init_105 lk_X11_55 ok_X3_init rfl rfl (kc_X3_init_31 (R := (upR (upR (upR (upR (upR (upR (upR (upR (rN R0 1) 1 0 2) 1 1 4) 1 2 9) 1 3 14) 1 4 18) 1 5 22) 1 6 24) 1 7 26)) (w := (w + 1807)) (zI_u (zI_f (zI_u (zI_f (zI_us (zI_us (zI_u (zI_u (zI_u (zI_m (L' := 31) hz (by omega)) (by omega)) (by omega)) (by omega)) (by omega)) (by omega)) (by omega)) (by omega)) (by omega)) (by omega)) (fun a j h => ((upR_n (by omega)).trans ((upR_n (by omega)).trans ((upR_n (by omega)).trans ((upR_n (by omega)).trans ((upR_n (by omega)).trans ((upR_n (by omega)).trans ((upR_n (by omega)).trans ((upR_n (by omega)).trans ((rN_n (by omega)).trans (hR a j (by omega)))))))))))) (by omega) (kt_v ?_))
  refine k_pr (pc := 108) (k := 8) dX11_init_108 ff_X11_58 rfl rfl rfl rfl (⟨by decide +kernel, by omega, by omega⟩) ?_
  refine s_aload_n (pc := 111) (i := 0) dX11_init_111 rfl rfl ?_
  refine k_new (pc := 112) (ci := 5) (L' := 32) (w' := (w + 1810)) dX11_init_112 kl_X11_62 (by decide) (by decide +kernel) rfl rfl (by omega) (fun j => (zI_u (zI_f (zI_u (zI_f (zI_us (zI_us (zI_u (zI_u (zI_u (zI_m (L' := 31) hz (by omega)) (by omega)) (by omega)) (by omega)) (by omega)) (by omega)) (by omega)) (by omega)) (by omega)) (by omega)) _ j (by omega)) ?_
  refine s_dup (pc := 115) dX11_init_115 rfl ?_
  refine m_i0 (pc := 116) dX11_init_116 lk_X11_64 ok_X5_init rfl rfl (kc_X5_init (o := 32) (R := (upR (upR (upR (upR (upR (upR (upR (upR (upR (rN R0 1) 1 0 2) 1 1 4) 1 2 9) 1 3 14) 1 4 18) 1 5 22) 1 6 24) 1 7 26) 1 8 31)) (w := (w + 1810)) pP_32 (zI_u (zI_f (zI_u (zI_f (zI_us (zI_us (zI_u (zI_u (zI_u (zI_m (L' := 32) hz (by omega)) (by omega)) (by omega)) (by omega)) (by omega)) (by omega)) (by omega)) (by omega)) (by omega)) (by omega)) (fun a j h => ((upR_n (by omega)).trans ((upR_n (by omega)).trans ((upR_n (by omega)).trans ((upR_n (by omega)).trans ((upR_n (by omega)).trans ((upR_n (by omega)).trans ((upR_n (by omega)).trans ((upR_n (by omega)).trans ((upR_n (by omega)).trans ((rN_n (by omega)).trans (hR a j (by omega))))))))))))) (by omega) (kt_v ?_))
  refine k_pr (pc := 119) (k := 9) dX11_init_119 ff_X11_65 rfl rfl rfl rfl (⟨by decide +kernel, by omega, by omega⟩) ?_
  refine s_aload_n (pc := 122) (i := 0) dX11_init_122 rfl rfl ?_
  refine s_aload_n (pc := 123) (i := 0) dX11_init_123 rfl rfl ?_
  refine k_gr (pc := 124) (k := 9) (b := 32) dX11_init_124 ff_X11_65 rfl (⟨by decide +kernel, by omega, by omega⟩) (upR_s) ?_
  refine k_gr (pc := 127) (k := 0) (b := 33) dX11_init_127 ff_X11_69 rfl (⟨by decide +kernel, by omega, by omega⟩) (((upR_n (by omega)).trans ((upR_n (by omega)).trans ((upR_n (by omega)).trans ((upR_n (by omega)).trans ((upR_n (by omega)).trans ((upR_n (by omega)).trans ((upR_n (by omega)).trans ((upR_n (by omega)).trans ((upR_n (by omega)).trans ((upR_n (by omega)).trans ((rN_n (by omega)).trans ((hR _ _ (by omega)).trans r_32_0))))))))))))) ?_
  refine k_pr (pc := 130) (k := 10) dX11_init_130 ff_X11_73 rfl rfl rfl rfl (⟨by decide +kernel, by omega, by omega⟩) ?_
  refine s_aload_n (pc := 133) (i := 0) dX11_init_133 rfl rfl ?_
  refine m_ic (pc := 134) (v := 3) dX11_init_134 rfl ?_
  refine k_an (pc := 135) (t := 68) (ci := 5) (n := 3) (L' := 153) (w' := (w + 4090)) dX11_init_135 (by decide) kl_X11_62 ao_Past (by decide) rfl (by decide) (by decide +kernel) (by decide +kernel) rfl rfl (by omega) (fun j => (zI_u (zI_f (zI_u (zI_f (zI_us (zI_us (zI_u (zI_u (zI_u (zI_m (L' := 152) hz (by omega)) (by omega)) (by omega)) (by omega)) (by omega)) (by omega)) (by omega)) (by omega)) (by omega)) (by omega)) _ j (by omega)) ?_
  refine s_dup (pc := 138) dX11_init_138 rfl ?_
  refine m_ic (pc := 139) (v := 0) dX11_init_139 rfl ?_
  refine k_new (pc := 140) (ci := 5) (L' := 154) (w' := (w + 4093)) dX11_init_140 kl_X11_62 (by decide) (by decide +kernel) rfl rfl (by omega) (fun j => (zI_u (zI_f (zI_u (zI_f (zI_us (zI_us (zI_u (zI_u (zI_u (zI_m (L' := 153) hz (by omega)) (by omega)) (by omega)) (by omega)) (by omega)) (by omega)) (by omega)) (by omega)) (by omega)) (by omega)) _ j (by omega)) ?_
  refine s_dup (pc := 143) dX11_init_143 rfl ?_
  refine m_i0 (pc := 144) dX11_init_144 lk_X11_64 ok_X5_init rfl rfl (kc_X5_init (o := 154) (R := (rN (upR (upR (upR (upR (upR (upR (upR (upR (upR (upR (upR (rN R0 1) 1 0 2) 1 1 4) 1 2 9) 1 3 14) 1 4 18) 1 5 22) 1 6 24) 1 7 26) 1 8 31) 1 9 32) 1 10 33) 153)) (w := (w + 4093)) pP_154 (zI_u (zI_f (zI_u (zI_f (zI_us (zI_us (zI_u (zI_u (zI_u (zI_m (L' := 154) hz (by omega)) (by omega)) (by omega)) (by omega)) (by omega)) (by omega)) (by omega)) (by omega)) (by omega)) (by omega)) (fun a j h => ((rN_n (by omega)).trans ((upR_n (by omega)).trans ((upR_n (by omega)).trans ((upR_n (by omega)).trans ((upR_n (by omega)).trans ((upR_n (by omega)).trans ((upR_n (by omega)).trans ((upR_n (by omega)).trans ((upR_n (by omega)).trans ((upR_n (by omega)).trans ((upR_n (by omega)).trans ((upR_n (by omega)).trans ((rN_n (by omega)).trans (hR a j (by omega)))))))))))))))) (by omega) (kt_v ?_))
  refine k_as (pc := 147) (t := 68) (ci := 5) (N := 3) dX11_init_147 ⟨by decide +kernel, by decide +kernel, by omega, by omega⟩ (by decide) (vp_in_nI (n := 0) (by omega) (by decide)) ⟨by decide +kernel, by omega, by omega⟩ ?_
  refine s_dup (pc := 148) dX11_init_148 rfl ?_
  refine m_ic (pc := 149) (v := 1) dX11_init_149 rfl ?_
  refine k_new (pc := 150) (ci := 5) (L' := 275) (w' := (w + 6373)) dX11_init_150 kl_X11_62 (by decide) (by decide +kernel) rfl rfl (by omega) (fun j => (zI_u (zI_f (zI_u (zI_f (zI_us (zI_us (zI_u (zI_u (zI_u (zI_m (L' := 274) hz (by omega)) (by omega)) (by omega)) (by omega)) (by omega)) (by omega)) (by omega)) (by omega)) (by omega)) (by omega)) _ j (by omega)) ?_
  refine s_dup (pc := 153) dX11_init_153 rfl ?_
  refine m_i0 (pc := 154) dX11_init_154 lk_X11_64 ok_X5_init rfl rfl (kc_X5_init (o := 275) (R := (upR (rN (upR (upR (upR (upR (upR (upR (upR (upR (upR (upR (upR (rN R0 1) 1 0 2) 1 1 4) 1 2 9) 1 3 14) 1 4 18) 1 5 22) 1 6 24) 1 7 26) 1 8 31) 1 9 32) 1 10 33) 153) 153 0 154)) (w := (w + 6373)) pP_275 (zI_u (zI_f (zI_u (zI_f (zI_us (zI_us (zI_u (zI_u (zI_u (zI_m (L' := 275) hz (by omega)) (by omega)) (by omega)) (by omega)) (by omega)) (by omega)) (by omega)) (by omega)) (by omega)) (by omega)) (fun a j h => ((upR_n (by omega)).trans ((rN_n (by omega)).trans ((upR_n (by omega)).trans ((upR_n (by omega)).trans ((upR_n (by omega)).trans ((upR_n (by omega)).trans ((upR_n (by omega)).trans ((upR_n (by omega)).trans ((upR_n (by omega)).trans ((upR_n (by omega)).trans ((upR_n (by omega)).trans ((upR_n (by omega)).trans ((upR_n (by omega)).trans ((rN_n (by omega)).trans (hR a j (by omega))))))))))))))))) (by omega) (kt_v ?_))
  refine k_as (pc := 157) (t := 68) (ci := 5) (N := 3) dX11_init_157 ⟨by decide +kernel, by decide +kernel, by omega, by omega⟩ (by decide) (vp_in_nI (n := 1) (by omega) (by decide)) ⟨by decide +kernel, by omega, by omega⟩ ?_
  refine s_dup (pc := 158) dX11_init_158 rfl ?_
  refine m_ic (pc := 159) (v := 2) dX11_init_159 rfl ?_
  refine k_new (pc := 160) (ci := 5) (L' := 396) (w' := (w + 8653)) dX11_init_160 kl_X11_62 (by decide) (by decide +kernel) rfl rfl (by omega) (fun j => (zI_u (zI_f (zI_u (zI_f (zI_us (zI_us (zI_u (zI_u (zI_u (zI_m (L' := 395) hz (by omega)) (by omega)) (by omega)) (by omega)) (by omega)) (by omega)) (by omega)) (by omega)) (by omega)) (by omega)) _ j (by omega)) ?_
  refine s_dup (pc := 163) dX11_init_163 rfl ?_
  refine m_i0 (pc := 164) dX11_init_164 lk_X11_64 ok_X5_init rfl rfl (kc_X5_init (o := 396) (R := (upR (upR (rN (upR (upR (upR (upR (upR (upR (upR (upR (upR (upR (upR (rN R0 1) 1 0 2) 1 1 4) 1 2 9) 1 3 14) 1 4 18) 1 5 22) 1 6 24) 1 7 26) 1 8 31) 1 9 32) 1 10 33) 153) 153 0 154) 153 1 275)) (w := (w + 8653)) pP_396 (zI_u (zI_f (zI_u (zI_f (zI_us (zI_us (zI_u (zI_u (zI_u (zI_m (L' := 396) hz (by omega)) (by omega)) (by omega)) (by omega)) (by omega)) (by omega)) (by omega)) (by omega)) (by omega)) (by omega)) (fun a j h => ((upR_n (by omega)).trans ((upR_n (by omega)).trans ((rN_n (by omega)).trans ((upR_n (by omega)).trans ((upR_n (by omega)).trans ((upR_n (by omega)).trans ((upR_n (by omega)).trans ((upR_n (by omega)).trans ((upR_n (by omega)).trans ((upR_n (by omega)).trans ((upR_n (by omega)).trans ((upR_n (by omega)).trans ((upR_n (by omega)).trans ((upR_n (by omega)).trans ((rN_n (by omega)).trans (hR a j (by omega)))))))))))))))))) (by omega) (kt_v ?_))
  refine k_as (pc := 167) (t := 68) (ci := 5) (N := 3) dX11_init_167 ⟨by decide +kernel, by decide +kernel, by omega, by omega⟩ (by decide) (vp_in_nI (n := 2) (by omega) (by decide)) ⟨by decide +kernel, by omega, by omega⟩ ?_
  refine k_pr (pc := 168) (k := 11) dX11_init_168 ff_X11_74 rfl rfl rfl rfl (⟨by decide +kernel, by omega, by omega⟩) ?_
  refine s_aload_n (pc := 171) (i := 0) dX11_init_171 rfl rfl ?_
  refine k_new (pc := 172) (ci := 8) (L' := 517) (w' := (w + 10939)) dX11_init_172 kl_X11_78 (by decide) (by decide +kernel) rfl rfl (by omega) (fun j => (zI_u (zI_f (zI_u (zI_f (zI_us (zI_us (zI_u (zI_u (zI_u (zI_m (L' := 516) hz (by omega)) (by omega)) (by omega)) (by omega)) (by omega)) (by omega)) (by omega)) (by omega)) (by omega)) (by omega)) _ j (by omega)) ?_
  refine s_dup (pc := 175) dX11_init_175 rfl ?_
  refine s_aload_n (pc := 176) (i := 0) dX11_init_176 rfl rfl ?_
  refine k_gr (pc := 177) (k := 8) (b := 31) dX11_init_177 ff_X11_58 rfl (⟨by decide +kernel, by omega, by omega⟩) (((rN_n (by omega)).trans ((upR_n (by omega)).trans ((upR_n (by omega)).trans ((upR_n (by omega)).trans ((upR_n (by omega)).trans ((rN_n (by omega)).trans ((upR_n (by omega)).trans ((upR_n (by omega)).trans upR_s))))))))) ?_
  refine m_i1 (pc := 180) dX11_init_180 lk_X11_80 ok_X8_init rfl rfl (kc_X8_init_517 (R := (upR (upR (upR (upR (rN (upR (upR (upR (upR (upR (upR (upR (upR (upR (upR (upR (rN R0 1) 1 0 2) 1 1 4) 1 2 9) 1 3 14) 1 4 18) 1 5 22) 1 6 24) 1 7 26) 1 8 31) 1 9 32) 1 10 33) 153) 153 0 154) 153 1 275) 153 2 396) 1 11 153)) (w := (w + 10939)) (zI_u (zI_f (zI_u (zI_f (zI_us (zI_us (zI_u (zI_u (zI_u (zI_m (L' := 517) hz (by omega)) (by omega)) (by omega)) (by omega)) (by omega)) (by omega)) (by omega)) (by omega)) (by omega)) (by omega)) (fun a j h => ((upR_n (by omega)).trans ((upR_n (by omega)).trans ((upR_n (by omega)).trans ((upR_n (by omega)).trans ((rN_n (by omega)).trans ((upR_n (by omega)).trans ((upR_n (by omega)).trans ((upR_n (by omega)).trans ((upR_n (by omega)).trans ((upR_n (by omega)).trans ((upR_n (by omega)).trans ((upR_n (by omega)).trans ((upR_n (by omega)).trans ((upR_n (by omega)).trans ((upR_n (by omega)).trans ((upR_n (by omega)).trans ((rN_n (by omega)).trans (hR a j (by omega)))))))))))))))))))) (by omega) (kt_v ?_))
  refine k_pr (pc := 183) (k := 12) dX11_init_183 ff_X11_83 rfl rfl rfl rfl (⟨by decide +kernel, by omega, by omega⟩) ?_
  refine s_aload_n (pc := 186) (i := 0) dX11_init_186 rfl rfl ?_
  refine k_new (pc := 187) (ci := 2) (L' := 524) (w' := (w + 11020)) dX11_init_187 kl_X11_87 (by decide) (by decide +kernel) rfl rfl (by omega) (fun j => (zI_u (zI_f (zI_u (zI_f (zI_us (zI_us (zI_u (zI_u (zI_u (zI_m (L' := 523) hz (by omega)) (by omega)) (by omega)) (by omega)) (by omega)) (by omega)) (by omega)) (by omega)) (by omega)) (by omega)) _ j (by omega)) ?_
  refine s_dup (pc := 190) dX11_init_190 rfl ?_
  refine s_aload_n (pc := 191) (i := 0) dX11_init_191 rfl rfl ?_
  refine k_gr (pc := 192) (k := 8) (b := 31) dX11_init_192 ff_X11_58 rfl (⟨by decide +kernel, by omega, by omega⟩) (((rN_n (by omega)).trans ((upR_n (by omega)).trans ((upR_n (by omega)).trans ((upR_n (by omega)).trans ((upR_n (by omega)).trans ((upR_n (by omega)).trans ((rN_n (by omega)).trans ((upR_n (by omega)).trans ((upR_n (by omega)).trans upR_s)))))))))) ?_
  refine s_aload_n (pc := 195) (i := 0) dX11_init_195 rfl rfl ?_
  refine k_gr (pc := 196) (k := 5) (b := 22) dX11_init_196 ff_X11_39 rfl (⟨by decide +kernel, by omega, by omega⟩) (((rN_n (by omega)).trans ((upR_n (by omega)).trans ((upR_n (by omega)).trans ((upR_n (by omega)).trans ((upR_n (by omega)).trans ((upR_n (by omega)).trans ((rN_n (by omega)).trans ((upR_n (by omega)).trans ((upR_n (by omega)).trans ((upR_n (by omega)).trans ((upR_n (by omega)).trans ((upR_n (by omega)).trans upR_s))))))))))))) ?_
  refine m_i2 (pc := 199) dX11_init_199 lk_X11_89 ok_X2_init rfl rfl (kc_X2_init_524 (R := (upR (upR (upR (upR (upR (rN (upR (upR (upR (upR (upR (upR (upR (upR (upR (upR (upR (rN R0 1) 1 0 2) 1 1 4) 1 2 9) 1 3 14) 1 4 18) 1 5 22) 1 6 24) 1 7 26) 1 8 31) 1 9 32) 1 10 33) 153) 153 0 154) 153 1 275) 153 2 396) 1 11 153) 1 12 517)) (w := (w + 11020)) (zI_u (zI_f (zI_u (zI_f (zI_us (zI_us (zI_u (zI_u (zI_u (zI_m (L' := 524) hz (by omega)) (by omega)) (by omega)) (by omega)) (by omega)) (by omega)) (by omega)) (by omega)) (by omega)) (by omega)) (fun a j h => ((upR_n (by omega)).trans ((upR_n (by omega)).trans ((upR_n (by omega)).trans ((upR_n (by omega)).trans ((upR_n (by omega)).trans ((rN_n (by omega)).trans ((upR_n (by omega)).trans ((upR_n (by omega)).trans ((upR_n (by omega)).trans ((upR_n (by omega)).trans ((upR_n (by omega)).trans ((upR_n (by omega)).trans ((upR_n (by omega)).trans ((upR_n (by omega)).trans ((upR_n (by omega)).trans ((upR_n (by omega)).trans ((upR_n (by omega)).trans ((rN_n (by omega)).trans (hR a j (by omega))))))))))))))))))))) (by omega) (kt_v ?_))
  refine k_pr (pc := 202) (k := 13) dX11_init_202 ff_X11_92 rfl rfl rfl rfl (⟨by decide +kernel, by omega, by omega⟩) ?_
  refine s_aload_n (pc := 205) (i := 0) dX11_init_205 rfl rfl ?_
  refine k_new (pc := 206) (ci := 7) (L' := 526) (w' := (w + 11160)) dX11_init_206 kl_X11_96 (by decide) (by decide +kernel) rfl rfl (by omega) (fun j => (zI_u (zI_f (zI_u (zI_f (zI_us (zI_us (zI_u (zI_u (zI_u (zI_m (L' := 525) hz (by omega)) (by omega)) (by omega)) (by omega)) (by omega)) (by omega)) (by omega)) (by omega)) (by omega)) (by omega)) _ j (by omega)) ?_
  refine s_dup (pc := 209) dX11_init_209 rfl ?_
  refine s_aload_n (pc := 210) (i := 0) dX11_init_210 rfl rfl ?_
  refine k_gr (pc := 211) (k := 8) (b := 31) dX11_init_211 ff_X11_58 rfl (⟨by decide +kernel, by omega, by omega⟩) (((rN_n (by omega)).trans ((upR_n (by omega)).trans ((upR_n (by omega)).trans ((upR_n (by omega)).trans ((upR_n (by omega)).trans ((upR_n (by omega)).trans ((upR_n (by omega)).trans ((rN_n (by omega)).trans ((upR_n (by omega)).trans ((upR_n (by omega)).trans upR_s))))))))))) ?_
  refine m_i1 (pc := 214) dX11_init_214 lk_X11_98 ok_X7_init rfl rfl (kc_X7_init_526 (R := (upR (upR (upR (upR (upR (upR (rN (upR (upR (upR (upR (upR (upR (upR (upR (upR (upR (upR (rN R0 1) 1 0 2) 1 1 4) 1 2 9) 1 3 14) 1 4 18) 1 5 22) 1 6 24) 1 7 26) 1 8 31) 1 9 32) 1 10 33) 153) 153 0 154) 153 1 275) 153 2 396) 1 11 153) 1 12 517) 1 13 524)) (w := (w + 11160)) (zI_u (zI_f (zI_u (zI_f (zI_us (zI_us (zI_u (zI_u (zI_u (zI_m (L' := 526) hz (by omega)) (by omega)) (by omega)) (by omega)) (by omega)) (by omega)) (by omega)) (by omega)) (by omega)) (by omega)) (fun a j h => ((upR_n (by omega)).trans ((upR_n (by omega)).trans ((upR_n (by omega)).trans ((upR_n (by omega)).trans ((upR_n (by omega)).trans ((upR_n (by omega)).trans ((rN_n (by omega)).trans ((upR_n (by omega)).trans ((upR_n (by omega)).trans ((upR_n (by omega)).trans ((upR_n (by omega)).trans ((upR_n (by omega)).trans ((upR_n (by omega)).trans ((upR_n (by omega)).trans ((upR_n (by omega)).trans ((upR_n (by omega)).trans ((upR_n (by omega)).trans ((upR_n (by omega)).trans ((rN_n (by omega)).trans (hR a j (by omega)))))))))))))))))))))) (by omega) (kt_v ?_))
  refine k_pr (pc := 217) (k := 14) dX11_init_217 ff_X11_99 rfl rfl rfl rfl (⟨by decide +kernel, by omega, by omega⟩) ?_
  refine s_return (pc := 220) dX11_init_220 rfl ?_
  have eR : (upR (upR (upR (upR (upR (upR (upR (rN (upR (upR (upR (upR (upR (upR (upR (upR (upR (upR (upR (rN R0 1) 1 0 2) 1 1 4) 1 2 9) 1 3 14) 1 4 18) 1 5 22) 1 6 24) 1 7 26) 1 8 31) 1 9 32) 1 10 33) 153) 153 0 154) 153 1 275) 153 2 396) 1 11 153) 1 12 517) 1 13 524) 1 14 526) = R0 := by
    funext x j
    by_cases e : x = 1
    · subst e
      rw [r0_l (a := 1) (l := [some 2, some 4, some 9, some 14, some 18, some 22, some 24, some 26, some 31, some 32, some 33, some 153, some 517, some 524, some 526]) (by decide +kernel)]
      rcases j with _ | _ | _ | _ | _ | _ | _ | _ | _ | _ | _ | _ | _ | _ | _ | j <;> simp [upR, rN]
    · by_cases e2 : x = 153
      · subst e2
        rw [r0_l (a := 153) (l := [some 154, some 275, some 396]) (by decide +kernel)]
        rcases j with _ | _ | _ | j <;> simp [upR, rN]
      · simp [upR, rN, e, e2]
  rw [eR]; exact hq
end S
