section S
variable {g : aG} {d : Nat} {I : Nat → Nat → Int32} {J : Nat → Nat → Int64} {n w : Nat} {Q : aO → aS → Prop}
variable {R : Nat → Nat → Option Nat}
theorem upR_n {o k b x j : Nat} (h : x ≠ o ∨ j ≠ k) : upR R o k b x j = R x j := by unfold upR; rw [if_neg (by omega)]
theorem upR_s {o k b : Nat} : upR R o k b o k = some b := if_pos ⟨rfl, rfl⟩
theorem rN_n {o x j : Nat} (h : x ≠ o) : rN R o x j = R x j := if_neg h
theorem r0_nil {a j : Nat} (h : R0l.getD a [] = []) : R0 a j = none := by unfold R0; rw [h]; rfl
theorem r0_l {a j : Nat} {l : List (Option Nat)} (h : R0l.getD a [] = l) : R0 a j = l.getD j none := by unfold R0; rw [h]
/-- a State's references -/
def pS (s : Nat) : Prop := R0l.getD s [] = [some (s + 1), some (s + 2), some (s + 3), some (s + 4), some (s + 5), some (s + 6)] ∧ R0l.getD (s + 1) [] = [] ∧ R0l.getD (s + 2) [] = [] ∧ R0l.getD (s + 3) [] = [] ∧ R0l.getD (s + 4) [] = [] ∧ R0l.getD (s + 5) [] = [] ∧ R0l.getD (s + 6) [] = []
theorem kc_X9_init {o : Nat} (hs : sO o) (hp : pS o) (hz : zI o I) (hR : ∀ a j, o ≤ a → R a j = R0 a j) (hw : w + 124 ≤ 100000) (hq : Q (.inl none) (Kz I J0 R (o + 6) (w + 124))) : Cn g (d + 1) mX9_init [.ref o] (Kz I J0 (rN R o) o w) Q := by
  have ho1 := hs.1.2.1
  have ho6 := hs.2.2.2.2.2.2.2.2.2.2
  show Rn g (d + 1) mX9_init 0 [.ref o] [] [] (Kz I J0 (rN R o) o w) Q
  refine s_aload_n (pc := 0) (i := 0) dX9_init_0 rfl rfl ?_
  refine s_objI (pc := 1) dX9_init_1 ml_X9_3 in_obj cd_obj (by omega) (by decide) ?_
  refine s_aload_n (pc := 4) (i := 0) dX9_init_4 rfl rfl ?_
  refine m_bi (pc := 5) (v := 7) dX9_init_5 rfl ?_
  refine k_na (pc := 7) (t := 64) (n := 7) (L' := (o + 1)) (w' := (w + 7)) dX9_init_7 rfl (Or.inl rfl) ac_int (by decide) rfl (by decide) ((hs.2.1).2).1 ((hs.2.1).2).2.1 rfl rfl (by omega) (fun j => (zI_m (L' := o) hz (by omega)) _ j (by omega)) (fun j => ((rN_n (by omega)).trans ((hR _ j (by omega)).trans (r0_nil hp.2.1)))) ?_
  refine k_pr (pc := 9) (k := 0) dX9_init_9 ff_X9_9 rfl rfl rfl rfl (⟨hs.1.1, by omega, by omega⟩) ?_
  refine s_aload_n (pc := 12) (i := 0) dX9_init_12 rfl rfl ?_
  refine m_bi (pc := 13) (v := 7) dX9_init_13 rfl ?_
  refine k_na (pc := 15) (t := 64) (n := 7) (L' := (o + 2)) (w' := (w + 14)) dX9_init_15 rfl (Or.inl rfl) ac_int (by decide) rfl (by decide) ((hs.2.2.1).2).1 ((hs.2.2.1).2).2.1 rfl rfl (by omega) (fun j => (zI_m (L' := (o + 1)) hz (by omega)) _ j (by omega)) (fun j => ((upR_n (by omega)).trans ((rN_n (by omega)).trans ((hR _ j (by omega)).trans (r0_nil hp.2.2.1))))) ?_
  refine k_pr (pc := 17) (k := 1) dX9_init_17 ff_X9_15 rfl rfl rfl rfl (⟨hs.1.1, by omega, by omega⟩) ?_
  refine s_aload_n (pc := 20) (i := 0) dX9_init_20 rfl rfl ?_
  refine m_bi (pc := 21) (v := 7) dX9_init_21 rfl ?_
  refine k_na (pc := 23) (t := 64) (n := 7) (L' := (o + 3)) (w' := (w + 21)) dX9_init_23 rfl (Or.inl rfl) ac_int (by decide) rfl (by decide) ((hs.2.2.2.1).2).1 ((hs.2.2.2.1).2).2.1 rfl rfl (by omega) (fun j => (zI_m (L' := (o + 2)) hz (by omega)) _ j (by omega)) (fun j => ((upR_n (by omega)).trans ((upR_n (by omega)).trans ((rN_n (by omega)).trans ((hR _ j (by omega)).trans (r0_nil hp.2.2.2.1)))))) ?_
  refine k_pr (pc := 25) (k := 2) dX9_init_25 ff_X9_18 rfl rfl rfl rfl (⟨hs.1.1, by omega, by omega⟩) ?_
  refine s_aload_n (pc := 28) (i := 0) dX9_init_28 rfl rfl ?_
  refine m_bi (pc := 29) (v := 7) dX9_init_29 rfl ?_
  refine k_na (pc := 31) (t := 64) (n := 7) (L' := (o + 4)) (w' := (w + 28)) dX9_init_31 rfl (Or.inl rfl) ac_int (by decide) rfl (by decide) ((hs.2.2.2.2.1).2).1 ((hs.2.2.2.2.1).2).2.1 rfl rfl (by omega) (fun j => (zI_m (L' := (o + 3)) hz (by omega)) _ j (by omega)) (fun j => ((upR_n (by omega)).trans ((upR_n (by omega)).trans ((upR_n (by omega)).trans ((rN_n (by omega)).trans ((hR _ j (by omega)).trans (r0_nil hp.2.2.2.2.1))))))) ?_
  refine k_pr (pc := 33) (k := 3) dX9_init_33 ff_X9_21 rfl rfl rfl rfl (⟨hs.1.1, by omega, by omega⟩) ?_
  refine s_aload_n (pc := 36) (i := 0) dX9_init_36 rfl rfl ?_
  refine m_bi (pc := 37) (v := 84) dX9_init_37 rfl ?_
  refine k_na (pc := 39) (t := 64) (n := 84) (L' := (o + 5)) (w' := (w + 112)) dX9_init_39 rfl (Or.inl rfl) ac_int (by decide) rfl (by decide) ((hs.2.2.2.2.2.1).2).1 ((hs.2.2.2.2.2.1).2).2.1 rfl rfl (by omega) (fun j => (zI_m (L' := (o + 4)) hz (by omega)) _ j (by omega)) (fun j => ((upR_n (by omega)).trans ((upR_n (by omega)).trans ((upR_n (by omega)).trans ((upR_n (by omega)).trans ((rN_n (by omega)).trans ((hR _ j (by omega)).trans (r0_nil hp.2.2.2.2.2.1)))))))) ?_
  refine k_pr (pc := 41) (k := 4) dX9_init_41 ff_X9_24 rfl rfl rfl rfl (⟨hs.1.1, by omega, by omega⟩) ?_
  refine s_aload_n (pc := 44) (i := 0) dX9_init_44 rfl rfl ?_
  refine m_bi (pc := 45) (v := 12) dX9_init_45 rfl ?_
  refine k_na (pc := 47) (t := 64) (n := 12) (L' := (o + 6)) (w' := (w + 124)) dX9_init_47 rfl (Or.inl rfl) ac_int (by decide) rfl (by decide) ((hs.2.2.2.2.2.2).2).1 ((hs.2.2.2.2.2.2).2).2.1 rfl rfl (by omega) (fun j => (zI_m (L' := (o + 5)) hz (by omega)) _ j (by omega)) (fun j => ((upR_n (by omega)).trans ((upR_n (by omega)).trans ((upR_n (by omega)).trans ((upR_n (by omega)).trans ((upR_n (by omega)).trans ((rN_n (by omega)).trans ((hR _ j (by omega)).trans (r0_nil hp.2.2.2.2.2.2))))))))) ?_
  refine k_pr (pc := 49) (k := 5) dX9_init_49 ff_X9_27 rfl rfl rfl rfl (⟨hs.1.1, by omega, by omega⟩) ?_
  refine s_return (pc := 52) dX9_init_52 rfl ?_
  have eR : (upR (upR (upR (upR (upR (upR (rN R o) o 0 (o + 1)) o 1 (o + 2)) o 2 (o + 3)) o 3 (o + 4)) o 4 (o + 5)) o 5 (o + 6)) = R := by
    funext x j
    by_cases e : x = o
    · subst e
      rw [hR x j (Nat.le_refl _), r0_l hp.1]
      rcases j with _ | _ | _ | _ | _ | _ | j <;> simp [upR, rN]
    · simp [upR, rN, e]
  rw [eR]; exact hq
theorem kc_X10_init_2 (hz : zI 2 I) (hR : ∀ a j, 2 ≤ a → R a j = R0 a j) (hw : w + 600 ≤ 100000) (hq : Q (.inl none) (Kz (up I 2 7 (-1)) J0 R 3 (w + 600))) : Cn g (d + 1) mX10_init [.ref 2] (Kz I J0 (rN R 2) 2 w) Q := by
  show Rn g (d + 1) mX10_init 0 [.ref 2] [] [] (Kz I J0 (rN R 2) 2 w) Q
  refine s_aload_n (pc := 0) (i := 0) dX10_init_0 rfl rfl ?_
  refine s_objI (pc := 1) dX10_init_1 ml_X10_3 in_obj cd_obj (by omega) (by decide) ?_
  refine s_aload_n (pc := 4) (i := 0) dX10_init_4 rfl rfl ?_
  refine m_si (pc := 5) (v := 600) dX10_init_5 rfl ?_
  refine k_na (pc := 8) (t := 65) (n := 600) (L' := 3) (w' := (w + 600)) dX10_init_8 rfl (Or.inr (Or.inl rfl)) ac_byte (by decide) rfl (by decide) (by decide +kernel) (by decide +kernel) rfl rfl (by omega) (fun j => (zI_m (L' := 2) hz (by omega)) _ j (by omega)) (fun j => ((rN_n (by omega)).trans ((hR _ j (by omega)).trans (r0_nil (by decide +kernel))))) ?_
  refine k_pr (pc := 10) (k := 0) dX10_init_10 ff_X10_9 rfl rfl rfl rfl (⟨by decide +kernel, by omega, by omega⟩) ?_
  refine s_aload_n (pc := 13) (i := 0) dX10_init_13 rfl rfl ?_
  refine m_ic (pc := 14) (v := -1) dX10_init_14 rfl ?_
  refine k_pi (pc := 15) (k := 7) dX10_init_15 ff_X10_15 rfl rfl (⟨by decide +kernel, by omega, by omega⟩) ?_
  refine s_return (pc := 18) dX10_init_18 rfl ?_
  have eR : (upR (rN R 2) 2 0 3) = R := by
    funext x j
    by_cases e : x = 2
    · subst e
      rw [hR 2 j (Nat.le_refl _), r0_l (l := [some 3]) (by decide +kernel)]
      rcases j with _ | j <;> simp [upR, rN]
    · simp [upR, rN, e]
  rw [eR]; exact hq
theorem kc_X1_init_4 (hz : zI 4 I) (hR : ∀ a j, 4 ≤ a → R a j = R0 a j) (hw : w + 38 ≤ 100000) (hq : Q (.inl none) (Kz (up I 4 6 20) J0 R 8 (w + 38))) : Cn g (d + 1) mX1_init [.ref 4] (Kz I J0 (rN R 4) 4 w) Q := by
  show Rn g (d + 1) mX1_init 0 [.ref 4] [] [] (Kz I J0 (rN R 4) 4 w) Q
  refine s_aload_n (pc := 0) (i := 0) dX1_init_0 rfl rfl ?_
  refine s_objI (pc := 1) dX1_init_1 ml_X1_3 in_obj cd_obj (by omega) (by decide) ?_
  refine s_aload_n (pc := 4) (i := 0) dX1_init_4 rfl rfl ?_
  refine m_bi (pc := 5) (v := 7) dX1_init_5 rfl ?_
  refine k_na (pc := 7) (t := 64) (n := 7) (L' := 5) (w' := (w + 7)) dX1_init_7 rfl (Or.inl rfl) ac_int (by decide) rfl (by decide) (by decide +kernel) (by decide +kernel) rfl rfl (by omega) (fun j => (zI_m (L' := 4) hz (by omega)) _ j (by omega)) (fun j => ((rN_n (by omega)).trans ((hR _ j (by omega)).trans (r0_nil (by decide +kernel))))) ?_
  refine k_pr (pc := 9) (k := 0) dX1_init_9 ff_X1_9 rfl rfl rfl rfl (⟨by decide +kernel, by omega, by omega⟩) ?_
  refine s_aload_n (pc := 12) (i := 0) dX1_init_12 rfl rfl ?_
  refine m_bi (pc := 13) (v := 7) dX1_init_13 rfl ?_
  refine k_na (pc := 15) (t := 64) (n := 7) (L' := 6) (w' := (w + 14)) dX1_init_15 rfl (Or.inl rfl) ac_int (by decide) rfl (by decide) (by decide +kernel) (by decide +kernel) rfl rfl (by omega) (fun j => (zI_m (L' := 5) hz (by omega)) _ j (by omega)) (fun j => ((upR_n (by omega)).trans ((rN_n (by omega)).trans ((hR _ j (by omega)).trans (r0_nil (by decide +kernel)))))) ?_
  refine k_pr (pc := 17) (k := 1) dX1_init_17 ff_X1_15 rfl rfl rfl rfl (⟨by decide +kernel, by omega, by omega⟩) ?_
  refine s_aload_n (pc := 20) (i := 0) dX1_init_20 rfl rfl ?_
  refine m_bi (pc := 21) (v := 12) dX1_init_21 rfl ?_
  refine k_na (pc := 23) (t := 64) (n := 12) (L' := 7) (w' := (w + 26)) dX1_init_23 rfl (Or.inl rfl) ac_int (by decide) rfl (by decide) (by decide +kernel) (by decide +kernel) rfl rfl (by omega) (fun j => (zI_m (L' := 6) hz (by omega)) _ j (by omega)) (fun j => ((upR_n (by omega)).trans ((upR_n (by omega)).trans ((rN_n (by omega)).trans ((hR _ j (by omega)).trans (r0_nil (by decide +kernel))))))) ?_
  refine k_pr (pc := 25) (k := 2) dX1_init_25 ff_X1_18 rfl rfl rfl rfl (⟨by decide +kernel, by omega, by omega⟩) ?_
  refine s_aload_n (pc := 28) (i := 0) dX1_init_28 rfl rfl ?_
  refine m_bi (pc := 29) (v := 12) dX1_init_29 rfl ?_
  refine k_na (pc := 31) (t := 64) (n := 12) (L' := 8) (w' := (w + 38)) dX1_init_31 rfl (Or.inl rfl) ac_int (by decide) rfl (by decide) (by decide +kernel) (by decide +kernel) rfl rfl (by omega) (fun j => (zI_m (L' := 7) hz (by omega)) _ j (by omega)) (fun j => ((upR_n (by omega)).trans ((upR_n (by omega)).trans ((upR_n (by omega)).trans ((rN_n (by omega)).trans ((hR _ j (by omega)).trans (r0_nil (by decide +kernel)))))))) ?_
  refine k_pr (pc := 33) (k := 3) dX1_init_33 ff_X1_21 rfl rfl rfl rfl (⟨by decide +kernel, by omega, by omega⟩) ?_
  refine s_aload_n (pc := 36) (i := 0) dX1_init_36 rfl rfl ?_
  refine m_bi (pc := 37) (v := 20) dX1_init_37 rfl ?_
  refine k_pi (pc := 39) (k := 6) dX1_init_39 ff_X1_24 rfl rfl (⟨by decide +kernel, by omega, by omega⟩) ?_
  refine s_return (pc := 42) dX1_init_42 rfl ?_
  have eR : (upR (upR (upR (upR (rN R 4) 4 0 5) 4 1 6) 4 2 7) 4 3 8) = R := by
    funext x j
    by_cases e : x = 4
    · subst e
      rw [hR 4 j (Nat.le_refl _), r0_l (l := [some 5, some 6, some 7, some 8]) (by decide +kernel)]
      rcases j with _ | _ | _ | _ | j <;> simp [upR, rN]
    · simp [upR, rN, e]
  rw [eR]; exact hq
theorem kc_X1_init_9 (hz : zI 9 I) (hR : ∀ a j, 9 ≤ a → R a j = R0 a j) (hw : w + 38 ≤ 100000) (hq : Q (.inl none) (Kz (up I 9 6 20) J0 R 13 (w + 38))) : Cn g (d + 1) mX1_init [.ref 9] (Kz I J0 (rN R 9) 9 w) Q := by
  show Rn g (d + 1) mX1_init 0 [.ref 9] [] [] (Kz I J0 (rN R 9) 9 w) Q
  refine s_aload_n (pc := 0) (i := 0) dX1_init_0 rfl rfl ?_
  refine s_objI (pc := 1) dX1_init_1 ml_X1_3 in_obj cd_obj (by omega) (by decide) ?_
  refine s_aload_n (pc := 4) (i := 0) dX1_init_4 rfl rfl ?_
  refine m_bi (pc := 5) (v := 7) dX1_init_5 rfl ?_
  refine k_na (pc := 7) (t := 64) (n := 7) (L' := 10) (w' := (w + 7)) dX1_init_7 rfl (Or.inl rfl) ac_int (by decide) rfl (by decide) (by decide +kernel) (by decide +kernel) rfl rfl (by omega) (fun j => (zI_m (L' := 9) hz (by omega)) _ j (by omega)) (fun j => ((rN_n (by omega)).trans ((hR _ j (by omega)).trans (r0_nil (by decide +kernel))))) ?_
  refine k_pr (pc := 9) (k := 0) dX1_init_9 ff_X1_9 rfl rfl rfl rfl (⟨by decide +kernel, by omega, by omega⟩) ?_
  refine s_aload_n (pc := 12) (i := 0) dX1_init_12 rfl rfl ?_
  refine m_bi (pc := 13) (v := 7) dX1_init_13 rfl ?_
  refine k_na (pc := 15) (t := 64) (n := 7) (L' := 11) (w' := (w + 14)) dX1_init_15 rfl (Or.inl rfl) ac_int (by decide) rfl (by decide) (by decide +kernel) (by decide +kernel) rfl rfl (by omega) (fun j => (zI_m (L' := 10) hz (by omega)) _ j (by omega)) (fun j => ((upR_n (by omega)).trans ((rN_n (by omega)).trans ((hR _ j (by omega)).trans (r0_nil (by decide +kernel)))))) ?_
  refine k_pr (pc := 17) (k := 1) dX1_init_17 ff_X1_15 rfl rfl rfl rfl (⟨by decide +kernel, by omega, by omega⟩) ?_
  refine s_aload_n (pc := 20) (i := 0) dX1_init_20 rfl rfl ?_
  refine m_bi (pc := 21) (v := 12) dX1_init_21 rfl ?_
  refine k_na (pc := 23) (t := 64) (n := 12) (L' := 12) (w' := (w + 26)) dX1_init_23 rfl (Or.inl rfl) ac_int (by decide) rfl (by decide) (by decide +kernel) (by decide +kernel) rfl rfl (by omega) (fun j => (zI_m (L' := 11) hz (by omega)) _ j (by omega)) (fun j => ((upR_n (by omega)).trans ((upR_n (by omega)).trans ((rN_n (by omega)).trans ((hR _ j (by omega)).trans (r0_nil (by decide +kernel))))))) ?_
  refine k_pr (pc := 25) (k := 2) dX1_init_25 ff_X1_18 rfl rfl rfl rfl (⟨by decide +kernel, by omega, by omega⟩) ?_
  refine s_aload_n (pc := 28) (i := 0) dX1_init_28 rfl rfl ?_
  refine m_bi (pc := 29) (v := 12) dX1_init_29 rfl ?_
  refine k_na (pc := 31) (t := 64) (n := 12) (L' := 13) (w' := (w + 38)) dX1_init_31 rfl (Or.inl rfl) ac_int (by decide) rfl (by decide) (by decide +kernel) (by decide +kernel) rfl rfl (by omega) (fun j => (zI_m (L' := 12) hz (by omega)) _ j (by omega)) (fun j => ((upR_n (by omega)).trans ((upR_n (by omega)).trans ((upR_n (by omega)).trans ((rN_n (by omega)).trans ((hR _ j (by omega)).trans (r0_nil (by decide +kernel)))))))) ?_
  refine k_pr (pc := 33) (k := 3) dX1_init_33 ff_X1_21 rfl rfl rfl rfl (⟨by decide +kernel, by omega, by omega⟩) ?_
  refine s_aload_n (pc := 36) (i := 0) dX1_init_36 rfl rfl ?_
  refine m_bi (pc := 37) (v := 20) dX1_init_37 rfl ?_
  refine k_pi (pc := 39) (k := 6) dX1_init_39 ff_X1_24 rfl rfl (⟨by decide +kernel, by omega, by omega⟩) ?_
  refine s_return (pc := 42) dX1_init_42 rfl ?_
  have eR : (upR (upR (upR (upR (rN R 9) 9 0 10) 9 1 11) 9 2 12) 9 3 13) = R := by
    funext x j
    by_cases e : x = 9
    · subst e
      rw [hR 9 j (Nat.le_refl _), r0_l (l := [some 10, some 11, some 12, some 13]) (by decide +kernel)]
      rcases j with _ | _ | _ | _ | j <;> simp [upR, rN]
    · simp [upR, rN, e]
  rw [eR]; exact hq
theorem kc_X4_init_14 (hz : zI 14 I) (hR : ∀ a j, 14 ≤ a → R a j = R0 a j) (hw : w + 309 ≤ 100000) (hq : Q (.inl none) (Kz (usL I 14) J0 R 17 (w + 309))) : Cn g (d + 2) mX4_init [.ref 14] (Kz I J0 (rN R 14) 14 w) Q := by
  show Rn g (d + 2) mX4_init 0 [.ref 14] [] [] (Kz I J0 (rN R 14) 14 w) Q
  refine s_aload_n (pc := 0) (i := 0) dX4_init_0 rfl rfl ?_
  refine s_objI (pc := 1) dX4_init_1 ml_X4_3 in_obj cd_obj (by omega) (by decide) ?_
  refine s_aload_n (pc := 4) (i := 0) dX4_init_4 rfl rfl ?_
  refine m_si (pc := 5) (v := 150) dX4_init_5 rfl ?_
  refine k_na (pc := 8) (t := 64) (n := 150) (L' := 15) (w' := (w + 150)) dX4_init_8 rfl (Or.inl rfl) ac_int (by decide) rfl (by decide) (by decide +kernel) (by decide +kernel) rfl rfl (by omega) (fun j => (zI_m (L' := 14) hz (by omega)) _ j (by omega)) (fun j => ((rN_n (by omega)).trans ((hR _ j (by omega)).trans (r0_nil (by decide +kernel))))) ?_
  refine k_pr (pc := 10) (k := 0) dX4_init_10 ff_X4_9 rfl rfl rfl rfl (⟨by decide +kernel, by omega, by omega⟩) ?_
  refine s_aload_n (pc := 13) (i := 0) dX4_init_13 rfl rfl ?_
  refine m_bi (pc := 14) (v := 9) dX4_init_14 rfl ?_
  refine k_na (pc := 16) (t := 64) (n := 9) (L' := 16) (w' := (w + 159)) dX4_init_16 rfl (Or.inl rfl) ac_int (by decide) rfl (by decide) (by decide +kernel) (by decide +kernel) rfl rfl (by omega) (fun j => (zI_m (L' := 15) hz (by omega)) _ j (by omega)) (fun j => ((upR_n (by omega)).trans ((rN_n (by omega)).trans ((hR _ j (by omega)).trans (r0_nil (by decide +kernel)))))) ?_
  refine k_pr (pc := 18) (k := 1) dX4_init_18 ff_X4_15 rfl rfl rfl rfl (⟨by decide +kernel, by omega, by omega⟩) ?_
  refine s_aload_n (pc := 21) (i := 0) dX4_init_21 rfl rfl ?_
  refine m_si (pc := 22) (v := 150) dX4_init_22 rfl ?_
  refine k_na (pc := 25) (t := 64) (n := 150) (L' := 17) (w' := (w + 309)) dX4_init_25 rfl (Or.inl rfl) ac_int (by decide) rfl (by decide) (by decide +kernel) (by decide +kernel) rfl rfl (by omega) (fun j => (zI_m (L' := 16) hz (by omega)) _ j (by omega)) (fun j => ((upR_n (by omega)).trans ((upR_n (by omega)).trans ((rN_n (by omega)).trans ((hR _ j (by omega)).trans (r0_nil (by decide +kernel))))))) ?_
  refine k_pr (pc := 27) (k := 2) dX4_init_27 ff_X4_18 rfl rfl rfl rfl (⟨by decide +kernel, by omega, by omega⟩) ?_
  refine s_aload_n (pc := 30) (i := 0) dX4_init_30 rfl rfl ?_
  refine m_v0 (pc := 31) dX4_init_31 lk_X4_21 ok_X4_beUsual (rcK (ci := 4) ⟨by decide +kernel, by omega, by omega⟩ (by decide) rfl) rfl rfl (kc_X4_beUsual (o := 14) ⟨⟨by decide +kernel, by omega, by omega⟩, (upR_n (by omega)).trans ((upR_n (by omega)).trans upR_s), ⟨by decide +kernel, by decide +kernel, by omega, by omega⟩⟩ (kt_v ?_))
  refine s_return (pc := 34) dX4_init_34 rfl ?_
  have eR : (upR (upR (upR (rN R 14) 14 0 15) 14 1 16) 14 2 17) = R := by
    funext x j
    by_cases e : x = 14
    · subst e
      rw [hR 14 j (Nat.le_refl _), r0_l (l := [some 15, some 16, some 17]) (by decide +kernel)]
      rcases j with _ | _ | _ | j <;> simp [upR, rN]
    · simp [upR, rN, e]
  rw [eR]; exact hq
theorem kc_X4_init_18 (hz : zI 18 I) (hR : ∀ a j, 18 ≤ a → R a j = R0 a j) (hw : w + 309 ≤ 100000) (hq : Q (.inl none) (Kz (usL I 18) J0 R 21 (w + 309))) : Cn g (d + 2) mX4_init [.ref 18] (Kz I J0 (rN R 18) 18 w) Q := by
  show Rn g (d + 2) mX4_init 0 [.ref 18] [] [] (Kz I J0 (rN R 18) 18 w) Q
  refine s_aload_n (pc := 0) (i := 0) dX4_init_0 rfl rfl ?_
  refine s_objI (pc := 1) dX4_init_1 ml_X4_3 in_obj cd_obj (by omega) (by decide) ?_
  refine s_aload_n (pc := 4) (i := 0) dX4_init_4 rfl rfl ?_
  refine m_si (pc := 5) (v := 150) dX4_init_5 rfl ?_
  refine k_na (pc := 8) (t := 64) (n := 150) (L' := 19) (w' := (w + 150)) dX4_init_8 rfl (Or.inl rfl) ac_int (by decide) rfl (by decide) (by decide +kernel) (by decide +kernel) rfl rfl (by omega) (fun j => (zI_m (L' := 18) hz (by omega)) _ j (by omega)) (fun j => ((rN_n (by omega)).trans ((hR _ j (by omega)).trans (r0_nil (by decide +kernel))))) ?_
  refine k_pr (pc := 10) (k := 0) dX4_init_10 ff_X4_9 rfl rfl rfl rfl (⟨by decide +kernel, by omega, by omega⟩) ?_
  refine s_aload_n (pc := 13) (i := 0) dX4_init_13 rfl rfl ?_
  refine m_bi (pc := 14) (v := 9) dX4_init_14 rfl ?_
  refine k_na (pc := 16) (t := 64) (n := 9) (L' := 20) (w' := (w + 159)) dX4_init_16 rfl (Or.inl rfl) ac_int (by decide) rfl (by decide) (by decide +kernel) (by decide +kernel) rfl rfl (by omega) (fun j => (zI_m (L' := 19) hz (by omega)) _ j (by omega)) (fun j => ((upR_n (by omega)).trans ((rN_n (by omega)).trans ((hR _ j (by omega)).trans (r0_nil (by decide +kernel)))))) ?_
  refine k_pr (pc := 18) (k := 1) dX4_init_18 ff_X4_15 rfl rfl rfl rfl (⟨by decide +kernel, by omega, by omega⟩) ?_
  refine s_aload_n (pc := 21) (i := 0) dX4_init_21 rfl rfl ?_
  refine m_si (pc := 22) (v := 150) dX4_init_22 rfl ?_
  refine k_na (pc := 25) (t := 64) (n := 150) (L' := 21) (w' := (w + 309)) dX4_init_25 rfl (Or.inl rfl) ac_int (by decide) rfl (by decide) (by decide +kernel) (by decide +kernel) rfl rfl (by omega) (fun j => (zI_m (L' := 20) hz (by omega)) _ j (by omega)) (fun j => ((upR_n (by omega)).trans ((upR_n (by omega)).trans ((rN_n (by omega)).trans ((hR _ j (by omega)).trans (r0_nil (by decide +kernel))))))) ?_
  refine k_pr (pc := 27) (k := 2) dX4_init_27 ff_X4_18 rfl rfl rfl rfl (⟨by decide +kernel, by omega, by omega⟩) ?_
  refine s_aload_n (pc := 30) (i := 0) dX4_init_30 rfl rfl ?_
  refine m_v0 (pc := 31) dX4_init_31 lk_X4_21 ok_X4_beUsual (rcK (ci := 4) ⟨by decide +kernel, by omega, by omega⟩ (by decide) rfl) rfl rfl (kc_X4_beUsual (o := 18) ⟨⟨by decide +kernel, by omega, by omega⟩, (upR_n (by omega)).trans ((upR_n (by omega)).trans upR_s), ⟨by decide +kernel, by decide +kernel, by omega, by omega⟩⟩ (kt_v ?_))
  refine s_return (pc := 34) dX4_init_34 rfl ?_
  have eR : (upR (upR (upR (rN R 18) 18 0 19) 18 1 20) 18 2 21) = R := by
    funext x j
    by_cases e : x = 18
    · subst e
      rw [hR 18 j (Nat.le_refl _), r0_l (l := [some 19, some 20, some 21]) (by decide +kernel)]
      rcases j with _ | _ | _ | j <;> simp [upR, rN]
    · simp [upR, rN, e]
  rw [eR]; exact hq
theorem kc_X0_init_22 (hz : zI 22 I) (hR : ∀ a j, 22 ≤ a → R a j = R0 a j) (hw : w + 7 ≤ 100000) (hq : Q (.inl none) (Kz (up (flI I 23 7 (-1)) 22 1 0) J0 R 23 (w + 7))) : Cn g (d + 2) mX0_init [.ref 22] (Kz I J0 (rN R 22) 22 w) Q := by
  show Rn g (d + 2) mX0_init 0 [.ref 22] [] [] (Kz I J0 (rN R 22) 22 w) Q
  refine s_aload_n (pc := 0) (i := 0) dX0_init_0 rfl rfl ?_
  refine s_objI (pc := 1) dX0_init_1 ml_X0_3 in_obj cd_obj (by omega) (by decide) ?_
  refine s_aload_n (pc := 4) (i := 0) dX0_init_4 rfl rfl ?_
  refine m_bi (pc := 5) (v := 7) dX0_init_5 rfl ?_
  refine k_na (pc := 7) (t := 64) (n := 7) (L' := 23) (w' := (w + 7)) dX0_init_7 rfl (Or.inl rfl) ac_int (by decide) rfl (by decide) (by decide +kernel) (by decide +kernel) rfl rfl (by omega) (fun j => (zI_m (L' := 22) hz (by omega)) _ j (by omega)) (fun j => ((rN_n (by omega)).trans ((hR _ j (by omega)).trans (r0_nil (by decide +kernel))))) ?_
  refine k_pr (pc := 9) (k := 0) dX0_init_9 ff_X0_9 rfl rfl rfl rfl (⟨by decide +kernel, by omega, by omega⟩) ?_
  refine s_aload_n (pc := 12) (i := 0) dX0_init_12 rfl rfl ?_
  refine m_v0 (pc := 13) dX0_init_13 lk_X0_15 ok_X0_clear (rcK (ci := 0) ⟨by decide +kernel, by omega, by omega⟩ (by decide) rfl) rfl rfl (kc_X0_clear (o := 22) ⟨⟨by decide +kernel, by omega, by omega⟩, upR_s, ⟨by decide +kernel, by decide +kernel, by omega, by omega⟩⟩ (kt_v ?_))
  refine s_return (pc := 16) dX0_init_16 rfl ?_
  have eR : (upR (rN R 22) 22 0 23) = R := by
    funext x j
    by_cases e : x = 22
    · subst e
      rw [hR 22 j (Nat.le_refl _), r0_l (l := [some 23]) (by decide +kernel)]
      rcases j with _ | j <;> simp [upR, rN]
    · simp [upR, rN, e]
  rw [eR]; exact hq
theorem kc_X0_init_24 (hz : zI 24 I) (hR : ∀ a j, 24 ≤ a → R a j = R0 a j) (hw : w + 7 ≤ 100000) (hq : Q (.inl none) (Kz (up (flI I 25 7 (-1)) 24 1 0) J0 R 25 (w + 7))) : Cn g (d + 2) mX0_init [.ref 24] (Kz I J0 (rN R 24) 24 w) Q := by
  show Rn g (d + 2) mX0_init 0 [.ref 24] [] [] (Kz I J0 (rN R 24) 24 w) Q
  refine s_aload_n (pc := 0) (i := 0) dX0_init_0 rfl rfl ?_
  refine s_objI (pc := 1) dX0_init_1 ml_X0_3 in_obj cd_obj (by omega) (by decide) ?_
  refine s_aload_n (pc := 4) (i := 0) dX0_init_4 rfl rfl ?_
  refine m_bi (pc := 5) (v := 7) dX0_init_5 rfl ?_
  refine k_na (pc := 7) (t := 64) (n := 7) (L' := 25) (w' := (w + 7)) dX0_init_7 rfl (Or.inl rfl) ac_int (by decide) rfl (by decide) (by decide +kernel) (by decide +kernel) rfl rfl (by omega) (fun j => (zI_m (L' := 24) hz (by omega)) _ j (by omega)) (fun j => ((rN_n (by omega)).trans ((hR _ j (by omega)).trans (r0_nil (by decide +kernel))))) ?_
  refine k_pr (pc := 9) (k := 0) dX0_init_9 ff_X0_9 rfl rfl rfl rfl (⟨by decide +kernel, by omega, by omega⟩) ?_
  refine s_aload_n (pc := 12) (i := 0) dX0_init_12 rfl rfl ?_
  refine m_v0 (pc := 13) dX0_init_13 lk_X0_15 ok_X0_clear (rcK (ci := 0) ⟨by decide +kernel, by omega, by omega⟩ (by decide) rfl) rfl rfl (kc_X0_clear (o := 24) ⟨⟨by decide +kernel, by omega, by omega⟩, upR_s, ⟨by decide +kernel, by decide +kernel, by omega, by omega⟩⟩ (kt_v ?_))
  refine s_return (pc := 16) dX0_init_16 rfl ?_
  have eR : (upR (rN R 24) 24 0 25) = R := by
    funext x j
    by_cases e : x = 24
    · subst e
      rw [hR 24 j (Nat.le_refl _), r0_l (l := [some 25]) (by decide +kernel)]
      rcases j with _ | j <;> simp [upR, rN]
    · simp [upR, rN, e]
  rw [eR]; exact hq
theorem kc_X6_init_26 (hz : zI 26 I) (hR : ∀ a j, 26 ≤ a → R a j = R0 a j) (hw : w + 456 ≤ 100000) (hq : Q (.inl none) (Kz I J0 R 30 (w + 456))) : Cn g (d + 1) mX6_init [.ref 26] (Kz I J0 (rN R 26) 26 w) Q := by
  show Rn g (d + 1) mX6_init 0 [.ref 26] [] [] (Kz I J0 (rN R 26) 26 w) Q
  refine s_aload_n (pc := 0) (i := 0) dX6_init_0 rfl rfl ?_
  refine s_objI (pc := 1) dX6_init_1 ml_X6_3 in_obj cd_obj (by omega) (by decide) ?_
  refine s_aload_n (pc := 4) (i := 0) dX6_init_4 rfl rfl ?_
  refine m_si (pc := 5) (v := 150) dX6_init_5 rfl ?_
  refine k_na (pc := 8) (t := 64) (n := 150) (L' := 27) (w' := (w + 150)) dX6_init_8 rfl (Or.inl rfl) ac_int (by decide) rfl (by decide) (by decide +kernel) (by decide +kernel) rfl rfl (by omega) (fun j => (zI_m (L' := 26) hz (by omega)) _ j (by omega)) (fun j => ((rN_n (by omega)).trans ((hR _ j (by omega)).trans (r0_nil (by decide +kernel))))) ?_
  refine k_pr (pc := 10) (k := 0) dX6_init_10 ff_X6_9 rfl rfl rfl rfl (⟨by decide +kernel, by omega, by omega⟩) ?_
  refine s_aload_n (pc := 13) (i := 0) dX6_init_13 rfl rfl ?_
  refine m_si (pc := 14) (v := 150) dX6_init_14 rfl ?_
  refine k_na (pc := 17) (t := 64) (n := 150) (L' := 28) (w' := (w + 300)) dX6_init_17 rfl (Or.inl rfl) ac_int (by decide) rfl (by decide) (by decide +kernel) (by decide +kernel) rfl rfl (by omega) (fun j => (zI_m (L' := 27) hz (by omega)) _ j (by omega)) (fun j => ((upR_n (by omega)).trans ((rN_n (by omega)).trans ((hR _ j (by omega)).trans (r0_nil (by decide +kernel)))))) ?_
  refine k_pr (pc := 19) (k := 1) dX6_init_19 ff_X6_15 rfl rfl rfl rfl (⟨by decide +kernel, by omega, by omega⟩) ?_
  refine s_aload_n (pc := 22) (i := 0) dX6_init_22 rfl rfl ?_
  refine m_si (pc := 23) (v := 150) dX6_init_23 rfl ?_
  refine k_na (pc := 26) (t := 64) (n := 150) (L' := 29) (w' := (w + 450)) dX6_init_26 rfl (Or.inl rfl) ac_int (by decide) rfl (by decide) (by decide +kernel) (by decide +kernel) rfl rfl (by omega) (fun j => (zI_m (L' := 28) hz (by omega)) _ j (by omega)) (fun j => ((upR_n (by omega)).trans ((upR_n (by omega)).trans ((rN_n (by omega)).trans ((hR _ j (by omega)).trans (r0_nil (by decide +kernel))))))) ?_
  refine k_pr (pc := 28) (k := 2) dX6_init_28 ff_X6_18 rfl rfl rfl rfl (⟨by decide +kernel, by omega, by omega⟩) ?_
  refine s_aload_n (pc := 31) (i := 0) dX6_init_31 rfl rfl ?_
  refine m_bi (pc := 32) (v := 6) dX6_init_32 rfl ?_
  refine k_na (pc := 34) (t := 64) (n := 6) (L' := 30) (w' := (w + 456)) dX6_init_34 rfl (Or.inl rfl) ac_int (by decide) rfl (by decide) (by decide +kernel) (by decide +kernel) rfl rfl (by omega) (fun j => (zI_m (L' := 29) hz (by omega)) _ j (by omega)) (fun j => ((upR_n (by omega)).trans ((upR_n (by omega)).trans ((upR_n (by omega)).trans ((rN_n (by omega)).trans ((hR _ j (by omega)).trans (r0_nil (by decide +kernel)))))))) ?_
  refine k_pr (pc := 36) (k := 3) dX6_init_36 ff_X6_21 rfl rfl rfl rfl (⟨by decide +kernel, by omega, by omega⟩) ?_
  refine s_return (pc := 39) dX6_init_39 rfl ?_
  have eR : (upR (upR (upR (upR (rN R 26) 26 0 27) 26 1 28) 26 2 29) 26 3 30) = R := by
    funext x j
    by_cases e : x = 26
    · subst e
      rw [hR 26 j (Nat.le_refl _), r0_l (l := [some 27, some 28, some 29, some 30]) (by decide +kernel)]
      rcases j with _ | _ | _ | _ | j <;> simp [upR, rN]
    · simp [upR, rN, e]
  rw [eR]; exact hq
theorem kc_X3_init_31 (hz : zI 31 I) (hR : ∀ a j, 31 ≤ a → R a j = R0 a j) (hw : w + 0 ≤ 100000) (hq : Q (.inl none) (Kz I J0 R 31 (w + 0))) : Cn g (d + 1) mX3_init [.ref 31, .ref 4, .ref 14] (Kz I J0 (rN R 31) 31 w) Q := by
  show Rn g (d + 1) mX3_init 0 [.ref 31, .ref 4, .ref 14] [] [] (Kz I J0 (rN R 31) 31 w) Q
  refine s_aload_n (pc := 0) (i := 0) dX3_init_0 rfl rfl ?_
  refine s_objI (pc := 1) dX3_init_1 ml_X3_3 in_obj cd_obj (by omega) (by decide) ?_
  refine s_aload_n (pc := 4) (i := 0) dX3_init_4 rfl rfl ?_
  refine s_aload_n (pc := 5) (i := 1) dX3_init_5 rfl rfl ?_
  refine k_pr (pc := 6) (k := 0) dX3_init_6 ff_X3_9 rfl rfl rfl rfl (⟨by decide +kernel, by omega, by omega⟩) ?_
  refine s_aload_n (pc := 9) (i := 0) dX3_init_9 rfl rfl ?_
  refine s_aload_n (pc := 10) (i := 2) dX3_init_10 rfl rfl ?_
  refine k_pr (pc := 11) (k := 1) dX3_init_11 ff_X3_15 rfl rfl rfl rfl (⟨by decide +kernel, by omega, by omega⟩) ?_
  refine s_return (pc := 14) dX3_init_14 rfl ?_
  have eR : (upR (upR (rN R 31) 31 0 4) 31 1 14) = R := by
    funext x j
    by_cases e : x = 31
    · subst e
      rw [hR 31 j (Nat.le_refl _), r0_l (l := [some 4, some 14]) (by decide +kernel)]
      rcases j with _ | _ | j <;> simp [upR, rN]
    · simp [upR, rN, e]
  rw [eR]; exact hq
theorem kc_X8_init_517 (hz : zI 517 I) (hR : ∀ a j, 517 ≤ a → R a j = R0 a j) (hw : w + 74 ≤ 100000) (hq : Q (.inl none) (Kz I J0 R 523 (w + 74))) : Cn g (d + 1) mX8_init [.ref 517, .ref 31] (Kz I J0 (rN R 517) 517 w) Q := by
  show Rn g (d + 1) mX8_init 0 [.ref 517, .ref 31] [] [] (Kz I J0 (rN R 517) 517 w) Q
  refine s_aload_n (pc := 0) (i := 0) dX8_init_0 rfl rfl ?_
  refine s_objI (pc := 1) dX8_init_1 ml_X8_3 in_obj cd_obj (by omega) (by decide) ?_
  refine s_aload_n (pc := 4) (i := 0) dX8_init_4 rfl rfl ?_
  refine m_bi (pc := 5) (v := 6) dX8_init_5 rfl ?_
  refine k_na (pc := 7) (t := 64) (n := 6) (L' := 518) (w' := (w + 6)) dX8_init_7 rfl (Or.inl rfl) ac_int (by decide) rfl (by decide) (by decide +kernel) (by decide +kernel) rfl rfl (by omega) (fun j => (zI_m (L' := 517) hz (by omega)) _ j (by omega)) (fun j => ((rN_n (by omega)).trans ((hR _ j (by omega)).trans (r0_nil (by decide +kernel))))) ?_
  refine k_pr (pc := 9) (k := 1) dX8_init_9 ff_X8_9 rfl rfl rfl rfl (⟨by decide +kernel, by omega, by omega⟩) ?_
  refine s_aload_n (pc := 12) (i := 0) dX8_init_12 rfl rfl ?_
  refine m_bi (pc := 13) (v := 42) dX8_init_13 rfl ?_
  refine k_na (pc := 15) (t := 64) (n := 42) (L' := 519) (w' := (w + 48)) dX8_init_15 rfl (Or.inl rfl) ac_int (by decide) rfl (by decide) (by decide +kernel) (by decide +kernel) rfl rfl (by omega) (fun j => (zI_m (L' := 518) hz (by omega)) _ j (by omega)) (fun j => ((upR_n (by omega)).trans ((rN_n (by omega)).trans ((hR _ j (by omega)).trans (r0_nil (by decide +kernel)))))) ?_
  refine k_pr (pc := 17) (k := 2) dX8_init_17 ff_X8_15 rfl rfl rfl rfl (⟨by decide +kernel, by omega, by omega⟩) ?_
  refine s_aload_n (pc := 20) (i := 0) dX8_init_20 rfl rfl ?_
  refine m_bi (pc := 21) (v := 7) dX8_init_21 rfl ?_
  refine k_na (pc := 23) (t := 64) (n := 7) (L' := 520) (w' := (w + 55)) dX8_init_23 rfl (Or.inl rfl) ac_int (by decide) rfl (by decide) (by decide +kernel) (by decide +kernel) rfl rfl (by omega) (fun j => (zI_m (L' := 519) hz (by omega)) _ j (by omega)) (fun j => ((upR_n (by omega)).trans ((upR_n (by omega)).trans ((rN_n (by omega)).trans ((hR _ j (by omega)).trans (r0_nil (by decide +kernel))))))) ?_
  refine k_pr (pc := 25) (k := 3) dX8_init_25 ff_X8_18 rfl rfl rfl rfl (⟨by decide +kernel, by omega, by omega⟩) ?_
  refine s_aload_n (pc := 28) (i := 0) dX8_init_28 rfl rfl ?_
  refine m_bi (pc := 29) (v := 7) dX8_init_29 rfl ?_
  refine k_na (pc := 31) (t := 64) (n := 7) (L' := 521) (w' := (w + 62)) dX8_init_31 rfl (Or.inl rfl) ac_int (by decide) rfl (by decide) (by decide +kernel) (by decide +kernel) rfl rfl (by omega) (fun j => (zI_m (L' := 520) hz (by omega)) _ j (by omega)) (fun j => ((upR_n (by omega)).trans ((upR_n (by omega)).trans ((upR_n (by omega)).trans ((rN_n (by omega)).trans ((hR _ j (by omega)).trans (r0_nil (by decide +kernel)))))))) ?_
  refine k_pr (pc := 33) (k := 4) dX8_init_33 ff_X8_21 rfl rfl rfl rfl (⟨by decide +kernel, by omega, by omega⟩) ?_
  refine s_aload_n (pc := 36) (i := 0) dX8_init_36 rfl rfl ?_
  refine m_bi (pc := 37) (v := 6) dX8_init_37 rfl ?_
  refine k_na (pc := 39) (t := 64) (n := 6) (L' := 522) (w' := (w + 68)) dX8_init_39 rfl (Or.inl rfl) ac_int (by decide) rfl (by decide) (by decide +kernel) (by decide +kernel) rfl rfl (by omega) (fun j => (zI_m (L' := 521) hz (by omega)) _ j (by omega)) (fun j => ((upR_n (by omega)).trans ((upR_n (by omega)).trans ((upR_n (by omega)).trans ((upR_n (by omega)).trans ((rN_n (by omega)).trans ((hR _ j (by omega)).trans (r0_nil (by decide +kernel))))))))) ?_
  refine k_pr (pc := 41) (k := 5) dX8_init_41 ff_X8_24 rfl rfl rfl rfl (⟨by decide +kernel, by omega, by omega⟩) ?_
  refine s_aload_n (pc := 44) (i := 0) dX8_init_44 rfl rfl ?_
  refine m_bi (pc := 45) (v := 6) dX8_init_45 rfl ?_
  refine k_na (pc := 47) (t := 64) (n := 6) (L' := 523) (w' := (w + 74)) dX8_init_47 rfl (Or.inl rfl) ac_int (by decide) rfl (by decide) (by decide +kernel) (by decide +kernel) rfl rfl (by omega) (fun j => (zI_m (L' := 522) hz (by omega)) _ j (by omega)) (fun j => ((upR_n (by omega)).trans ((upR_n (by omega)).trans ((upR_n (by omega)).trans ((upR_n (by omega)).trans ((upR_n (by omega)).trans ((rN_n (by omega)).trans ((hR _ j (by omega)).trans (r0_nil (by decide +kernel)))))))))) ?_
  refine k_pr (pc := 49) (k := 6) dX8_init_49 ff_X8_27 rfl rfl rfl rfl (⟨by decide +kernel, by omega, by omega⟩) ?_
  refine s_aload_n (pc := 52) (i := 0) dX8_init_52 rfl rfl ?_
  refine s_aload_n (pc := 53) (i := 1) dX8_init_53 rfl rfl ?_
  refine k_pr (pc := 54) (k := 0) dX8_init_54 ff_X8_30 rfl rfl rfl rfl (⟨by decide +kernel, by omega, by omega⟩) ?_
  refine s_return (pc := 57) dX8_init_57 rfl ?_
  have eR : (upR (upR (upR (upR (upR (upR (upR (rN R 517) 517 1 518) 517 2 519) 517 3 520) 517 4 521) 517 5 522) 517 6 523) 517 0 31) = R := by
    funext x j
    by_cases e : x = 517
    · subst e
      rw [hR 517 j (Nat.le_refl _), r0_l (l := [some 31, some 518, some 519, some 520, some 521, some 522, some 523]) (by decide +kernel)]
      rcases j with _ | _ | _ | _ | _ | _ | _ | j <;> simp [upR, rN]
    · simp [upR, rN, e]
  rw [eR]; exact hq
theorem kc_X2_init_524 (hz : zI 524 I) (hR : ∀ a j, 524 ≤ a → R a j = R0 a j) (hw : w + 136 ≤ 100000) (hq : Q (.inl none) (Kz I J0 R 525 (w + 136))) : Cn g (d + 1) mX2_init [.ref 524, .ref 31, .ref 22] (Kz I J0 (rN R 524) 524 w) Q := by
  show Rn g (d + 1) mX2_init 0 [.ref 524, .ref 31, .ref 22] [] [] (Kz I J0 (rN R 524) 524 w) Q
  refine s_aload_n (pc := 0) (i := 0) dX2_init_0 rfl rfl ?_
  refine s_objI (pc := 1) dX2_init_1 ml_X2_3 in_obj cd_obj (by omega) (by decide) ?_
  refine s_aload_n (pc := 4) (i := 0) dX2_init_4 rfl rfl ?_
  refine m_si (pc := 5) (v := 136) dX2_init_5 rfl ?_
  refine k_na (pc := 8) (t := 64) (n := 136) (L' := 525) (w' := (w + 136)) dX2_init_8 rfl (Or.inl rfl) ac_int (by decide) rfl (by decide) (by decide +kernel) (by decide +kernel) rfl rfl (by omega) (fun j => (zI_m (L' := 524) hz (by omega)) _ j (by omega)) (fun j => ((rN_n (by omega)).trans ((hR _ j (by omega)).trans (r0_nil (by decide +kernel))))) ?_
  refine k_pr (pc := 10) (k := 2) dX2_init_10 ff_X2_11 rfl rfl rfl rfl (⟨by decide +kernel, by omega, by omega⟩) ?_
  refine s_aload_n (pc := 13) (i := 0) dX2_init_13 rfl rfl ?_
  refine s_aload_n (pc := 14) (i := 1) dX2_init_14 rfl rfl ?_
  refine k_pr (pc := 15) (k := 0) dX2_init_15 ff_X2_15 rfl rfl rfl rfl (⟨by decide +kernel, by omega, by omega⟩) ?_
  refine s_aload_n (pc := 18) (i := 0) dX2_init_18 rfl rfl ?_
  refine s_aload_n (pc := 19) (i := 2) dX2_init_19 rfl rfl ?_
  refine k_pr (pc := 20) (k := 1) dX2_init_20 ff_X2_19 rfl rfl rfl rfl (⟨by decide +kernel, by omega, by omega⟩) ?_
  refine s_return (pc := 23) dX2_init_23 rfl ?_
  have eR : (upR (upR (upR (rN R 524) 524 2 525) 524 0 31) 524 1 22) = R := by
    funext x j
    by_cases e : x = 524
    · subst e
      rw [hR 524 j (Nat.le_refl _), r0_l (l := [some 31, some 22, some 525]) (by decide +kernel)]
      rcases j with _ | _ | _ | j <;> simp [upR, rN]
    · simp [upR, rN, e]
  rw [eR]; exact hq
theorem kc_X7_init_526 (hz : zI 526 I) (hR : ∀ a j, 526 ≤ a → R a j = R0 a j) (hw : w + 133 ≤ 100000) (hq : Q (.inl none) (Kz I J0 R 533 (w + 133))) : Cn g (d + 2) mX7_init [.ref 526, .ref 31] (Kz I J0 (rN R 526) 526 w) Q := by
  show Rn g (d + 2) mX7_init 0 [.ref 526, .ref 31] [] [] (Kz I J0 (rN R 526) 526 w) Q
  refine s_aload_n (pc := 0) (i := 0) dX7_init_0 rfl rfl ?_
  refine s_objI (pc := 1) dX7_init_1 ml_X7_3 in_obj cd_obj (by omega) (by decide) ?_
  refine s_aload_n (pc := 4) (i := 0) dX7_init_4 rfl rfl ?_
  refine k_new (pc := 5) (ci := 9) (L' := 527) (w' := (w + 9)) dX7_init_5 kl_X7_9 (by decide) (by decide +kernel) rfl rfl (by omega) (fun j => (zI_m (L' := 526) hz (by omega)) _ j (by omega)) ?_
  refine s_dup (pc := 8) dX7_init_8 rfl ?_
  refine m_i0 (pc := 9) dX7_init_9 lk_X7_11 ok_X9_init rfl rfl (kc_X9_init (R := (rN R 526)) (w := (w + 9)) (by unfold sO; decide +kernel) (by unfold pS; decide +kernel) (zI_m (L' := 527) hz (by omega)) (fun a j h => ((rN_n (by omega)).trans (hR a j (by omega)))) (by omega) (kt_v ?_))
  refine k_pr (pc := 12) (k := 1) dX7_init_12 ff_X7_12 rfl rfl rfl rfl (⟨by decide +kernel, by omega, by omega⟩) ?_
  refine s_aload_n (pc := 15) (i := 0) dX7_init_15 rfl rfl ?_
  refine s_aload_n (pc := 16) (i := 1) dX7_init_16 rfl rfl ?_
  refine k_pr (pc := 17) (k := 0) dX7_init_17 ff_X7_18 rfl rfl rfl rfl (⟨by decide +kernel, by omega, by omega⟩) ?_
  refine s_return (pc := 20) dX7_init_20 rfl ?_
  have eR : (upR (upR (rN R 526) 526 1 527) 526 0 31) = R := by
    funext x j
    by_cases e : x = 526
    · subst e
      rw [hR 526 j (Nat.le_refl _), r0_l (l := [some 31, some 527]) (by decide +kernel)]
      rcases j with _ | _ | j <;> simp [upR, rN]
    · simp [upR, rN, e]
  rw [eR]; exact hq
end S
