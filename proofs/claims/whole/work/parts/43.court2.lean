section S
variable {g : aG} {d : Nat} {I : Nat → Nat → Int32} {J : Nat → Nat → Int64} {n w : Nat} {Q : aO → aS → Prop}
variable {t : Nat → Nat} {N a wf wt : Nat} {fk fp : Int32} {σ : aS}
theorem op_eq {x : Int32} (h4 : I 2 4 = nI wf) (h5 : I 2 5 = nI wt) : up (up (up (up (up I 2 1 0) 2 2 x) 2 3 0) 2 6 0) 2 7 (-1) = tp (up (up I 2 1 0) 2 2 x) 0 wf wt 0 (-1) := by
  funext y j; unfold up tp; dsimp only
  by_cases h : y = 2
  · subst h
    by_cases e7 : j = 7
    · subst e7; rfl
    by_cases e6 : j = 6
    · subst e6; rfl
    by_cases e5 : j = 5
    · subst e5; simpa using h5
    by_cases e4 : j = 4
    · subst e4; simpa using h4
    by_cases e3 : j = 3
    · subst e3; rfl
    simp [e3, e4, e5, e6, e7]
  · simp [h]
/-- the tape as it was fed: T bytes -/
def tT (I : Nat → Nat → Int32) (t : Nat → Nat) (T : Nat) : Prop := T ≤ 600 ∧ I 2 1 = nI T ∧ ∀ i, i < T → t i < 256 ∧ I 3 i = sb_b (t i)
theorem tT_x {T : Nat} {x : Int32} (h : tT I t T) (hN : N ≤ T) (hx : x = nI N) : tx (up (up I 2 1 0) 2 2 x) t N := ⟨by have := h.1; omega, by rw [up_s]; exact hx, fun i hi => by rw [up_a (by decide), up_a (by decide)]; exact h.2.2 i (by omega)⟩
theorem c_X10_open {T : Nat} {x : Int32} (h : tT I t T) (hN : N ≤ T) (hx : x = nI N) (hq : ∀ wf wt, Q (.inl none) (Z (tp (up (up I 2 1 0) 2 2 x) (sk t N 0) wf wt 0 (-1)) J n w)) : Cn g (d + 1) mX10_open [.ref 2, .int x] (Z I J n w) Q := by
  show Rn g (d + 1) mX10_open 0 [.ref 2, .int x] [] [] (Z I J n w) Q
  refine s_aload_n (pc := 0) (i := 0) dX10_open_0 rfl rfl ?_
  refine m_ic (pc := 1) (v := 0) dX10_open_1 rfl ?_
  refine m_pi (pc := 2) dX10_open_2 ff_X10_19 rfl rfl o_2 ?_
  refine s_aload_n (pc := 5) (i := 0) dX10_open_5 rfl rfl ?_
  refine s_iload_n (pc := 6) (i := 1) dX10_open_6 rfl rfl ?_
  refine m_pi (pc := 7) dX10_open_7 ff_X10_22 rfl rfl o_2 ?_
  refine s_aload_n (pc := 10) (i := 0) dX10_open_10 rfl rfl ?_
  refine m_ic (pc := 11) (v := 0) dX10_open_11 rfl ?_
  refine m_pi (pc := 12) dX10_open_12 ff_X10_25 rfl rfl o_2 ?_
  refine s_aload_n (pc := 15) (i := 0) dX10_open_15 rfl rfl ?_
  refine m_ic (pc := 16) (v := 0) dX10_open_16 rfl ?_
  refine m_pi (pc := 17) dX10_open_17 ff_X10_28 rfl rfl o_2 ?_
  refine s_aload_n (pc := 20) (i := 0) dX10_open_20 rfl rfl ?_
  refine m_ic (pc := 21) (v := -1) dX10_open_21 rfl ?_
  refine m_pi (pc := 22) dX10_open_22 ff_X10_15 rfl rfl o_2 ?_
  obtain ⟨wf, _, h4⟩ := wb_of32 (I 2 4)
  obtain ⟨wt, _, h5⟩ := wb_of32 (I 2 5)
  refine Rs_cg (op_eq h4 h5) ?_
  refine s_aload_n (pc := 25) (i := 0) dX10_open_25 rfl rfl ?_
  refine m_v0 (pc := 26) dX10_open_26 lk_X10_31 ok_X10_skipBlanks (rcO o_2 (by decide) rfl) rfl rfl (c_X10_skipBlanks (tT_x h hN hx) (by omega) (kt_v ?_))
  refine s_return (pc := 29) dX10_open_29 rfl ?_
  exact hq wf wt
/-- a Law at o -/
def lO (o : Nat) : Prop := isO 4 o ∧ (R0 o 0 = some (o + 1) ∧ isA 64 150 (o + 1)) ∧ (R0 o 1 = some (o + 2) ∧ isA 64 9 (o + 2)) ∧ (R0 o 2 = some (o + 3) ∧ isA 64 150 (o + 3))
theorem lO_14 : lO 14 := by unfold lO; decide +kernel
theorem lO_18 : lO 18 := by unfold lO; decide +kernel
theorem c_X4_add {o m : Nat} {v : Int32} (ho : lO o) (hm : I o 3 = nI m) (hm2 : m < 150) (hq : Q (.inl (some (.int 1))) (Z (up (up I (o + 1) m v) o 3 (nI (m + 1))) J n w)) : Cn g (d + 0) mX4_add [.ref o, .int v] (Z I J n w) Q := by
  show Rn g (d + 0) mX4_add 0 [.ref o, .int v] [] [] (Z I J n w) Q
  refine s_aload_n (pc := 0) (i := 0) dX4_add_0 rfl rfl ?_
  refine m_gi (pc := 1) dX4_add_1 ff_X4_24 rfl (ho).1 ?_
  refine m_nm (v' := nI m) (hm) ?_
  refine m_si (pc := 4) (v := 150) dX4_add_4 rfl ?_
  refine s_icge (pc := 7) (tgt := 30) dX4_add_7 rfl (fun h7 => absurd h7 (nI_ge (a := m) (b := 150) (by omega) (by omega))) (fun h7 => ?_)
  refine s_aload_n (pc := 10) (i := 0) dX4_add_10 rfl rfl ?_
  refine m_gr (pc := 11) dX4_add_11 ff_X4_9 rfl (ho).1 (ho.2.1).1 ?_
  refine s_aload_n (pc := 14) (i := 0) dX4_add_14 rfl rfl ?_
  refine m_gi (pc := 15) dX4_add_15 ff_X4_24 rfl (ho).1 ?_
  refine m_nm (v' := nI m) (hm) ?_
  refine s_iload_n (pc := 18) (i := 1) dX4_add_18 rfl rfl ?_
  refine m_is (pc := 19) dX4_add_19 (ho.2.1).2 (vp_in_nI (by omega) (by omega)) ?_
  refine s_aload_n (pc := 20) (i := 0) dX4_add_20 rfl rfl ?_
  refine s_dup (pc := 21) dX4_add_21 rfl ?_
  refine m_gi (pc := 22) dX4_add_22 ff_X4_24 rfl (ho).1 ?_
  refine m_nm (v' := nI m) (by rw [up_a (by omega)]; exact hm) ?_
  refine m_ic (pc := 25) (v := 1) dX4_add_25 rfl ?_
  refine s_iadd (pc := 26) dX4_add_26 ?_
  refine m_nm (v' := nI (m + 1)) (nI_1 _) ?_
  refine m_pi (pc := 27) dX4_add_27 ff_X4_24 rfl rfl (ho).1 ?_
  refine m_ic (pc := 30) (v := 1) dX4_add_30 rfl ?_
  refine s_ireturn (pc := 31) dX4_add_31 rfl rfl ?_
  rw [nI_clamp (by omega)]
  exact hq
/-- the usual law laid down at o -/
def usL (I : Nat → Nat → Int32) (o : Nat) : Nat → Nat → Int32 := up (up (up (up (up (up (up (up (up (up (up I o 3 0) (o + 1) 0 1000) o 3 (nI 1)) (o + 1) 1 1001) o 3 (nI 2)) (o + 1) 2 2045) o 3 (nI 3)) (o + 1) 3 1002) o 3 (nI 4)) (o + 1) 4 2043) o 3 (nI 5)
theorem c_X4_beUsual {o : Nat} (ho : lO o) (hq : Q (.inl none) (Z (usL I o) J n w)) : Cn g (d + 1) mX4_beUsual [.ref o] (Z I J n w) Q := by
  show Rn g (d + 1) mX4_beUsual 0 [.ref o] [] [] (Z I J n w) Q
  refine s_aload_n (pc := 0) (i := 0) dX4_beUsual_0 rfl rfl ?_
  refine m_ic (pc := 1) (v := 0) dX4_beUsual_1 rfl ?_
  refine m_pi (pc := 2) dX4_beUsual_2 ff_X4_24 rfl rfl (ho).1 ?_
  refine s_aload_n (pc := 5) (i := 0) dX4_beUsual_5 rfl rfl ?_
  refine m_si (pc := 6) (v := 1000) dX4_beUsual_6 rfl ?_
  refine m_v1 (pc := 9) dX4_beUsual_9 lk_X4_28 ok_X4_add (rcO (ho).1 (by decide) rfl) rfl rfl (c_X4_add (m := 0) ho (by rw [up_s]; rfl) (by decide) (kt_s ?_))
  refine s_pop (pc := 12) dX4_beUsual_12 rfl ?_
  refine s_aload_n (pc := 13) (i := 0) dX4_beUsual_13 rfl rfl ?_
  refine m_si (pc := 14) (v := 1001) dX4_beUsual_14 rfl ?_
  refine m_v1 (pc := 17) dX4_beUsual_17 lk_X4_28 ok_X4_add (rcO (ho).1 (by decide) rfl) rfl rfl (c_X4_add (m := 1) ho up_s (by decide) (kt_s ?_))
  refine s_pop (pc := 20) dX4_beUsual_20 rfl ?_
  refine s_aload_n (pc := 21) (i := 0) dX4_beUsual_21 rfl rfl ?_
  refine m_si (pc := 22) (v := 2045) dX4_beUsual_22 rfl ?_
  refine m_v1 (pc := 25) dX4_beUsual_25 lk_X4_28 ok_X4_add (rcO (ho).1 (by decide) rfl) rfl rfl (c_X4_add (m := 2) ho up_s (by decide) (kt_s ?_))
  refine s_pop (pc := 28) dX4_beUsual_28 rfl ?_
  refine s_aload_n (pc := 29) (i := 0) dX4_beUsual_29 rfl rfl ?_
  refine m_si (pc := 30) (v := 1002) dX4_beUsual_30 rfl ?_
  refine m_v1 (pc := 33) dX4_beUsual_33 lk_X4_28 ok_X4_add (rcO (ho).1 (by decide) rfl) rfl rfl (c_X4_add (m := 3) ho up_s (by decide) (kt_s ?_))
  refine s_pop (pc := 36) dX4_beUsual_36 rfl ?_
  refine s_aload_n (pc := 37) (i := 0) dX4_beUsual_37 rfl rfl ?_
  refine m_si (pc := 38) (v := 2043) dX4_beUsual_38 rfl ?_
  refine m_v1 (pc := 41) dX4_beUsual_41 lk_X4_28 ok_X4_add (rcO (ho).1 (by decide) rfl) rfl rfl (c_X4_add (m := 4) ho up_s (by decide) (kt_s ?_))
  refine s_pop (pc := 44) dX4_beUsual_44 rfl ?_
  refine s_return (pc := 45) dX4_beUsual_45 rfl ?_
  exact hq
def cpC (I : Nat → Nat → Int32) : Nat → Nat → Int32 := up (up (up (cpI (cpI (cpI (cpI I 10 5 7) 11 6 7) 12 7 12) 13 8 12) 4 4 (I 9 4)) 4 5 (I 9 5)) 4 6 (I 9 6)
/-- the class's heap behind a new court -/
def stC (I : Nat → Nat → Int32) : Nat → Nat → Int32 := up (up (up (clS (up (flI (usL (cpC I) 14) 23 7 (-1)) 22 1 0) 33) 32 2 0) 1 15 0) 1 16 0
theorem Co_cp {D : cD} (h : Co I 9 D) (hk : cOk D) : Co (cpC I) 4 D := by
  obtain ⟨h1, h2, h3, h4, h5⟩ := h
  have hc7 := hk.1
  have hc12 := hk.2.1
  refine ⟨by simp [cpC, up]; exact h1, by simp [cpC, up]; exact h2, by simp [cpC, up]; exact h3, fun b hb => ?_, fun c hc => ?_⟩
  · have hb7 : b < 7 := by omega
    have := h4 b hb
    simp [cpC, up, cpI, hb7]; exact this
  · have hb7 : c < 12 := by omega
    have := h5 c hc
    simp [cpC, up, cpI, hb7]; exact this
theorem c_X1_copyFrom (hq : Q (.inl none) (Z (cpC I) J n w)) : Cn g (d + 1) mX1_copyFrom [.ref 4, .ref 9] (Z I J n w) Q := by
  show Rn g (d + 1) mX1_copyFrom 0 [.ref 4, .ref 9] [] [] (Z I J n w) Q
  refine s_aload_n (pc := 0) (i := 1) dX1_copyFrom_0 rfl rfl ?_
  refine m_gr (pc := 1) dX1_copyFrom_1 ff_X1_9 rfl o_9 r_9_0 ?_
  refine m_ic (pc := 4) (v := 0) dX1_copyFrom_4 rfl ?_
  refine s_aload_n (pc := 5) (i := 0) dX1_copyFrom_5 rfl rfl ?_
  refine m_gr (pc := 6) dX1_copyFrom_6 ff_X1_9 rfl o_4 r_4_0 ?_
  refine m_ic (pc := 9) (v := 0) dX1_copyFrom_9 rfl ?_
  refine m_bi (pc := 10) (v := 7) dX1_copyFrom_10 rfl ?_
  refine m_cp (pc := 12) dX1_copyFrom_12 ml_X1_28 a_10 a_5 (by omega) (by decide) rfl (by decide) (by decide) (Nat.le_of_ble_eq_true rfl) ?_
  refine s_aload_n (pc := 15) (i := 1) dX1_copyFrom_15 rfl rfl ?_
  refine m_gr (pc := 16) dX1_copyFrom_16 ff_X1_15 rfl o_9 r_9_1 ?_
  refine m_ic (pc := 19) (v := 0) dX1_copyFrom_19 rfl ?_
  refine s_aload_n (pc := 20) (i := 0) dX1_copyFrom_20 rfl rfl ?_
  refine m_gr (pc := 21) dX1_copyFrom_21 ff_X1_15 rfl o_4 r_4_1 ?_
  refine m_ic (pc := 24) (v := 0) dX1_copyFrom_24 rfl ?_
  refine m_bi (pc := 25) (v := 7) dX1_copyFrom_25 rfl ?_
  refine m_cp (pc := 27) dX1_copyFrom_27 ml_X1_28 a_11 a_6 (by omega) (by decide) rfl (by decide) (by decide) (Nat.le_of_ble_eq_true rfl) ?_
  refine s_aload_n (pc := 30) (i := 1) dX1_copyFrom_30 rfl rfl ?_
  refine m_gr (pc := 31) dX1_copyFrom_31 ff_X1_18 rfl o_9 r_9_2 ?_
  refine m_ic (pc := 34) (v := 0) dX1_copyFrom_34 rfl ?_
  refine s_aload_n (pc := 35) (i := 0) dX1_copyFrom_35 rfl rfl ?_
  refine m_gr (pc := 36) dX1_copyFrom_36 ff_X1_18 rfl o_4 r_4_2 ?_
  refine m_ic (pc := 39) (v := 0) dX1_copyFrom_39 rfl ?_
  refine m_bi (pc := 40) (v := 12) dX1_copyFrom_40 rfl ?_
  refine m_cp (pc := 42) dX1_copyFrom_42 ml_X1_28 a_12 a_7 (by omega) (by decide) rfl (by decide) (by decide) (Nat.le_of_ble_eq_true rfl) ?_
  refine s_aload_n (pc := 45) (i := 1) dX1_copyFrom_45 rfl rfl ?_
  refine m_gr (pc := 46) dX1_copyFrom_46 ff_X1_21 rfl o_9 r_9_3 ?_
  refine m_ic (pc := 49) (v := 0) dX1_copyFrom_49 rfl ?_
  refine s_aload_n (pc := 50) (i := 0) dX1_copyFrom_50 rfl rfl ?_
  refine m_gr (pc := 51) dX1_copyFrom_51 ff_X1_21 rfl o_4 r_4_3 ?_
  refine m_ic (pc := 54) (v := 0) dX1_copyFrom_54 rfl ?_
  refine m_bi (pc := 55) (v := 12) dX1_copyFrom_55 rfl ?_
  refine m_cp (pc := 57) dX1_copyFrom_57 ml_X1_28 a_13 a_8 (by omega) (by decide) rfl (by decide) (by decide) (Nat.le_of_ble_eq_true rfl) ?_
  refine s_aload_n (pc := 60) (i := 0) dX1_copyFrom_60 rfl rfl ?_
  refine s_aload_n (pc := 61) (i := 1) dX1_copyFrom_61 rfl rfl ?_
  refine m_gi (pc := 62) dX1_copyFrom_62 ff_X1_34 rfl o_9 ?_
  refine m_pi (pc := 65) dX1_copyFrom_65 ff_X1_34 rfl rfl o_4 ?_
  refine s_aload_n (pc := 68) (i := 0) dX1_copyFrom_68 rfl rfl ?_
  refine s_aload_n (pc := 69) (i := 1) dX1_copyFrom_69 rfl rfl ?_
  refine m_gi (pc := 70) dX1_copyFrom_70 ff_X1_37 rfl o_9 ?_
  refine m_pi (pc := 73) dX1_copyFrom_73 ff_X1_37 rfl rfl o_4 ?_
  refine s_aload_n (pc := 76) (i := 0) dX1_copyFrom_76 rfl rfl ?_
  refine s_aload_n (pc := 77) (i := 1) dX1_copyFrom_77 rfl rfl ?_
  refine m_gi (pc := 78) dX1_copyFrom_78 ff_X1_24 rfl o_9 ?_
  refine m_pi (pc := 81) dX1_copyFrom_81 ff_X1_24 rfl rfl o_4 ?_
  refine s_return (pc := 84) dX1_copyFrom_84 rfl ?_
  exact hq
theorem min6 {T : Nat} (h : T ≤ 600) : (if nI T < (600 : Int32) then nI T else 600) = nI T := by
  have e : (600 : Int32) = nI 600 := rfl
  rw [e]
  by_cases h2 : T < 600
  · rw [if_pos (nI_lt h2 (by omega))]
  · rw [if_neg (nI_nlt (by omega) (by omega)), show T = 600 by omega]
theorem st44 : stC I 4 4 = I 9 4 := by simp [stC, clS, flI, usL, cpC, up]
theorem Co_tp {D : cD} (h : Co I 9 D) : Co (tp I a wf wt fk fp) 9 D := by
  obtain ⟨h1, h2, h3, h4, h5⟩ := h
  refine ⟨by rw [tp_o (by decide)]; exact h1, by rw [tp_o (by decide)]; exact h2, by rw [tp_o (by decide)]; exact h3, fun b hb => ?_, fun c hc => ?_⟩
  · rw [tp_o (by omega), tp_o (by omega)]; exact h4 b hb
  · rw [tp_o (by omega), tp_o (by omega)]; exact h5 c hc
theorem c_X11_court {T : Nat} {x : Int32} (h : tT I t T) (hn : n + 1 ≤ 600000 ∧ w + 6 ≤ 7000000)
 (h1 : ¬ (¬ x < 0 ∧ ¬ nI T < x) → Q (.inr 1) (Z (up I 1 18 (I 1 18 + 1)) J (n + 1) (w + 6)))
 (h2 : ∀ N e I' a' wf' wt', x = nI N → N ≤ T → rCo t N 61 0 (sk t N 0) d0 = .inl e → fC (up (up I 2 1 0) 2 2 x) I' → Q (.inl (some (.int (nI e.1 - 10)))) (Z (tp I' a' wf' wt' (nI e.1) (nI e.2)) J n w))
 (h3 : ∀ N D I' a' wf' wt', x = nI N → N ≤ T → rCo t N 61 0 (sk t N 0) d0 = .inr D → fC (up (up I 2 1 0) 2 2 x) I' → Co I' 9 D → cOk D → Q (.inl (some (.int (nI (cb D))))) (Z (stC (tp I' a' wf' wt' 0 (-1))) J n w)) : Cn g (d + 8) mX11_court [.ref 1, .int x] (Z I J n w) Q := by
  show Rn g (d + 8) mX11_court 0 [.ref 1, .int x] [] [] (Z I J n w) Q
  refine s_aload_n (pc := 0) (i := 0) dX11_court_0 rfl rfl ?_
  refine s_iload_n (pc := 1) (i := 1) dX11_court_1 rfl rfl ?_
  refine m_si (pc := 2) (v := 600) dX11_court_2 rfl ?_
  refine m_v2 (pc := 5) dX11_court_5 lk_X11_111 ok_X11_needTextLength (rcO o_1 (by decide) rfl) rfl rfl (c_X11_needTextLength (N := T) h.2.1 (min6 h.1) hn (fun k e1 e2 => kt_v ?_) (fun z => kt_x ?_) h.1)
  · refine s_aload_n (pc := 8) (i := 0) dX11_court_8 rfl rfl ?_
    refine m_gr (pc := 9) dX11_court_9 ff_X11_10 rfl o_1 r_1_0 ?_
    refine s_iload_n (pc := 12) (i := 1) dX11_court_12 rfl rfl ?_
    refine m_v1 (pc := 13) dX11_court_13 lk_X11_115 ok_X10_open (rcO o_2 (by decide) rfl) rfl rfl (c_X10_open h e2 e1 (fun wf wt => kt_v ?_))
    refine s_aload_n (pc := 16) (i := 0) dX11_court_16 rfl rfl ?_
    refine m_gr (pc := 17) dX11_court_17 ff_X11_23 rfl o_1 r_1_2 ?_
    refine s_aload_n (pc := 20) (i := 0) dX11_court_20 rfl rfl ?_
    refine m_gr (pc := 21) dX11_court_21 ff_X11_10 rfl o_1 r_1_0 ?_
    refine m_v1 (pc := 24) dX11_court_24 lk_X11_118 ok_X1_readFrom (rcO o_9 (by decide) rfl) rfl rfl (c_X1_readFrom (tT_x h e2 e1) (sk_le (by omega)) (fun e a1 wf1 wt1 I1 q1 q2 => kt_s ?_) (fun D I1 a1 wf1 wt1 q1 q2 q3 q4 => kt_s ?_))
    · refine s_ifne (pc := 27) (tgt := 38) dX11_court_27 rfl (fun h27 => absurd h27 (by decide)) (fun h27 => ?_)
      refine s_aload_n (pc := 30) (i := 0) dX11_court_30 rfl rfl ?_
      refine m_gr (pc := 31) dX11_court_31 ff_X11_10 rfl o_1 r_1_0 ?_
      refine m_v0 (pc := 34) dX11_court_34 lk_X11_122 ok_X10_faultAnswer (rcO o_2 (by decide) rfl) rfl rfl (c_X10_faultAnswer (kt_s ?_))
      refine s_ireturn (pc := 37) dX11_court_37 rfl rfl ?_
      exact h2 k e I1 a1 wf1 wt1 e1 e2 q1 q2
    · refine s_ifne (pc := 27) (tgt := 38) dX11_court_27 rfl (fun h27 => ?_) (fun h27 => absurd h27 (by decide))
      refine s_aload_n (pc := 38) (i := 0) dX11_court_38 rfl rfl ?_
      refine m_gr (pc := 39) dX11_court_39 ff_X11_19 rfl o_1 r_1_1 ?_
      refine s_aload_n (pc := 42) (i := 0) dX11_court_42 rfl rfl ?_
      refine m_gr (pc := 43) dX11_court_43 ff_X11_23 rfl o_1 r_1_2 ?_
      refine m_v1 (pc := 46) dX11_court_46 lk_X11_126 ok_X1_copyFrom (rcO o_4 (by decide) rfl) rfl rfl (c_X1_copyFrom (kt_v ?_))
      refine s_aload_n (pc := 49) (i := 0) dX11_court_49 rfl rfl ?_
      refine m_gr (pc := 50) dX11_court_50 ff_X11_29 rfl o_1 r_1_3 ?_
      refine m_v0 (pc := 53) dX11_court_53 lk_X11_130 ok_X4_beUsual (rcO o_14 (by decide) rfl) rfl rfl (c_X4_beUsual lO_14 (kt_v ?_))
      refine s_aload_n (pc := 56) (i := 0) dX11_court_56 rfl rfl ?_
      refine m_gr (pc := 57) dX11_court_57 ff_X11_39 rfl o_1 r_1_5 ?_
      refine m_v0 (pc := 60) dX11_court_60 lk_X11_133 ok_X0_clear (rcO o_22 (by decide) rfl) rfl rfl (c_X0_clear (kt_v ?_))
      refine s_aload_n (pc := 63) (i := 0) dX11_court_63 rfl rfl ?_
      refine m_gr (pc := 64) dX11_court_64 ff_X11_65 rfl o_1 r_1_9 ?_
      refine m_v0 (pc := 67) dX11_court_67 lk_X11_136 ok_X5_clear (rcO o_32 (by decide) rfl) rfl rfl (c_X5_clear (kt_v ?_))
      refine s_aload_n (pc := 70) (i := 0) dX11_court_70 rfl rfl ?_
      refine m_ic (pc := 71) (v := 0) dX11_court_71 rfl ?_
      refine m_pi (pc := 72) dX11_court_72 ff_X11_137 rfl rfl o_1 ?_
      refine s_aload_n (pc := 75) (i := 0) dX11_court_75 rfl rfl ?_
      refine m_ic (pc := 76) (v := 0) dX11_court_76 rfl ?_
      refine m_pi (pc := 77) dX11_court_77 ff_X11_140 rfl rfl o_1 ?_
      refine s_aload_n (pc := 80) (i := 0) dX11_court_80 rfl rfl ?_
      refine m_gr (pc := 81) dX11_court_81 ff_X11_19 rfl o_1 r_1_1 ?_
      refine m_gi (pc := 84) dX11_court_84 ff_X11_143 rfl o_4 ?_
      refine m_nm (v' := nI (cb D)) (show stC (tp I1 a1 wf1 wt1 0 (-1)) 4 4 = nI (cb D) from st44.trans ((tp_o (by decide)).trans q3.1)) ?_
      refine s_ireturn (pc := 87) dX11_court_87 rfl rfl ?_
      exact h3 k D I1 a1 wf1 wt1 e1 e2 q1 q2 q3 q4
  · exact h1 z
end S
