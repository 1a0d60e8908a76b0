section S
variable {g : aG} {d : Nat} {I : Nat → Nat → Int32} {J : Nat → Nat → Int64} {n w : Nat} {Q : aO → aS → Prop}
variable {t : Nat → Nat} {N a wf wt : Nat} {fk fp : Int32} {σ : aS}
/-- the text of a law -/
def rLw (t : Nat → Nat) (N p : Nat) : Sum (Nat × Nat) (List Nat) := match lS t N 6 p [] with
  | .inl e => .inl e
  | .inr (q, cs) => if N ≤ q then .inr cs else .inl (1, q)
theorem Lc_0 {I0 : Nat → Nat → Int32} (e : I0 = up I 18 3 0) : Lc I0 [] := by subst e; exact ⟨rfl, fun i hi => absurd hi (by simp)⟩
theorem c_X4_readFrom (hx : tx I t N) (ha : a ≤ N) (hN : N ≤ 150) (hb : ∀ e a' wf' wt' I', rLw t N a = .inl e → fC I I' → Q (.inl (some (.int 0))) (Z (tp I' a' wf' wt' (nI e.1) (nI e.2)) J n w)) (hg : ∀ cs I' a' wf' wt', rLw t N a = .inr cs → fC I I' → Lc I' cs → Q (.inl (some (.int 1))) (Z (tp I' a' wf' wt' fk fp) J n w)) : Cn g (d + 33) mX4_readFrom [.ref 18, .ref 2] (Z (tp I a wf wt fk fp) J n w) Q := by
  have hS : cRd g mX4_readSum 32 t N (lS t N 6) 0 := c_sumL 6 (by omega)
  show Rn g (d + 33) mX4_readFrom 0 [.ref 18, .ref 2] [] [] (Z (tp I a wf wt fk fp) J n w) Q
  refine s_aload_n (pc := 0) (i := 0) dX4_readFrom_0 rfl rfl ?_
  refine m_ic (pc := 1) (v := 0) dX4_readFrom_1 rfl ?_
  refine m_pi (pc := 2) dX4_readFrom_2 ff_X4_24 rfl rfl o_18 ?_
  refine st_tp hx (by decide) (by decide) (fun I2 e2 hx => ?_)
  have f2 : fC I I2 := by subst e2; exact fC_u fC_r (by decide)
  refine s_aload_n (pc := 5) (i := 0) dX4_readFrom_5 rfl rfl ?_
  refine s_aload_n (pc := 6) (i := 1) dX4_readFrom_6 rfl rfl ?_
  refine m_ic (pc := 7) (v := 0) dX4_readFrom_7 rfl ?_
  refine m_v2 (pc := 8) dX4_readFrom_8 lk_X4_38 ok_X4_readSum (rcO o_18 (by decide) rfl) rfl rfl (hS _ _ _ _ _ _ _ _ _ _ _ _ hx ha hN (Lc_0 e2) (Nat.zero_le _) (fun e a1 wf1 wt1 I1 q1 q2 => kt_s ?_) (fun p1 c2 I1 wf1 wt1 q1 q2 q3 => kt_s ?_))
  · refine s_ifne (pc := 11) (tgt := 16) dX4_readFrom_11 rfl (fun h11 => absurd h11 (by decide)) (fun h11 => ?_)
    refine m_ic (pc := 14) (v := 0) dX4_readFrom_14 rfl ?_
    refine s_ireturn (pc := 15) dX4_readFrom_15 rfl rfl ?_
    exact hb e a1 wf1 wt1 I1 (by unfold rLw; rw [q1]) (fC_t f2 q2)
  · have g1 := gU_S 6 _ _ _ _ ha q1
    have hx1 := tx_f hx q2
    refine s_ifne (pc := 11) (tgt := 16) dX4_readFrom_11 rfl (fun h11 => ?_) (fun h11 => absurd h11 (by decide))
    refine s_aload_n (pc := 16) (i := 1) dX4_readFrom_16 rfl rfl ?_
    refine m_v0 (pc := 17) dX4_readFrom_17 lk_X4_42 ok_X10_isAtEnd (rcO o_2 (by decide) rfl) rfl rfl (c_X10_isAtEnd hx1 g1.2.1 (fun h => kt_s ?_) (fun h => kt_s ?_))
    · refine s_ifne (pc := 20) (tgt := 31) dX4_readFrom_20 rfl (fun h20 => ?_) (fun h20 => absurd h20 (by decide))
      refine m_ic (pc := 31) (v := 1) dX4_readFrom_31 rfl ?_
      refine s_goto (pc := 32) (tgt := 36) dX4_readFrom_32 rfl ?_
      refine s_ireturn (pc := 36) dX4_readFrom_36 rfl rfl ?_
      exact hg c2 I1 p1 wf1 wt1 (by unfold rLw; rw [q1]; simp only []; rw [if_pos (by omega)]) (fC_t f2 q2) q3
    · refine s_ifne (pc := 20) (tgt := 31) dX4_readFrom_20 rfl (fun h20 => absurd h20 (by decide)) (fun h20 => ?_)
      refine s_aload_n (pc := 23) (i := 1) dX4_readFrom_23 rfl rfl ?_
      refine m_ic (pc := 24) (v := 1) dX4_readFrom_24 rfl ?_
      refine m_v1 (pc := 25) dX4_readFrom_25 lk_X4_48 ok_X10_failHere (rcO o_2 (by decide) rfl) rfl rfl (c_X10_failHere (kt_s ?_))
      · refine s_ifeq (pc := 28) (tgt := 35) dX4_readFrom_28 rfl (fun h28 => ?_) (fun h28 => absurd h28 (by decide))
        refine m_ic (pc := 35) (v := 0) dX4_readFrom_35 rfl ?_
        refine s_ireturn (pc := 36) dX4_readFrom_36 rfl rfl ?_
        exact hb (1, p1) _ _ _ I1 (by unfold rLw; rw [q1]; simp only []; rw [if_neg (by omega)]) (fC_t f2 q2)
theorem c_X4_copyFrom (hq : Q (.inl none) (Z (up (cpI I 19 15 150) 14 3 (I 18 3)) J n w)) : Cn g (d + 1) mX4_copyFrom [.ref 14, .ref 18] (Z I J n w) Q := by
  show Rn g (d + 1) mX4_copyFrom 0 [.ref 14, .ref 18] [] [] (Z I J n w) Q
  refine s_aload_n (pc := 0) (i := 1) dX4_copyFrom_0 rfl rfl ?_
  refine m_gr (pc := 1) dX4_copyFrom_1 ff_X4_9 rfl o_18 r_18_0 ?_
  refine m_ic (pc := 4) (v := 0) dX4_copyFrom_4 rfl ?_
  refine s_aload_n (pc := 5) (i := 0) dX4_copyFrom_5 rfl rfl ?_
  refine m_gr (pc := 6) dX4_copyFrom_6 ff_X4_9 rfl o_14 r_14_0 ?_
  refine m_ic (pc := 9) (v := 0) dX4_copyFrom_9 rfl ?_
  refine m_si (pc := 10) (v := 150) dX4_copyFrom_10 rfl ?_
  refine m_cp (pc := 13) dX4_copyFrom_13 ml_X4_32 a_19 a_15 (by omega) (by decide) rfl (by decide) (by decide) (Nat.le_of_ble_eq_true rfl) ?_
  refine s_aload_n (pc := 16) (i := 0) dX4_copyFrom_16 rfl rfl ?_
  refine s_aload_n (pc := 17) (i := 1) dX4_copyFrom_17 rfl rfl ?_
  refine m_gi (pc := 18) dX4_copyFrom_18 ff_X4_24 rfl o_18 ?_
  refine m_pi (pc := 21) dX4_copyFrom_21 ff_X4_24 rfl rfl o_14 ?_
  refine s_return (pc := 24) dX4_copyFrom_24 rfl ?_
  exact hq
theorem minT {T m : Nat} (hT : T ≤ 600) (hm : m ≤ 600) : (if nI T < nI m then nI T else nI m) = nI (min T m) := by
  by_cases h2 : T < m
  · rw [if_pos (nI_lt h2 (by omega)), Nat.min_eq_left (by omega)]
  · rw [if_neg (nI_nlt (by omega) (by omega)), Nat.min_eq_right (by omega)]
theorem c_X11_law {T : Nat} {x : Int32} (h : tT I t T) (hn : n + 1 ≤ 600000 ∧ w + 6 ≤ 7000000)
 (h1 : ¬ (¬ x < 0 ∧ ¬ nI (min T 150) < x) → Q (.inr 1) (Z (up I 1 18 (I 1 18 + 1)) J (n + 1) (w + 6)))
 (h2 : ∀ N e I' a' wf' wt', x = nI N → N ≤ min T 150 → rLw t N (sk t N 0) = .inl e → fC (up (up I 2 1 0) 2 2 x) I' → Q (.inl (some (.int (nI e.1 - 10)))) (Z (tp I' a' wf' wt' (nI e.1) (nI e.2)) J n w))
 (h3 : ∀ N cs I' a' wf' wt', x = nI N → N ≤ min T 150 → rLw t N (sk t N 0) = .inr cs → fC (up (up I 2 1 0) 2 2 x) I' → Lc I' cs → Q (.inl (some (.int 1))) (Z (up (cpI (tp I' a' wf' wt' 0 (-1)) 19 15 150) 14 3 (tp I' a' wf' wt' 0 (-1) 18 3)) J n w)) : Cn g (d + 34) mX11_law [.ref 1, .int x] (Z I J n w) Q := by
  have hT := h.1
  show Rn g (d + 34) mX11_law 0 [.ref 1, .int x] [] [] (Z I J n w) Q
  refine s_aload_n (pc := 0) (i := 0) dX11_law_0 rfl rfl ?_
  refine s_iload_n (pc := 1) (i := 1) dX11_law_1 rfl rfl ?_
  refine m_si (pc := 2) (v := 150) dX11_law_2 rfl ?_
  refine m_v2 (pc := 5) dX11_law_5 lk_X11_111 ok_X11_needTextLength (rcO o_1 (by decide) rfl) rfl rfl (c_X11_needTextLength (N := min T 150) h.2.1 (minT h.1 (by decide)) hn (fun k e1 e2 => kt_v ?_) (fun z => kt_x ?_) (by omega))
  · refine s_aload_n (pc := 8) (i := 0) dX11_law_8 rfl rfl ?_
    refine m_gr (pc := 9) dX11_law_9 ff_X11_10 rfl o_1 r_1_0 ?_
    refine s_iload_n (pc := 12) (i := 1) dX11_law_12 rfl rfl ?_
    refine m_v1 (pc := 13) dX11_law_13 lk_X11_115 ok_X10_open (rcO o_2 (by decide) rfl) rfl rfl (c_X10_open h (N := k) (by omega) e1 (fun wf wt => kt_v ?_))
    refine s_aload_n (pc := 16) (i := 0) dX11_law_16 rfl rfl ?_
    refine m_gr (pc := 17) dX11_law_17 ff_X11_33 rfl o_1 r_1_4 ?_
    refine s_aload_n (pc := 20) (i := 0) dX11_law_20 rfl rfl ?_
    refine m_gr (pc := 21) dX11_law_21 ff_X11_10 rfl o_1 r_1_0 ?_
    refine m_v1 (pc := 24) dX11_law_24 lk_X11_146 ok_X4_readFrom (rcO o_18 (by decide) rfl) rfl rfl (c_X4_readFrom (tT_x h (N := k) (by omega) e1) (sk_le (by omega)) (by omega) (fun e a1 wf1 wt1 I1 q1 q2 => kt_s ?_) (fun cs I1 a1 wf1 wt1 q1 q2 q3 => kt_s ?_))
    · refine s_ifne (pc := 27) (tgt := 38) dX11_law_27 rfl (fun h27 => absurd h27 (by decide)) (fun h27 => ?_)
      refine s_aload_n (pc := 30) (i := 0) dX11_law_30 rfl rfl ?_
      refine m_gr (pc := 31) dX11_law_31 ff_X11_10 rfl o_1 r_1_0 ?_
      refine m_v0 (pc := 34) dX11_law_34 lk_X11_122 ok_X10_faultAnswer (rcO o_2 (by decide) rfl) rfl rfl (c_X10_faultAnswer (kt_s ?_))
      refine s_ireturn (pc := 37) dX11_law_37 rfl rfl ?_
      exact h2 k e I1 a1 wf1 wt1 e1 e2 q1 q2
    · refine s_ifne (pc := 27) (tgt := 38) dX11_law_27 rfl (fun h27 => ?_) (fun h27 => absurd h27 (by decide))
      refine s_aload_n (pc := 38) (i := 0) dX11_law_38 rfl rfl ?_
      refine m_gr (pc := 39) dX11_law_39 ff_X11_29 rfl o_1 r_1_3 ?_
      refine s_aload_n (pc := 42) (i := 0) dX11_law_42 rfl rfl ?_
      refine m_gr (pc := 43) dX11_law_43 ff_X11_33 rfl o_1 r_1_4 ?_
      refine m_v1 (pc := 46) dX11_law_46 lk_X11_147 ok_X4_copyFrom (rcO o_14 (by decide) rfl) rfl rfl (c_X4_copyFrom (kt_v ?_))
      refine m_ic (pc := 49) (v := 1) dX11_law_49 rfl ?_
      refine s_ireturn (pc := 50) dX11_law_50 rfl rfl ?_
      exact h3 k cs I1 a1 wf1 wt1 e1 e2 q1 q2 q3
  · exact h1 z
end S
