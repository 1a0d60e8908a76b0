section S
variable {g : aG} {d : Nat} {I : Nat → Nat → Int32} {J : Nat → Nat → Int64} {n w : Nat} {Q : aO → aS → Prop}
variable {t : Nat → Nat} {N a : Nat} {bk op : Int32} {σ : aS}
/-- the model's refusal -/
def thr (I : Nat → Nat → Int32) (c : Int32) (k : Nat) : Nat → Nat → Int32 := up (up I 534 0 c) 535 k (I 535 k + 1)
theorem thr_0 {c : Int32} {k : Nat} : thr (up I 534 0 0) c k = thr I c k := by
  funext x j; unfold thr
  by_cases h : x = 534 ∧ j = 0
  · obtain ⟨rfl, rfl⟩ := h; simp [up]
  · simp [up, h]
theorem c_may1 {cd kk : Int32} {k : Nat} (hk : k < 2) (hkk : kk = nI k) (h0 : I 534 0 = 0) (hc : cd ≠ 0) (hq : Q (.inl (some (.int 1))) (Z I J n w)) : Cn g (d + 0) mX12_may [.ref 534, .int 1, .int cd, .int kk] (Z I J n w) Q := by
  subst hkk
  exact c_X12_may (b := 1) (k := k) h0 hk (fun _ => hq) (fun h => by cases h) hc (Or.inr rfl)
theorem c_may0 {cd kk : Int32} {k : Nat} (hk : k < 2) (hkk : kk = nI k) (h0 : I 534 0 = 0) (hc : cd ≠ 0) (hq : Q (.inl (some (.int 0))) (Z (thr I cd k) J n w)) : Cn g (d + 0) mX12_may [.ref 534, .int 0, .int cd, .int kk] (Z I J n w) Q := by
  subst hkk
  exact c_X12_may (b := 0) (k := k) h0 hk (fun h => by cases h) (fun _ _ => hq) hc (Or.inl rfl)
/-- what a reading call may change in the model -/
def gM (I I' : Nat → Nat → Int32) : Prop := ∀ x j, (x ≠ 537 ∧ x ≠ 538 ∧ x ≠ 541 ∧ x ≠ 542 ∧ x ≠ 547 ∧ x ≠ 552 ∧ (x ≠ 534 ∨ (j ≠ 0 ∧ j ≠ 2 ∧ j ≠ 3 ∧ j ≠ 4 ∧ j ≠ 5 ∧ j ≠ 6 ∧ j ≠ 7 ∧ j ≠ 8 ∧ j ≠ 14 ∧ j ≠ 15 ∧ j ≠ 16 ∧ j ≠ 25 ∧ j ≠ 30))) → I' x j = I x j
theorem gM_f {I' : Nat → Nat → Int32} (h : fM I I') : gM I I' := fun x j q => h x j (by omega)
theorem gM_r : gM I I := fun _ _ _ => rfl
theorem gM_t {I' I'' : Nat → Nat → Int32} (h : gM I I') (h2 : gM I' I'') : gM I I'' := fun x j q => (h2 x j q).trans (h x j q)
theorem gM_u {I' : Nat → Nat → Int32} {x k : Nat} {v : Int32} (h : gM I I') (hx : x = 534 ∧ (k = 0 ∨ k = 2 ∨ k = 3 ∨ k = 8 ∨ k = 14 ∨ k = 15 ∨ k = 16 ∨ k = 25 ∨ k = 30)) : gM I (up I' x k v) := fun y j q => by
  unfold up
  rw [if_neg (by omega)]; exact h y j q
theorem gM_p {I' : Nat → Nat → Int32} {bad : Int32} (h : gM I I') : gM I (mp I' a bad bk op) := fun y j q => by
  rw [mp_x (by omega)]; exact h y j q
/-- the start of a reading: the model's numbers -/
theorem be_mx {T N : Nat} {x : Int32} {I1 : Nat → Nat → Int32} (hT6 : T ≤ 600) (htx : ∀ i, i < T → t i < 256 ∧ I 536 i = nI (t i)) (hN : N ≤ T) (hx : x = nI N) (e1 : ∀ i, I1 536 i = I 536 i) (e2 : I1 534 3 = x) : mx I1 t N := ⟨by omega, e2.trans hx, fun i hi => ⟨(htx i (by omega)).1, (e1 i).trans (htx i (by omega)).2⟩⟩
theorem x_N {x : Int32} {T : Nat} (hT : T ≤ 600) (h1 : ¬ x < 0) (h2 : ¬ nI T < x) : ∃ N, x = nI N ∧ N ≤ T := by
  obtain ⟨N, hN, e⟩ := nI_of h1
  refine ⟨N, e, Nat.not_lt.mp (fun z => h2 ?_)⟩
  rw [e]; exact nI_lt z hN
theorem Mo_p {D : cD} {bad v : Int32} (h : Mo I 14 537 538 D) : Mo (mp (up I 534 8 v) a bad bk op) 14 537 538 D := by
  obtain ⟨h1, h2, h3, h4, h5⟩ := h
  refine ⟨by rw [mp_x (by decide), up_k (by decide)]; exact h1, by rw [mp_x (by decide), up_k (by decide)]; exact h2, by rw [mp_x (by decide), up_k (by decide)]; exact h3, fun b hb => ?_, fun c hc => ?_⟩
  · rw [mp_x (by omega), mp_x (by omega), up_a (by decide), up_a (by decide)]; exact h4 b hb
  · rw [mp_x (by omega), mp_x (by omega), up_a (by decide), up_a (by decide)]; exact h5 c hc
theorem c_X12_court {x : Int32} {T : Nat} (hT : I 534 2 = nI T) (hT6 : T ≤ 600) (htx : ∀ i, i < T → t i < 256 ∧ I 536 i = nI (t i))
 (h1 : ¬ (¬ x < 0 ∧ ¬ nI T < x) → Q (.inl (some (.int 0))) (Z (thr I 1 1) J n w))
 (h2 : ∀ N e I', x = nI N → N ≤ T → rCo t N 61 0 (sk t N 0) d0 = .inl e → gM I I' → I' 534 0 = 0 → I' 534 2 = 0 → I' 534 8 = nI e.2 → Q (.inl (some (.int (nI e.1 - 10)))) (Z I' J n w))
 (h3 : ∀ N D I', x = nI N → N ≤ T → rCo t N 61 0 (sk t N 0) d0 = .inr D → gM I I' → I' 534 0 = 0 → I' 534 2 = 0 → I' 534 8 = -1 → Mo I' 14 537 538 D → cOk D → Q (.inl (some (.int (nI (cb D))))) (Z (stM I') J n w)) : Cn g (d + 6) mX12_court [.ref 534, .int x] (Z I J n w) Q := by
  show Rn g (d + 6) mX12_court 0 [.ref 534, .int x, .retAddr 0, .retAddr 0, .retAddr 0] [] [] (Z I J n w) Q
  refine s_aload_n (pc := 0) (i := 0) dX12_court_0 rfl rfl ?_
  refine m_ic (pc := 1) (v := 0) dX12_court_1 rfl ?_
  refine m_pi (pc := 2) dX12_court_2 ff_X12_3 rfl rfl o_534 ?_
  refine s_aload_n (pc := 5) (i := 0) dX12_court_5 rfl rfl ?_
  refine s_iload_n (pc := 6) (i := 1) dX12_court_6 rfl rfl ?_
  refine s_iflt (pc := 7) (tgt := 22) dX12_court_7 rfl (fun h7 => ?_) (fun h7 => ?_)
  · refine m_ic (pc := 22) (v := 0) dX12_court_22 rfl ?_
    refine m_ic (pc := 23) (v := 1) dX12_court_23 rfl ?_
    refine m_ic (pc := 24) (v := 1) dX12_court_24 rfl ?_
    refine m_v3 (pc := 25) dX12_court_25 lk_X12_192 ok_X12_may (rcO o_534 (by decide) rfl) rfl rfl (c_may0 (k := 1) (by decide) rfl rfl (by decide) (kt_s ?_))
    · refine s_ifne (pc := 28) (tgt := 33) dX12_court_28 rfl (fun h28 => absurd h28 (by decide)) (fun h28 => ?_)
      refine m_ic (pc := 31) (v := 0) dX12_court_31 rfl ?_
      refine s_ireturn (pc := 32) dX12_court_32 rfl rfl ?_
      rw [thr_0]
      exact h1 (fun z => z.1 h7)
  · refine s_iload_n (pc := 10) (i := 1) dX12_court_10 rfl rfl ?_
    refine s_aload_n (pc := 11) (i := 0) dX12_court_11 rfl rfl ?_
    refine m_gi (pc := 12) dX12_court_12 ff_X12_99 rfl o_534 ?_
    refine m_nm (v' := nI T) (by rw [up_k (by decide)]; exact hT) ?_
    refine s_icgt (pc := 15) (tgt := 22) dX12_court_15 rfl (fun h15 => ?_) (fun h15 => ?_)
    · refine m_ic (pc := 22) (v := 0) dX12_court_22 rfl ?_
      refine m_ic (pc := 23) (v := 1) dX12_court_23 rfl ?_
      refine m_ic (pc := 24) (v := 1) dX12_court_24 rfl ?_
      refine m_v3 (pc := 25) dX12_court_25 lk_X12_192 ok_X12_may (rcO o_534 (by decide) rfl) rfl rfl (c_may0 (k := 1) (by decide) rfl rfl (by decide) (kt_s ?_))
      · refine s_ifne (pc := 28) (tgt := 33) dX12_court_28 rfl (fun h28 => absurd h28 (by decide)) (fun h28 => ?_)
        refine m_ic (pc := 31) (v := 0) dX12_court_31 rfl ?_
        refine s_ireturn (pc := 32) dX12_court_32 rfl rfl ?_
        rw [thr_0]
        exact h1 (fun z => z.2 h15)
    · refine m_ic (pc := 18) (v := 1) dX12_court_18 rfl ?_
      refine s_goto (pc := 19) (tgt := 23) dX12_court_19 rfl ?_
      refine m_ic (pc := 23) (v := 1) dX12_court_23 rfl ?_
      refine m_ic (pc := 24) (v := 1) dX12_court_24 rfl ?_
      refine m_v3 (pc := 25) dX12_court_25 lk_X12_192 ok_X12_may (rcO o_534 (by decide) rfl) rfl rfl (c_may1 (k := 1) (by decide) rfl rfl (by decide) (kt_s ?_))
      · refine s_ifne (pc := 28) (tgt := 33) dX12_court_28 rfl (fun h28 => ?_) (fun h28 => absurd h28 (by decide))
        refine s_aload_n (pc := 33) (i := 0) dX12_court_33 rfl rfl ?_
        refine s_iload_n (pc := 34) (i := 1) dX12_court_34 rfl rfl ?_
        refine m_v1 (pc := 35) dX12_court_35 lk_X12_196 ok_X12_begins (rcO o_534 (by decide) rfl) rfl rfl (c_X12_begins (kt_v ?_))
        refine s_aload_n (pc := 38) (i := 0) dX12_court_38 rfl rfl ?_
        refine m_v0 (pc := 39) dX12_court_39 lk_X12_93 ok_X12_clears (rcO o_534 (by decide) rfl) rfl rfl (c_X12_clears (fun I2 e2 => kt_v ?_))
        refine m_ic (pc := 42) (v := 0) dX12_court_42 rfl ?_
        refine s_istore_n (pc := 43) (i := 2) dX12_court_43 rfl (Nat.le_of_ble_eq_true rfl) ?_
        dsimp only [List.set, List.filter]
        obtain ⟨N, ex, hN⟩ := x_N hT6 h7 h15
        have G : gM I I2 := by subst e2; exact gM_u (gM_u (gM_u (gM_u (gM_u (gM_u (gM_u gM_r (by decide)) (by decide)) (by decide)) (by decide)) (by decide)) (by decide)) (by decide)
        have F0 : I2 534 0 = 0 := by subst e2; simp [up]
        have F2 : I2 534 2 = 0 := by subst e2; simp [up]
        have hm : mx I2 t N := be_mx hT6 htx hN ex (fun i => by subst e2; simp [up]) (by subst e2; simp [up])
        have hD : Mo I2 14 537 538 d0 := by
          subst e2
          exact ⟨rfl, rfl, rfl, fun b hb => by simp [d0, cb] at hb, fun b hb => by simp [d0, cc] at hb⟩
        have e6 : (up I 534 0 0) 534 6 = I 534 6 := rfl
        rw [e6]
        refine mc_lp 61 I2 0 0 d0 _ _ hm (by omega) hD cOk_0 rfl (fun e I' a' v2 v3 v4 q1 q2 q3 => ?_) (fun D I' a' v2 v3 v4 q1 q2 q3 q4 => ?_) (by omega)
        · refine s_aload_n (pc := 156) (i := 0) dX12_court_156 rfl rfl ?_
          refine s_aload_n (pc := 157) (i := 0) dX12_court_157 rfl rfl ?_
          refine m_gi (pc := 158) dX12_court_158 ff_X12_145 rfl o_534 ?_
          refine m_v1 (pc := 161) dX12_court_161 lk_X12_226 ok_X12_result (rcO o_534 (by decide) rfl) rfl rfl (c_X12_result_n (nI_m1 (by omega)) (kt_s ?_))
          refine s_istore_n (pc := 164) (i := 3) dX12_court_164 rfl (Nat.le_of_ble_eq_true rfl) ?_
          dsimp only [List.set, List.filter]
          refine s_aload_n (pc := 165) (i := 0) dX12_court_165 rfl rfl ?_
          refine m_gi (pc := 166) dX12_court_166 ff_X12_102 rfl o_534 ?_
          refine m_nm (v' := (nI e.2)) rfl ?_
          refine m_ic (pc := 169) (v := -1) dX12_court_169 rfl ?_
          refine s_icne (pc := 170) (tgt := 177) dX12_court_170 rfl (fun h170 => ?_) (fun h170 => absurd h170 (nI_m1 (by omega)))
          refine s_iload_n (pc := 177) (i := 3) dX12_court_177 rfl rfl ?_
          refine s_ireturn (pc := 178) dX12_court_178 rfl rfl ?_
          exact h2 N e _ ex hN q1 (gM_p (gM_u (gM_t G (gM_f q2)) (by decide))) (by rw [mp_x (by decide), up_k (by decide), q2 _ _ (by decide)]; exact F0) (by rw [mp_x (by decide), up_k (by decide), q2 _ _ (by decide)]; exact F2) (by rw [mp_x (by decide), up_s])
        · refine s_aload_n (pc := 156) (i := 0) dX12_court_156 rfl rfl ?_
          refine s_aload_n (pc := 157) (i := 0) dX12_court_157 rfl rfl ?_
          refine m_gi (pc := 158) dX12_court_158 ff_X12_145 rfl o_534 ?_
          refine m_nm (v' := nI (cb D)) ((mp_x (by decide)).trans q3.1) ?_
          refine m_v1 (pc := 161) dX12_court_161 lk_X12_226 ok_X12_result (rcO o_534 (by decide) rfl) rfl rfl (c_X12_result (kt_s ?_))
          refine s_istore_n (pc := 164) (i := 3) dX12_court_164 rfl (Nat.le_of_ble_eq_true rfl) ?_
          dsimp only [List.set, List.filter]
          refine s_aload_n (pc := 165) (i := 0) dX12_court_165 rfl rfl ?_
          refine m_gi (pc := 166) dX12_court_166 ff_X12_102 rfl o_534 ?_
          refine m_nm (v' := (-1)) rfl ?_
          refine m_ic (pc := 169) (v := -1) dX12_court_169 rfl ?_
          refine s_icne (pc := 170) (tgt := 177) dX12_court_170 rfl (fun h170 => absurd (rfl) h170) (fun h170 => ?_)
          refine s_aload_n (pc := 173) (i := 0) dX12_court_173 rfl rfl ?_
          refine m_v0 (pc := 174) dX12_court_174 lk_X12_96 ok_X12_sets (rcO o_534 (by decide) rfl) rfl rfl (c_X12_sets (kt_v ?_))
          refine s_iload_n (pc := 177) (i := 3) dX12_court_177 rfl rfl ?_
          refine s_ireturn (pc := 178) dX12_court_178 rfl rfl ?_
          exact h3 N D _ ex hN q1 (gM_p (gM_u (gM_t G (gM_f q2)) (by decide))) (by rw [mp_x (by decide), up_k (by decide), q2 _ _ (by decide)]; exact F0) (by rw [mp_x (by decide), up_k (by decide), q2 _ _ (by decide)]; exact F2) (by rw [mp_x (by decide), up_s]) (Mo_p q3) q4
end S
