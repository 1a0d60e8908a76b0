section S
variable {g : aG} {d : Nat} {I : Nat → Nat → Int32} {J : Nat → Nat → Int64} {n w : Nat} {Q : aO → aS → Prop}
variable {t : Nat → Nat} {N a : Nat} {bad bk op : Int32} {σ : aS}
/-- a method of the model that reads codes, by its spec -/
def cMd (g : aG) (mm : aM) (k : Nat) (t : Nat → Nat) (N : Nat) (U : Nat → List Nat → lT) (o : Nat) : Prop := ∀ (d : Nat) (I : Nat → Nat → Int32) (J : Nat → Nat → Int64) (n w : Nat) (Q : aO → aS → Prop) (a : Nat) (bk : Int32) (cs : List Nat), mx I t N → a ≤ N → N ≤ 150 → Lm I cs → cs.length ≤ sk t N a →
  (∀ e a' I' op', U (sk t N a) cs = .inl e → e.2 ≤ 600 → fM I I' → Q (.inl none) (Z (mp I' a' (nI e.2) (nI e.1) op') J n w)) → (∀ a' c2 I', U (sk t N a) cs = .inr (sk t N a', c2) → a' ≤ N → fM I I' → Lm I' c2 → Q (.inl none) (Z (mp I' a' (-1) bk (nI o)) J n w)) → Cn g (d + k) mm [.ref 534] (Z (mp I a (-1) bk (nI o)) J n w) Q
theorem hv_is {p c : Nat} (hc : 0 < c) (h : hv t N p = c) : p < N ∧ t p = c := by
  unfold hv at h
  split at h
  · exact ⟨by assumption, h⟩
  · omega
theorem hv_no {p c : Nat} (h : ¬ hv t N p = c) : ¬ (p < N ∧ t p = c) := fun z => h (by unfold hv; rw [if_pos z.1]; exact z.2)
theorem m_readSum_lp {k o : Nat} {U : Nat → List Nat → lT} (hU : cMd g mX12_readProduct (k + 6) t N U o) (hG : gU N U) (hN : N ≤ 150) : ∀ f I a cs (v1 : Value), mx I t N → a ≤ N → N - sk t N a ≤ f → Lm I cs → cs.length ≤ sk t N a →
    (∀ e a' I' op', lR t N U opS f (sk t N a) cs = .inl e → e.2 ≤ 600 → fM I I' → Q (.inl none) (Z (mp I' a' (nI e.2) (nI e.1) op') J n w)) → (∀ a' c2 I', lR t N U opS f (sk t N a) cs = .inr (sk t N a', c2) → a' ≤ N → fM I I' → Lm I' c2 → Q (.inl none) (Z (mp I' a' (-1) bk (nI o)) J n w)) →
    Rn g (d + (k + 7)) mX12_readSum 4 [.ref 534, v1] [] [] (Z (mp I a (-1) bk (nI o)) J n w) Q := by
  intro f
  induction f with
  | zero =>
    intro I a cs v1 hm ha hf hL hl hb hg
    have hs := sk_le (t := t) ha
    have hss := sk_sk (t := t) (N := N) (a := a)
    have hvl := hv_lt (a := sk t N a) hm
    have he : hv t N (sk t N a) = 0 := by unfold hv; rw [if_neg (by omega)]
    refine s_aload_n (pc := 4) (i := 0) dX12_readSum_4 rfl rfl ?_
    refine m_v0 (pc := 5) dX12_readSum_5 lk_X12_131 ok_X12_fine (rcO o_534 (by decide) rfl) rfl rfl (c_X12_fine (fun h => kt_s ?_) (fun h => absurd rfl h))
    · refine s_ifeq (pc := 8) (tgt := 67) dX12_readSum_8 rfl (fun h8 => absurd h8 (by decide)) (fun h8 => ?_)
      refine s_aload_n (pc := 11) (i := 0) dX12_readSum_11 rfl rfl ?_
      refine m_v0 (pc := 12) dX12_readSum_12 lk_X12_114 ok_X12_here (rcO o_534 (by decide) rfl) rfl rfl (c_X12_here hm ha (kt_s ?_))
      refine m_bi (pc := 15) (v := 43) dX12_readSum_15 rfl ?_
      refine s_iceq (pc := 17) (tgt := 29) dX12_readSum_17 rfl (fun h17 => absurd h17 (by rw [he]; decide)) (fun h17 => ?_)
      refine s_aload_n (pc := 20) (i := 0) dX12_readSum_20 rfl rfl ?_
      refine m_v0 (pc := 21) dX12_readSum_21 lk_X12_114 ok_X12_here (rcO o_534 (by decide) rfl) rfl rfl (c_X12_here hm hs (kt_s ?_))
      rw [hss]
      refine m_bi (pc := 24) (v := 45) dX12_readSum_24 rfl ?_
      refine s_icne (pc := 26) (tgt := 67) dX12_readSum_26 rfl (fun h26 => ?_) (fun h26 => absurd h26 (by rw [he]; decide))
      refine s_return (pc := 67) dX12_readSum_67 rfl ?_
      exact hg (sk t N a) cs I (by rw [hss]; rfl) hs fM_r hL
  | succ f ih =>
    intro I a cs v1 hm ha hf hL hl hb hg
    have hs := sk_le (t := t) ha
    have hss := sk_sk (t := t) (N := N) (a := a)
    have hvl := hv_lt (a := sk t N a) hm
    unfold lR at hb hg
    refine s_aload_n (pc := 4) (i := 0) dX12_readSum_4 rfl rfl ?_
    refine m_v0 (pc := 5) dX12_readSum_5 lk_X12_131 ok_X12_fine (rcO o_534 (by decide) rfl) rfl rfl (c_X12_fine (fun h => kt_s ?_) (fun h => absurd rfl h))
    · refine s_ifeq (pc := 8) (tgt := 67) dX12_readSum_8 rfl (fun h8 => absurd h8 (by decide)) (fun h8 => ?_)
      refine s_aload_n (pc := 11) (i := 0) dX12_readSum_11 rfl rfl ?_
      refine m_v0 (pc := 12) dX12_readSum_12 lk_X12_114 ok_X12_here (rcO o_534 (by decide) rfl) rfl rfl (c_X12_here hm ha (kt_s ?_))
      refine m_bi (pc := 15) (v := 43) dX12_readSum_15 rfl ?_
      refine s_iceq (pc := 17) (tgt := 29) dX12_readSum_17 rfl (fun h17 => ?_) (fun h17 => ?_)
      · rw [show (43 : Int32) = nI 43 from rfl, nI_eq (by omega) (by omega)] at h17
        obtain ⟨hlt, ht⟩ := hv_is (by decide) h17
        have hop : opS (t (sk t N a)) = true := by rw [ht]; rfl
        rw [if_pos ⟨hlt, hop⟩] at hb hg
        have hk := sk_le (t := t) (N := N) (a := sk t N a + 1) (by omega)
        have hk2 := sk_ge (t := t) (N := N) (a := sk t N a + 1)
        refine s_aload_n (pc := 29) (i := 0) dX12_readSum_29 rfl rfl ?_
        refine m_v0 (pc := 30) dX12_readSum_30 lk_X12_114 ok_X12_here (rcO o_534 (by decide) rfl) rfl rfl (c_X12_here hm hs (kt_s ?_))
        rw [hss]
        refine m_bi (pc := 33) (v := 43) dX12_readSum_33 rfl ?_
        refine s_icne (pc := 35) (tgt := 42) dX12_readSum_35 rfl (fun h35 => absurd (by rw [h17]; rfl) h35) (fun h35 => ?_)
        refine m_ic (pc := 38) (v := 2) dX12_readSum_38 rfl ?_
        refine s_goto (pc := 39) (tgt := 43) dX12_readSum_39 rfl ?_
        refine s_istore_n (pc := 43) (i := 1) dX12_readSum_43 rfl (Nat.le_of_ble_eq_true rfl) ?_
        dsimp only [List.set, List.filter]
        refine s_aload_n (pc := 44) (i := 0) dX12_readSum_44 rfl rfl ?_
        refine s_dup (pc := 45) dX12_readSum_45 rfl ?_
        refine m_gi (pc := 46) dX12_readSum_46 ff_X12_108 rfl o_534 ?_
        refine m_nm (v' := nI (sk t N a)) rfl ?_
        refine m_ic (pc := 49) (v := 1) dX12_readSum_49 rfl ?_
        refine s_iadd (pc := 50) dX12_readSum_50 ?_
        refine m_nm (v' := nI (sk t N a + 1)) (nI_1 _) ?_
        refine m_pi (pc := 51) dX12_readSum_51 ff_X12_108 rfl rfl o_534 ?_
        refine Rs_cg mp_a ?_
        refine s_aload_n (pc := 54) (i := 0) dX12_readSum_54 rfl rfl ?_
        refine m_v0 (pc := 55) dX12_readSum_55 lk_X12_233 ok_X12_readProduct (rcO o_534 (by decide) rfl) rfl rfl (hU _ _ _ _ _ _ _ _ _ hm (by omega) hN hL (by omega) (fun e a1 I1 op1 q1 q2 q3 => kt_v ?_) (fun a1 c2 I1 q1 q2 q3 q4 => kt_v ?_))
        · rw [q1] at hb
          refine s_aload_n (pc := 58) (i := 0) dX12_readSum_58 rfl rfl ?_
          refine s_iload_n (pc := 59) (i := 1) dX12_readSum_59 rfl rfl ?_
          refine m_ic (pc := 60) (v := 0) dX12_readSum_60 rfl ?_
          refine m_v2 (pc := 61) dX12_readSum_61 lk_X12_236 ok_X12_emit (rcO o_534 (by decide) rfl) rfl rfl (c_emit_n (nI_m1 (by omega)) (kt_v ?_))
          refine s_goto (pc := 64) (tgt := 4) dX12_readSum_64 rfl ?_
          refine s_aload_n (pc := 4) (i := 0) dX12_readSum_4 rfl rfl ?_
          refine m_v0 (pc := 5) dX12_readSum_5 lk_X12_131 ok_X12_fine (rcO o_534 (by decide) rfl) rfl rfl (c_X12_fine (fun h => absurd h (nI_m1 (by omega))) (fun h => kt_s ?_))
          · refine s_ifeq (pc := 8) (tgt := 67) dX12_readSum_8 rfl (fun h8 => ?_) (fun h8 => absurd h8 (by decide))
            refine s_return (pc := 67) dX12_readSum_67 rfl ?_
            exact hb e a1 I1 op1 rfl q2 q3
        · rw [q1] at hb hg
          simp only [] at hb hg
          have g1 := hG _ _ _ _ hk q1
          refine s_aload_n (pc := 58) (i := 0) dX12_readSum_58 rfl rfl ?_
          refine s_iload_n (pc := 59) (i := 1) dX12_readSum_59 rfl rfl ?_
          refine m_ic (pc := 60) (v := 0) dX12_readSum_60 rfl ?_
          refine m_v2 (pc := 61) dX12_readSum_61 lk_X12_236 ok_X12_emit (rcO o_534 (by decide) rfl) rfl rfl (c_X12_emit (v := 2000 + t (sk t N a)) (mx_f hm q3) q4 (by omega) (by rw [ht]; rfl) (by rw [ht]; rfl) (fun I2 r1 r2 => kt_v ?_))
          refine s_goto (pc := 64) (tgt := 4) dX12_readSum_64 rfl ?_
          exact ih I2 a1 (c2 ++ [2000 + t (sk t N a)]) _ (mx_f (mx_f hm q3) r1) q2 (by omega) r2 (by rw [List.length_append, List.length_singleton]; omega) (fun e a' I' op' z1 z2 z3 => hb e a' I' op' z1 z2 (fM_t q3 (fM_t r1 z3))) (fun a' c3 I' z1 z2 z3 z4 => hg a' c3 I' z1 z2 (fM_t q3 (fM_t r1 z3)) z4)
      · rw [show (43 : Int32) = nI 43 from rfl, nI_eq (by omega) (by omega)] at h17
        refine s_aload_n (pc := 20) (i := 0) dX12_readSum_20 rfl rfl ?_
        refine m_v0 (pc := 21) dX12_readSum_21 lk_X12_114 ok_X12_here (rcO o_534 (by decide) rfl) rfl rfl (c_X12_here hm hs (kt_s ?_))
        rw [hss]
        refine m_bi (pc := 24) (v := 45) dX12_readSum_24 rfl ?_
        refine s_icne (pc := 26) (tgt := 67) dX12_readSum_26 rfl (fun h26 => ?_) (fun h26 => ?_)
        · rw [show (45 : Int32) = nI 45 from rfl, nI_eq (by omega) (by omega)] at h26
          have hno : ¬ (sk t N a < N ∧ opS (t (sk t N a)) = true) := by
            rintro ⟨z1, z2⟩
            simp only [opS, Bool.or_eq_true, beq_iff_eq] at z2
            have y17 := hv_no h17
            have y26 := hv_no h26
            omega
          rw [if_neg hno] at hg
          refine s_return (pc := 67) dX12_readSum_67 rfl ?_
          exact hg (sk t N a) cs I (by rw [hss]) hs fM_r hL
        · rw [show (45 : Int32) = nI 45 from rfl, nI_eq (by omega) (by omega)] at h26
          obtain ⟨hlt, ht⟩ := hv_is (by decide) h26
          have hop : opS (t (sk t N a)) = true := by rw [ht]; rfl
          rw [if_pos ⟨hlt, hop⟩] at hb hg
          have hk := sk_le (t := t) (N := N) (a := sk t N a + 1) (by omega)
          have hk2 := sk_ge (t := t) (N := N) (a := sk t N a + 1)
          refine s_aload_n (pc := 29) (i := 0) dX12_readSum_29 rfl rfl ?_
          refine m_v0 (pc := 30) dX12_readSum_30 lk_X12_114 ok_X12_here (rcO o_534 (by decide) rfl) rfl rfl (c_X12_here hm hs (kt_s ?_))
          rw [hss]
          refine m_bi (pc := 33) (v := 43) dX12_readSum_33 rfl ?_
          refine s_icne (pc := 35) (tgt := 42) dX12_readSum_35 rfl (fun h35 => ?_) (fun h35 => absurd h35 (by rw [h26]; decide))
          refine m_ic (pc := 42) (v := 3) dX12_readSum_42 rfl ?_
          refine s_istore_n (pc := 43) (i := 1) dX12_readSum_43 rfl (Nat.le_of_ble_eq_true rfl) ?_
          dsimp only [List.set, List.filter]
          refine s_aload_n (pc := 44) (i := 0) dX12_readSum_44 rfl rfl ?_
          refine s_dup (pc := 45) dX12_readSum_45 rfl ?_
          refine m_gi (pc := 46) dX12_readSum_46 ff_X12_108 rfl o_534 ?_
          refine m_nm (v' := nI (sk t N a)) rfl ?_
          refine m_ic (pc := 49) (v := 1) dX12_readSum_49 rfl ?_
          refine s_iadd (pc := 50) dX12_readSum_50 ?_
          refine m_nm (v' := nI (sk t N a + 1)) (nI_1 _) ?_
          refine m_pi (pc := 51) dX12_readSum_51 ff_X12_108 rfl rfl o_534 ?_
          refine Rs_cg mp_a ?_
          refine s_aload_n (pc := 54) (i := 0) dX12_readSum_54 rfl rfl ?_
          refine m_v0 (pc := 55) dX12_readSum_55 lk_X12_233 ok_X12_readProduct (rcO o_534 (by decide) rfl) rfl rfl (hU _ _ _ _ _ _ _ _ _ hm (by omega) hN hL (by omega) (fun e a1 I1 op1 q1 q2 q3 => kt_v ?_) (fun a1 c2 I1 q1 q2 q3 q4 => kt_v ?_))
          · rw [q1] at hb
            refine s_aload_n (pc := 58) (i := 0) dX12_readSum_58 rfl rfl ?_
            refine s_iload_n (pc := 59) (i := 1) dX12_readSum_59 rfl rfl ?_
            refine m_ic (pc := 60) (v := 0) dX12_readSum_60 rfl ?_
            refine m_v2 (pc := 61) dX12_readSum_61 lk_X12_236 ok_X12_emit (rcO o_534 (by decide) rfl) rfl rfl (c_emit_n (nI_m1 (by omega)) (kt_v ?_))
            refine s_goto (pc := 64) (tgt := 4) dX12_readSum_64 rfl ?_
            refine s_aload_n (pc := 4) (i := 0) dX12_readSum_4 rfl rfl ?_
            refine m_v0 (pc := 5) dX12_readSum_5 lk_X12_131 ok_X12_fine (rcO o_534 (by decide) rfl) rfl rfl (c_X12_fine (fun h => absurd h (nI_m1 (by omega))) (fun h => kt_s ?_))
            · refine s_ifeq (pc := 8) (tgt := 67) dX12_readSum_8 rfl (fun h8 => ?_) (fun h8 => absurd h8 (by decide))
              refine s_return (pc := 67) dX12_readSum_67 rfl ?_
              exact hb e a1 I1 op1 rfl q2 q3
          · rw [q1] at hb hg
            simp only [] at hb hg
            have g1 := hG _ _ _ _ hk q1
            refine s_aload_n (pc := 58) (i := 0) dX12_readSum_58 rfl rfl ?_
            refine s_iload_n (pc := 59) (i := 1) dX12_readSum_59 rfl rfl ?_
            refine m_ic (pc := 60) (v := 0) dX12_readSum_60 rfl ?_
            refine m_v2 (pc := 61) dX12_readSum_61 lk_X12_236 ok_X12_emit (rcO o_534 (by decide) rfl) rfl rfl (c_X12_emit (v := 2000 + t (sk t N a)) (mx_f hm q3) q4 (by omega) (by rw [ht]; rfl) (by rw [ht]; rfl) (fun I2 r1 r2 => kt_v ?_))
            refine s_goto (pc := 64) (tgt := 4) dX12_readSum_64 rfl ?_
            exact ih I2 a1 (c2 ++ [2000 + t (sk t N a)]) _ (mx_f (mx_f hm q3) r1) q2 (by omega) r2 (by rw [List.length_append, List.length_singleton]; omega) (fun e a' I' op' z1 z2 z3 => hb e a' I' op' z1 z2 (fM_t q3 (fM_t r1 z3))) (fun a' c3 I' z1 z2 z3 z4 => hg a' c3 I' z1 z2 (fM_t q3 (fM_t r1 z3)) z4)
theorem cm_readSum {k o : Nat} {U : Nat → List Nat → lT} (hU : cMd g mX12_readProduct (k + 6) t N U o) (hG : gU N U) : cMd g mX12_readSum (k + 7) t N (lF t N U opS) o := by
  intro d I J n w Q a bk cs hm ha hN hL hl hb hg
  have hs := sk_le (t := t) ha
  show Rn g (d + (k + 7)) mX12_readSum 0 [.ref 534, .retAddr 0] [] [] (Z (mp I a (-1) bk (nI o)) J n w) Q
  refine s_aload_n (pc := 0) (i := 0) dX12_readSum_0 rfl rfl ?_
  refine m_v0 (pc := 1) dX12_readSum_1 lk_X12_233 ok_X12_readProduct (rcO o_534 (by decide) rfl) rfl rfl (hU _ _ _ _ _ _ _ _ _ hm ha hN hL hl (fun e a1 I1 op1 q1 q2 q3 => kt_v ?_) (fun a1 c2 I1 q1 q2 q3 q4 => kt_v ?_))
  · refine s_aload_n (pc := 4) (i := 0) dX12_readSum_4 rfl rfl ?_
    refine m_v0 (pc := 5) dX12_readSum_5 lk_X12_131 ok_X12_fine (rcO o_534 (by decide) rfl) rfl rfl (c_X12_fine (fun h => absurd h (nI_m1 (by omega))) (fun h => kt_s ?_))
    · refine s_ifeq (pc := 8) (tgt := 67) dX12_readSum_8 rfl (fun h8 => ?_) (fun h8 => absurd h8 (by decide))
      refine s_return (pc := 67) dX12_readSum_67 rfl ?_
      exact hb e a1 I1 op1 (by unfold lF; rw [q1]) q2 q3
  · have g1 := hG _ _ _ _ hs q1
    exact m_readSum_lp hU hG hN 150 I1 a1 c2 _ (mx_f hm q3) q2 (by omega) q4 (by omega) (fun e a' I' op' z1 z2 z3 => hb e a' I' op' (by unfold lF; rw [q1]; exact z1) z2 (fM_t q3 z3)) (fun a' c3 I' z1 z2 z3 z4 => hg a' c3 I' (by unfold lF; rw [q1]; exact z1) z2 (fM_t q3 z3) z4)
theorem m_readProduct_lp {k o : Nat} {U : Nat → List Nat → lT} (hU : cMd g mX12_readUnit (k + 6) t N U o) (hG : gU N U) (hN : N ≤ 150) : ∀ f I a cs (v1 : Value), mx I t N → a ≤ N → N - sk t N a ≤ f → Lm I cs → cs.length ≤ sk t N a →
    (∀ e a' I' op', lR t N U opP f (sk t N a) cs = .inl e → e.2 ≤ 600 → fM I I' → Q (.inl none) (Z (mp I' a' (nI e.2) (nI e.1) op') J n w)) → (∀ a' c2 I', lR t N U opP f (sk t N a) cs = .inr (sk t N a', c2) → a' ≤ N → fM I I' → Lm I' c2 → Q (.inl none) (Z (mp I' a' (-1) bk (nI o)) J n w)) →
    Rn g (d + (k + 7)) mX12_readProduct 4 [.ref 534, v1] [] [] (Z (mp I a (-1) bk (nI o)) J n w) Q := by
  intro f
  induction f with
  | zero =>
    intro I a cs v1 hm ha hf hL hl hb hg
    have hs := sk_le (t := t) ha
    have hss := sk_sk (t := t) (N := N) (a := a)
    have hvl := hv_lt (a := sk t N a) hm
    have he : hv t N (sk t N a) = 0 := by unfold hv; rw [if_neg (by omega)]
    refine s_aload_n (pc := 4) (i := 0) dX12_readProduct_4 rfl rfl ?_
    refine m_v0 (pc := 5) dX12_readProduct_5 lk_X12_131 ok_X12_fine (rcO o_534 (by decide) rfl) rfl rfl (c_X12_fine (fun h => kt_s ?_) (fun h => absurd rfl h))
    · refine s_ifeq (pc := 8) (tgt := 90) dX12_readProduct_8 rfl (fun h8 => absurd h8 (by decide)) (fun h8 => ?_)
      refine s_aload_n (pc := 11) (i := 0) dX12_readProduct_11 rfl rfl ?_
      refine m_v0 (pc := 12) dX12_readProduct_12 lk_X12_114 ok_X12_here (rcO o_534 (by decide) rfl) rfl rfl (c_X12_here hm ha (kt_s ?_))
      refine m_bi (pc := 15) (v := 42) dX12_readProduct_15 rfl ?_
      refine s_iceq (pc := 17) (tgt := 38) dX12_readProduct_17 rfl (fun h17 => absurd h17 (by rw [he]; decide)) (fun h17 => ?_)
      refine s_aload_n (pc := 20) (i := 0) dX12_readProduct_20 rfl rfl ?_
      refine m_v0 (pc := 21) dX12_readProduct_21 lk_X12_114 ok_X12_here (rcO o_534 (by decide) rfl) rfl rfl (c_X12_here hm hs (kt_s ?_))
      rw [hss]
      refine m_bi (pc := 24) (v := 47) dX12_readProduct_24 rfl ?_
      refine s_iceq (pc := 26) (tgt := 38) dX12_readProduct_26 rfl (fun h26 => absurd h26 (by rw [he]; decide)) (fun h26 => ?_)
      refine s_aload_n (pc := 29) (i := 0) dX12_readProduct_29 rfl rfl ?_
      refine m_v0 (pc := 30) dX12_readProduct_30 lk_X12_114 ok_X12_here (rcO o_534 (by decide) rfl) rfl rfl (c_X12_here hm hs (kt_s ?_))
      rw [hss]
      refine m_bi (pc := 33) (v := 37) dX12_readProduct_33 rfl ?_
      refine s_icne (pc := 35) (tgt := 90) dX12_readProduct_35 rfl (fun h35 => ?_) (fun h35 => absurd h35 (by rw [he]; decide))
      refine s_return (pc := 90) dX12_readProduct_90 rfl ?_
      exact hg (sk t N a) cs I (by rw [hss]; rfl) hs fM_r hL
  | succ f ih =>
    intro I a cs v1 hm ha hf hL hl hb hg
    have hs := sk_le (t := t) ha
    have hss := sk_sk (t := t) (N := N) (a := a)
    have hvl := hv_lt (a := sk t N a) hm
    unfold lR at hb hg
    refine s_aload_n (pc := 4) (i := 0) dX12_readProduct_4 rfl rfl ?_
    refine m_v0 (pc := 5) dX12_readProduct_5 lk_X12_131 ok_X12_fine (rcO o_534 (by decide) rfl) rfl rfl (c_X12_fine (fun h => kt_s ?_) (fun h => absurd rfl h))
    · refine s_ifeq (pc := 8) (tgt := 90) dX12_readProduct_8 rfl (fun h8 => absurd h8 (by decide)) (fun h8 => ?_)
      refine s_aload_n (pc := 11) (i := 0) dX12_readProduct_11 rfl rfl ?_
      refine m_v0 (pc := 12) dX12_readProduct_12 lk_X12_114 ok_X12_here (rcO o_534 (by decide) rfl) rfl rfl (c_X12_here hm ha (kt_s ?_))
      refine m_bi (pc := 15) (v := 42) dX12_readProduct_15 rfl ?_
      refine s_iceq (pc := 17) (tgt := 38) dX12_readProduct_17 rfl (fun h17 => ?_) (fun h17 => ?_)
      · rw [show (42 : Int32) = nI 42 from rfl, nI_eq (by omega) (by omega)] at h17
        obtain ⟨hlt, ht⟩ := hv_is (by decide) h17
        have hop : opP (t (sk t N a)) = true := by rw [ht]; rfl
        rw [if_pos ⟨hlt, hop⟩] at hb hg
        have hk := sk_le (t := t) (N := N) (a := sk t N a + 1) (by omega)
        have hk2 := sk_ge (t := t) (N := N) (a := sk t N a + 1)
        refine s_aload_n (pc := 38) (i := 0) dX12_readProduct_38 rfl rfl ?_
        refine m_v0 (pc := 39) dX12_readProduct_39 lk_X12_114 ok_X12_here (rcO o_534 (by decide) rfl) rfl rfl (c_X12_here hm hs (kt_s ?_))
        rw [hss]
        refine m_bi (pc := 42) (v := 42) dX12_readProduct_42 rfl ?_
        refine s_icne (pc := 44) (tgt := 51) dX12_readProduct_44 rfl (fun h44 => absurd (by rw [h17]; rfl) h44) (fun h44 => ?_)
        refine m_ic (pc := 47) (v := 4) dX12_readProduct_47 rfl ?_
        refine s_goto (pc := 48) (tgt := 66) dX12_readProduct_48 rfl ?_
        refine s_istore_n (pc := 66) (i := 1) dX12_readProduct_66 rfl (Nat.le_of_ble_eq_true rfl) ?_
        dsimp only [List.set, List.filter]
        refine s_aload_n (pc := 67) (i := 0) dX12_readProduct_67 rfl rfl ?_
        refine s_dup (pc := 68) dX12_readProduct_68 rfl ?_
        refine m_gi (pc := 69) dX12_readProduct_69 ff_X12_108 rfl o_534 ?_
        refine m_nm (v' := nI (sk t N a)) rfl ?_
        refine m_ic (pc := 72) (v := 1) dX12_readProduct_72 rfl ?_
        refine s_iadd (pc := 73) dX12_readProduct_73 ?_
        refine m_nm (v' := nI (sk t N a + 1)) (nI_1 _) ?_
        refine m_pi (pc := 74) dX12_readProduct_74 ff_X12_108 rfl rfl o_534 ?_
        refine Rs_cg mp_a ?_
        refine s_aload_n (pc := 77) (i := 0) dX12_readProduct_77 rfl rfl ?_
        refine m_v0 (pc := 78) dX12_readProduct_78 lk_X12_239 ok_X12_readUnit (rcO o_534 (by decide) rfl) rfl rfl (hU _ _ _ _ _ _ _ _ _ hm (by omega) hN hL (by omega) (fun e a1 I1 op1 q1 q2 q3 => kt_v ?_) (fun a1 c2 I1 q1 q2 q3 q4 => kt_v ?_))
        · rw [q1] at hb
          refine s_aload_n (pc := 81) (i := 0) dX12_readProduct_81 rfl rfl ?_
          refine s_iload_n (pc := 82) (i := 1) dX12_readProduct_82 rfl rfl ?_
          refine m_ic (pc := 83) (v := 0) dX12_readProduct_83 rfl ?_
          refine m_v2 (pc := 84) dX12_readProduct_84 lk_X12_236 ok_X12_emit (rcO o_534 (by decide) rfl) rfl rfl (c_emit_n (nI_m1 (by omega)) (kt_v ?_))
          refine s_goto (pc := 87) (tgt := 4) dX12_readProduct_87 rfl ?_
          refine s_aload_n (pc := 4) (i := 0) dX12_readProduct_4 rfl rfl ?_
          refine m_v0 (pc := 5) dX12_readProduct_5 lk_X12_131 ok_X12_fine (rcO o_534 (by decide) rfl) rfl rfl (c_X12_fine (fun h => absurd h (nI_m1 (by omega))) (fun h => kt_s ?_))
          · refine s_ifeq (pc := 8) (tgt := 90) dX12_readProduct_8 rfl (fun h8 => ?_) (fun h8 => absurd h8 (by decide))
            refine s_return (pc := 90) dX12_readProduct_90 rfl ?_
            exact hb e a1 I1 op1 rfl q2 q3
        · rw [q1] at hb hg
          simp only [] at hb hg
          have g1 := hG _ _ _ _ hk q1
          refine s_aload_n (pc := 81) (i := 0) dX12_readProduct_81 rfl rfl ?_
          refine s_iload_n (pc := 82) (i := 1) dX12_readProduct_82 rfl rfl ?_
          refine m_ic (pc := 83) (v := 0) dX12_readProduct_83 rfl ?_
          refine m_v2 (pc := 84) dX12_readProduct_84 lk_X12_236 ok_X12_emit (rcO o_534 (by decide) rfl) rfl rfl (c_X12_emit (v := 2000 + t (sk t N a)) (mx_f hm q3) q4 (by omega) (by rw [ht]; rfl) (by rw [ht]; rfl) (fun I2 r1 r2 => kt_v ?_))
          refine s_goto (pc := 87) (tgt := 4) dX12_readProduct_87 rfl ?_
          exact ih I2 a1 (c2 ++ [2000 + t (sk t N a)]) _ (mx_f (mx_f hm q3) r1) q2 (by omega) r2 (by rw [List.length_append, List.length_singleton]; omega) (fun e a' I' op' z1 z2 z3 => hb e a' I' op' z1 z2 (fM_t q3 (fM_t r1 z3))) (fun a' c3 I' z1 z2 z3 z4 => hg a' c3 I' z1 z2 (fM_t q3 (fM_t r1 z3)) z4)
      · rw [show (42 : Int32) = nI 42 from rfl, nI_eq (by omega) (by omega)] at h17
        refine s_aload_n (pc := 20) (i := 0) dX12_readProduct_20 rfl rfl ?_
        refine m_v0 (pc := 21) dX12_readProduct_21 lk_X12_114 ok_X12_here (rcO o_534 (by decide) rfl) rfl rfl (c_X12_here hm hs (kt_s ?_))
        rw [hss]
        refine m_bi (pc := 24) (v := 47) dX12_readProduct_24 rfl ?_
        refine s_iceq (pc := 26) (tgt := 38) dX12_readProduct_26 rfl (fun h26 => ?_) (fun h26 => ?_)
        · rw [show (47 : Int32) = nI 47 from rfl, nI_eq (by omega) (by omega)] at h26
          obtain ⟨hlt, ht⟩ := hv_is (by decide) h26
          have hop : opP (t (sk t N a)) = true := by rw [ht]; rfl
          rw [if_pos ⟨hlt, hop⟩] at hb hg
          have hk := sk_le (t := t) (N := N) (a := sk t N a + 1) (by omega)
          have hk2 := sk_ge (t := t) (N := N) (a := sk t N a + 1)
          refine s_aload_n (pc := 38) (i := 0) dX12_readProduct_38 rfl rfl ?_
          refine m_v0 (pc := 39) dX12_readProduct_39 lk_X12_114 ok_X12_here (rcO o_534 (by decide) rfl) rfl rfl (c_X12_here hm hs (kt_s ?_))
          rw [hss]
          refine m_bi (pc := 42) (v := 42) dX12_readProduct_42 rfl ?_
          refine s_icne (pc := 44) (tgt := 51) dX12_readProduct_44 rfl (fun h44 => ?_) (fun h44 => absurd h44 (by rw [h26]; decide))
          refine s_aload_n (pc := 51) (i := 0) dX12_readProduct_51 rfl rfl ?_
          refine m_v0 (pc := 52) dX12_readProduct_52 lk_X12_114 ok_X12_here (rcO o_534 (by decide) rfl) rfl rfl (c_X12_here hm hs (kt_s ?_))
          rw [hss]
          refine m_bi (pc := 55) (v := 47) dX12_readProduct_55 rfl ?_
          refine s_icne (pc := 57) (tgt := 64) dX12_readProduct_57 rfl (fun h57 => absurd (by rw [h26]; rfl) h57) (fun h57 => ?_)
          refine m_ic (pc := 60) (v := 5) dX12_readProduct_60 rfl ?_
          refine s_goto (pc := 61) (tgt := 66) dX12_readProduct_61 rfl ?_
          refine s_istore_n (pc := 66) (i := 1) dX12_readProduct_66 rfl (Nat.le_of_ble_eq_true rfl) ?_
          dsimp only [List.set, List.filter]
          refine s_aload_n (pc := 67) (i := 0) dX12_readProduct_67 rfl rfl ?_
          refine s_dup (pc := 68) dX12_readProduct_68 rfl ?_
          refine m_gi (pc := 69) dX12_readProduct_69 ff_X12_108 rfl o_534 ?_
          refine m_nm (v' := nI (sk t N a)) rfl ?_
          refine m_ic (pc := 72) (v := 1) dX12_readProduct_72 rfl ?_
          refine s_iadd (pc := 73) dX12_readProduct_73 ?_
          refine m_nm (v' := nI (sk t N a + 1)) (nI_1 _) ?_
          refine m_pi (pc := 74) dX12_readProduct_74 ff_X12_108 rfl rfl o_534 ?_
          refine Rs_cg mp_a ?_
          refine s_aload_n (pc := 77) (i := 0) dX12_readProduct_77 rfl rfl ?_
          refine m_v0 (pc := 78) dX12_readProduct_78 lk_X12_239 ok_X12_readUnit (rcO o_534 (by decide) rfl) rfl rfl (hU _ _ _ _ _ _ _ _ _ hm (by omega) hN hL (by omega) (fun e a1 I1 op1 q1 q2 q3 => kt_v ?_) (fun a1 c2 I1 q1 q2 q3 q4 => kt_v ?_))
          · rw [q1] at hb
            refine s_aload_n (pc := 81) (i := 0) dX12_readProduct_81 rfl rfl ?_
            refine s_iload_n (pc := 82) (i := 1) dX12_readProduct_82 rfl rfl ?_
            refine m_ic (pc := 83) (v := 0) dX12_readProduct_83 rfl ?_
            refine m_v2 (pc := 84) dX12_readProduct_84 lk_X12_236 ok_X12_emit (rcO o_534 (by decide) rfl) rfl rfl (c_emit_n (nI_m1 (by omega)) (kt_v ?_))
            refine s_goto (pc := 87) (tgt := 4) dX12_readProduct_87 rfl ?_
            refine s_aload_n (pc := 4) (i := 0) dX12_readProduct_4 rfl rfl ?_
            refine m_v0 (pc := 5) dX12_readProduct_5 lk_X12_131 ok_X12_fine (rcO o_534 (by decide) rfl) rfl rfl (c_X12_fine (fun h => absurd h (nI_m1 (by omega))) (fun h => kt_s ?_))
            · refine s_ifeq (pc := 8) (tgt := 90) dX12_readProduct_8 rfl (fun h8 => ?_) (fun h8 => absurd h8 (by decide))
              refine s_return (pc := 90) dX12_readProduct_90 rfl ?_
              exact hb e a1 I1 op1 rfl q2 q3
          · rw [q1] at hb hg
            simp only [] at hb hg
            have g1 := hG _ _ _ _ hk q1
            refine s_aload_n (pc := 81) (i := 0) dX12_readProduct_81 rfl rfl ?_
            refine s_iload_n (pc := 82) (i := 1) dX12_readProduct_82 rfl rfl ?_
            refine m_ic (pc := 83) (v := 0) dX12_readProduct_83 rfl ?_
            refine m_v2 (pc := 84) dX12_readProduct_84 lk_X12_236 ok_X12_emit (rcO o_534 (by decide) rfl) rfl rfl (c_X12_emit (v := 2000 + t (sk t N a)) (mx_f hm q3) q4 (by omega) (by rw [ht]; rfl) (by rw [ht]; rfl) (fun I2 r1 r2 => kt_v ?_))
            refine s_goto (pc := 87) (tgt := 4) dX12_readProduct_87 rfl ?_
            exact ih I2 a1 (c2 ++ [2000 + t (sk t N a)]) _ (mx_f (mx_f hm q3) r1) q2 (by omega) r2 (by rw [List.length_append, List.length_singleton]; omega) (fun e a' I' op' z1 z2 z3 => hb e a' I' op' z1 z2 (fM_t q3 (fM_t r1 z3))) (fun a' c3 I' z1 z2 z3 z4 => hg a' c3 I' z1 z2 (fM_t q3 (fM_t r1 z3)) z4)
        · rw [show (47 : Int32) = nI 47 from rfl, nI_eq (by omega) (by omega)] at h26
          refine s_aload_n (pc := 29) (i := 0) dX12_readProduct_29 rfl rfl ?_
          refine m_v0 (pc := 30) dX12_readProduct_30 lk_X12_114 ok_X12_here (rcO o_534 (by decide) rfl) rfl rfl (c_X12_here hm hs (kt_s ?_))
          rw [hss]
          refine m_bi (pc := 33) (v := 37) dX12_readProduct_33 rfl ?_
          refine s_icne (pc := 35) (tgt := 90) dX12_readProduct_35 rfl (fun h35 => ?_) (fun h35 => ?_)
          · rw [show (37 : Int32) = nI 37 from rfl, nI_eq (by omega) (by omega)] at h35
            have hno : ¬ (sk t N a < N ∧ opP (t (sk t N a)) = true) := by
              rintro ⟨z1, z2⟩
              simp only [opP, Bool.or_eq_true, beq_iff_eq] at z2
              have y17 := hv_no h17
              have y26 := hv_no h26
              have y35 := hv_no h35
              omega
            rw [if_neg hno] at hg
            refine s_return (pc := 90) dX12_readProduct_90 rfl ?_
            exact hg (sk t N a) cs I (by rw [hss]) hs fM_r hL
          · rw [show (37 : Int32) = nI 37 from rfl, nI_eq (by omega) (by omega)] at h35
            obtain ⟨hlt, ht⟩ := hv_is (by decide) h35
            have hop : opP (t (sk t N a)) = true := by rw [ht]; rfl
            rw [if_pos ⟨hlt, hop⟩] at hb hg
            have hk := sk_le (t := t) (N := N) (a := sk t N a + 1) (by omega)
            have hk2 := sk_ge (t := t) (N := N) (a := sk t N a + 1)
            refine s_aload_n (pc := 38) (i := 0) dX12_readProduct_38 rfl rfl ?_
            refine m_v0 (pc := 39) dX12_readProduct_39 lk_X12_114 ok_X12_here (rcO o_534 (by decide) rfl) rfl rfl (c_X12_here hm hs (kt_s ?_))
            rw [hss]
            refine m_bi (pc := 42) (v := 42) dX12_readProduct_42 rfl ?_
            refine s_icne (pc := 44) (tgt := 51) dX12_readProduct_44 rfl (fun h44 => ?_) (fun h44 => absurd h44 (by rw [h35]; decide))
            refine s_aload_n (pc := 51) (i := 0) dX12_readProduct_51 rfl rfl ?_
            refine m_v0 (pc := 52) dX12_readProduct_52 lk_X12_114 ok_X12_here (rcO o_534 (by decide) rfl) rfl rfl (c_X12_here hm hs (kt_s ?_))
            rw [hss]
            refine m_bi (pc := 55) (v := 47) dX12_readProduct_55 rfl ?_
            refine s_icne (pc := 57) (tgt := 64) dX12_readProduct_57 rfl (fun h57 => ?_) (fun h57 => absurd h57 (by rw [h35]; decide))
            refine m_bi (pc := 64) (v := 8) dX12_readProduct_64 rfl ?_
            refine s_istore_n (pc := 66) (i := 1) dX12_readProduct_66 rfl (Nat.le_of_ble_eq_true rfl) ?_
            dsimp only [List.set, List.filter]
            refine s_aload_n (pc := 67) (i := 0) dX12_readProduct_67 rfl rfl ?_
            refine s_dup (pc := 68) dX12_readProduct_68 rfl ?_
            refine m_gi (pc := 69) dX12_readProduct_69 ff_X12_108 rfl o_534 ?_
            refine m_nm (v' := nI (sk t N a)) rfl ?_
            refine m_ic (pc := 72) (v := 1) dX12_readProduct_72 rfl ?_
            refine s_iadd (pc := 73) dX12_readProduct_73 ?_
            refine m_nm (v' := nI (sk t N a + 1)) (nI_1 _) ?_
            refine m_pi (pc := 74) dX12_readProduct_74 ff_X12_108 rfl rfl o_534 ?_
            refine Rs_cg mp_a ?_
            refine s_aload_n (pc := 77) (i := 0) dX12_readProduct_77 rfl rfl ?_
            refine m_v0 (pc := 78) dX12_readProduct_78 lk_X12_239 ok_X12_readUnit (rcO o_534 (by decide) rfl) rfl rfl (hU _ _ _ _ _ _ _ _ _ hm (by omega) hN hL (by omega) (fun e a1 I1 op1 q1 q2 q3 => kt_v ?_) (fun a1 c2 I1 q1 q2 q3 q4 => kt_v ?_))
            · rw [q1] at hb
              refine s_aload_n (pc := 81) (i := 0) dX12_readProduct_81 rfl rfl ?_
              refine s_iload_n (pc := 82) (i := 1) dX12_readProduct_82 rfl rfl ?_
              refine m_ic (pc := 83) (v := 0) dX12_readProduct_83 rfl ?_
              refine m_v2 (pc := 84) dX12_readProduct_84 lk_X12_236 ok_X12_emit (rcO o_534 (by decide) rfl) rfl rfl (c_emit_n (nI_m1 (by omega)) (kt_v ?_))
              refine s_goto (pc := 87) (tgt := 4) dX12_readProduct_87 rfl ?_
              refine s_aload_n (pc := 4) (i := 0) dX12_readProduct_4 rfl rfl ?_
              refine m_v0 (pc := 5) dX12_readProduct_5 lk_X12_131 ok_X12_fine (rcO o_534 (by decide) rfl) rfl rfl (c_X12_fine (fun h => absurd h (nI_m1 (by omega))) (fun h => kt_s ?_))
              · refine s_ifeq (pc := 8) (tgt := 90) dX12_readProduct_8 rfl (fun h8 => ?_) (fun h8 => absurd h8 (by decide))
                refine s_return (pc := 90) dX12_readProduct_90 rfl ?_
                exact hb e a1 I1 op1 rfl q2 q3
            · rw [q1] at hb hg
              simp only [] at hb hg
              have g1 := hG _ _ _ _ hk q1
              refine s_aload_n (pc := 81) (i := 0) dX12_readProduct_81 rfl rfl ?_
              refine s_iload_n (pc := 82) (i := 1) dX12_readProduct_82 rfl rfl ?_
              refine m_ic (pc := 83) (v := 0) dX12_readProduct_83 rfl ?_
              refine m_v2 (pc := 84) dX12_readProduct_84 lk_X12_236 ok_X12_emit (rcO o_534 (by decide) rfl) rfl rfl (c_X12_emit (v := 2000 + t (sk t N a)) (mx_f hm q3) q4 (by omega) (by rw [ht]; rfl) (by rw [ht]; rfl) (fun I2 r1 r2 => kt_v ?_))
              refine s_goto (pc := 87) (tgt := 4) dX12_readProduct_87 rfl ?_
              exact ih I2 a1 (c2 ++ [2000 + t (sk t N a)]) _ (mx_f (mx_f hm q3) r1) q2 (by omega) r2 (by rw [List.length_append, List.length_singleton]; omega) (fun e a' I' op' z1 z2 z3 => hb e a' I' op' z1 z2 (fM_t q3 (fM_t r1 z3))) (fun a' c3 I' z1 z2 z3 z4 => hg a' c3 I' z1 z2 (fM_t q3 (fM_t r1 z3)) z4)
theorem cm_readProduct {k o : Nat} {U : Nat → List Nat → lT} (hU : cMd g mX12_readUnit (k + 6) t N U o) (hG : gU N U) : cMd g mX12_readProduct (k + 7) t N (lF t N U opP) o := by
  intro d I J n w Q a bk cs hm ha hN hL hl hb hg
  have hs := sk_le (t := t) ha
  show Rn g (d + (k + 7)) mX12_readProduct 0 [.ref 534, .retAddr 0] [] [] (Z (mp I a (-1) bk (nI o)) J n w) Q
  refine s_aload_n (pc := 0) (i := 0) dX12_readProduct_0 rfl rfl ?_
  refine m_v0 (pc := 1) dX12_readProduct_1 lk_X12_239 ok_X12_readUnit (rcO o_534 (by decide) rfl) rfl rfl (hU _ _ _ _ _ _ _ _ _ hm ha hN hL hl (fun e a1 I1 op1 q1 q2 q3 => kt_v ?_) (fun a1 c2 I1 q1 q2 q3 q4 => kt_v ?_))
  · refine s_aload_n (pc := 4) (i := 0) dX12_readProduct_4 rfl rfl ?_
    refine m_v0 (pc := 5) dX12_readProduct_5 lk_X12_131 ok_X12_fine (rcO o_534 (by decide) rfl) rfl rfl (c_X12_fine (fun h => absurd h (nI_m1 (by omega))) (fun h => kt_s ?_))
    · refine s_ifeq (pc := 8) (tgt := 90) dX12_readProduct_8 rfl (fun h8 => ?_) (fun h8 => absurd h8 (by decide))
      refine s_return (pc := 90) dX12_readProduct_90 rfl ?_
      exact hb e a1 I1 op1 (by unfold lF; rw [q1]) q2 q3
  · have g1 := hG _ _ _ _ hs q1
    exact m_readProduct_lp hU hG hN 150 I1 a1 c2 _ (mx_f hm q3) q2 (by omega) q4 (by omega) (fun e a' I' op' z1 z2 z3 => hb e a' I' op' (by unfold lF; rw [q1]; exact z1) z2 (fM_t q3 z3)) (fun a' c3 I' z1 z2 z3 z4 => hg a' c3 I' (by unfold lF; rw [q1]; exact z1) z2 (fM_t q3 z3) z4)
end S
