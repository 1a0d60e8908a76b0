section S
variable {g : aG} {d : Nat} {I : Nat → Nat → Int32} {J : Nat → Nat → Int64} {n w : Nat} {Q : aO → aS → Prop}
variable {t : Nat → Nat} {N a : Nat} {bad bk op : Int32} {σ : aS} {S : sD} {D : cD} {cs : List Nat} {ww : Nat}
/-- the model's cells that nothing reads before they are written anew -/
def mS (x j : Nat) : Prop := (x = 534 ∧ (j = 0 ∨ (2 < j ∧ j < 8) ∨ (13 < j ∧ j < 17) ∨ j = 25 ∨ j = 30 ∨ (32 < j ∧ j < 36) ∨ j = 44 ∨ j = 48)) ∨ x = 537 ∨ x = 538 ∨ x = 541 ∨ x = 542 ∨ (544 < x ∧ x < 549) ∨ x = 550 ∨ x = 552 ∨ (553 < x ∧ x < 558)
def km (I I' : Nat → Nat → Int32) : Prop := ∀ x j, ¬ mS x j → I' x j = I x j
theorem km_r : km I I := fun _ _ _ => rfl
theorem km_t {I' I'' : Nat → Nat → Int32} (h : km I I') (h2 : km I' I'') : km I I'' := fun x j a => (h2 x j a).trans (h x j a)
theorem km_X {I' : Nat → Nat → Int32} (h : fX I I') : km I I' := fun x j a => h x j (by unfold mS at a; omega) (by unfold mS at a; omega) (by unfold mS at a; omega)
theorem km_m {I' : Nat → Nat → Int32} (h : fm I I') : km I I' := km_X (fX_m h)
theorem km_u {I' : Nat → Nat → Int32} {x k : Nat} {v : Int32} (h : km I I') (hx : mS x k) : km I (up I' x k v) := fun y j a => by
  by_cases e : y = x ∧ j = k
  · exact absurd (by rw [e.1, e.2]; exact hx) a
  · rw [up_n3 (by omega)]; exact h y j a
theorem gM_k {I' : Nat → Nat → Int32} (h : gM I I') {y j : Nat} (a : ¬ mS y j) (b : y ≠ 534 ∨ (j ≠ 2 ∧ j ≠ 8)) : I' y j = I y j := h y j (by unfold mS at a; omega)
/-- the row of now, and the row worked on -/
def Wn (I : Nat → Nat → Int32) (D : cD) (cs : List Nat) (S : sD) : Prop := Mo I 17 539 540 D ∧ cOk D ∧ Lq I cs ∧ lOk cs ∧ Sm (I 549) S ∧ sOk D S
theorem Wn_W {I' : Nat → Nat → Int32} (h : Wn I D cs S) (hf : ∀ x j, ¬ mS x j → (x ≠ 534 ∨ (17 ≤ j ∧ j ≤ 19) ∨ j = 26) → (x = 534 ∨ (538 < x ∧ x < 545)) → I' x j = I x j) (hs : ∀ j, j < 126 → I' 550 j = I 549 j) : Wm I' D cs S := ⟨Mo_fr h.1 (fun x j z => hf x j (by unfold mS; omega) (by omega) (by omega)), h.2.1, Lq_fr h.2.2.1 (fun x j z => hf x j (by unfold mS; omega) (by omega) (by omega)), h.2.2.2.1, Sm_fr h.2.2.2.2.1 hs, h.2.2.2.2.2⟩
def pwI (I : Nat → Nat → Int32) (q i : Nat) : Nat → Nat → Int32 := fun x j => if x = 551 ∧ q ≤ j ∧ j < q + i then I 549 (j - q) else I x j
theorem pw_0 {q : Nat} : pwI I q 0 = I := by funext x j; unfold pwI; rw [if_neg (by omega)]
theorem pw_1 {q i : Nat} : up (pwI I q i) 551 (q + i) (I 549 i) = pwI I q (i + 1) := by
  funext x j; unfold pwI up; dsimp only
  by_cases e : x = 551 ∧ j = q + i
  · rw [if_pos e, if_pos (by omega), show j - q = i by omega]
  · rw [if_neg e]
    by_cases z : x = 551 ∧ q ≤ j ∧ j < q + i
    · rw [if_pos z, if_pos (by omega)]
    · rw [if_neg z, if_neg (by omega)]
theorem pw_o {q i x j : Nat} (h : x ≠ 551 ∨ j < q ∨ q + i ≤ j) : pwI I q i x j = I x j := by unfold pwI; rw [if_neg (by omega)]
theorem pw_in {q i j : Nat} (h : j < i) : pwI I q i 551 (q + j) = I 549 j := by unfold pwI; rw [if_pos (by omega)]; congr 1; omega
theorem mw_lp {x : Int32} {v2 v3 : Value} (hN : N ≤ 150) (hk : cOk D) : ∀ f I a s, mx I t N → a ≤ N → N - sk t N a ≤ f → I 534 17 = nI (cb D) → I 534 18 = nI (cc D) → I 534 30 = nI (3 * s) → 4 * s ≤ sk t N a →
  (∀ e a' I' op', lsR t N (stT t N (cb D) (cc D) 6) (stopE N) f (sk t N a) = .inl e → fM I I' → e.2 ≤ 600 → Rn g (d + 19) mX12_work 89 [.ref 534, .int x, v2, v3] [] [] (Z (mp I' a' (nI e.2) (nI e.1) op') J n w) Q) →
  (∀ q a' y I', lsR t N (stT t N (cb D) (cc D) 6) (stopE N) f (sk t N a) = .inr (q, y) → fM I I' → fQ s I I' → I' 534 30 = nI (3 * (s + mlT 7 y)) → PmL (PmT 6) (mlT 6) (I' 547) y s → Rn g (d + 19) mX12_work 89 [.ref 534, .int x, v2, v3] [] [] (Z (mp I' a' (-1) bk 0) J n w) Q) → Rn g (d + 19) mX12_work 68 [.ref 534, .int x, v2, v3] [] [] (Z (mp I a (-1) bk 0) J n w) Q := by
  have hS := c_mstepL (g := g) (t := t) (N := N) (D := D) 6 (by decide)
  have hG := stT_g (t := t) (N := N) (nb := cb D) (nc := cc D) 6
  have hF := qF_T 6
  intro f
  induction f with
  | zero =>
    intro I a s hm ha hf h17 h18 hs hs2 hb hg
    have hsk := sk_le (t := t) ha
    refine s_aload_n (pc := 68) (i := 0) dX12_work_68 rfl rfl ?_
    refine m_v0 (pc := 69) dX12_work_69 lk_X12_131 ok_X12_fine (rcO o_534 (by decide) rfl) rfl rfl (c_X12_fine (fun h => kt_s ?_) (fun h => absurd rfl h))
    · refine s_ifeq (pc := 72) (tgt := 89) dX12_work_72 rfl (fun h72 => absurd h72 (by decide)) (fun h72 => ?_)
      refine s_aload_n (pc := 75) (i := 0) dX12_work_75 rfl rfl ?_
      refine m_v0 (pc := 76) dX12_work_76 lk_X12_200 ok_X12_isMore (rcO o_534 (by decide) rfl) rfl rfl (c_X12_isMore hm ha (fun h => absurd h (by omega)) (fun h => kt_s ?_))
      · refine s_ifeq (pc := 79) (tgt := 89) dX12_work_79 rfl (fun h79 => ?_) (fun h79 => absurd h79 (by decide))
        exact hg (sk t N a) _ [] I rfl fM_r (fun _ _ => rfl) hs trivial
  | succ f ih =>
    intro I a s hm ha hf h17 h18 hs hs2 hb hg
    have hsk := sk_le (t := t) ha
    have hss := sk_sk (t := t) (N := N) (a := a)
    refine s_aload_n (pc := 68) (i := 0) dX12_work_68 rfl rfl ?_
    refine m_v0 (pc := 69) dX12_work_69 lk_X12_131 ok_X12_fine (rcO o_534 (by decide) rfl) rfl rfl (c_X12_fine (fun h => kt_s ?_) (fun h => absurd rfl h))
    · refine s_ifeq (pc := 72) (tgt := 89) dX12_work_72 rfl (fun h72 => absurd h72 (by decide)) (fun h72 => ?_)
      refine s_aload_n (pc := 75) (i := 0) dX12_work_75 rfl rfl ?_
      refine m_v0 (pc := 76) dX12_work_76 lk_X12_200 ok_X12_isMore (rcO o_534 (by decide) rfl) rfl rfl (c_X12_isMore hm ha (fun h => kt_s ?_) (fun h => kt_s ?_))
      · have E : ¬ stopE N (sk t N a) = true := fun z => absurd (of_decide_eq_true z) (by omega)
        refine s_ifeq (pc := 79) (tgt := 89) dX12_work_79 rfl (fun h79 => absurd h79 (by decide)) (fun h79 => ?_)
        refine s_aload_n (pc := 82) (i := 0) dX12_work_82 rfl rfl ?_
        refine m_v0 (pc := 83) dX12_work_83 lk_X12_298 ok_X12_readStep (rcO o_534 (by decide) rfl) rfl rfl (hS _ I _ _ _ _ (sk t N a) bk s hm hsk hN h17 h18 hk hs (by rw [hss]; exact hs2) (fun e a1 I1 op1 q1 q2 q3 => kt_v ?_) (fun a1 y I1 q1 q2 q3 q4 q5 q6 => kt_v ?_))
        · rw [hss] at q1
          rw [lsR_1 E, q1] at hb
          refine s_goto (pc := 86) (tgt := 68) dX12_work_86 rfl ?_
          refine s_aload_n (pc := 68) (i := 0) dX12_work_68 rfl rfl ?_
          refine m_v0 (pc := 69) dX12_work_69 lk_X12_131 ok_X12_fine (rcO o_534 (by decide) rfl) rfl rfl (c_X12_fine (fun h => absurd h (nI_m1 (by omega))) (fun h => kt_s ?_))
          · refine s_ifeq (pc := 72) (tgt := 89) dX12_work_72 rfl (fun h72 => ?_) (fun h72 => absurd h72 (by decide))
            exact hb e a1 I1 op1 rfl q2 q3
        · rw [hss] at q1
          rw [lsR_1 E, q1] at hb hg
          simp only [] at hb hg
          refine s_goto (pc := 86) (tgt := 68) dX12_work_86 rfl ?_
          have g1 : sk t N a + 4 * mln (mlT 6) [y] ≤ sk t N a1 ∧ sk t N a < sk t N a1 := by
            unfold itS at q1
            split at q1
            · cases q1
            · rename_i z y2 hz
              have u1 := hG _ _ _ hsk hz
              split at q1
              · cases q1
              · rename_i y3 hy2
                have u2 := sR_gt hy2
                injection q1 with q1; injection q1 with e1 e2; subst e2; rw [← e1]; omega
          have g4 := sk_le (t := t) q2
          refine ih I1 a1 (s + mln (mlT 6) [y]) (mx_f hm q3) q2 (by omega) (by rw [q3 _ _ (by decide)]; exact h17) (by rw [q3 _ _ (by decide)]; exact h18) q5 (by omega) (fun e a' I' op' z1 z2 z3 => ?_) (fun q a' r I' z1 z4 z5 z6 z7 => ?_)
          · rw [z1] at hb; exact hb e a' I' op' rfl (fM_t q3 z2) z3
          · rw [z1] at hg
            exact hg q a' (y :: r) I' rfl (fM_t q3 z4) (fun j u => (z5 j (by omega)).trans (q4 j u)) (by rw [z6]; show nI (3 * (s + mln (mlT 6) [y] + mln (mlT 6) r)) = nI (3 * (s + mln (mlT 6) (y :: r))); rw [mln_c (x := y) (r := r), Nat.add_assoc]) (PmL_c (PmL_fr hF [y] s (I1 547) (I' 547) (fun j _ u2 => z5 j (by omega)) q6) z7)
      · have E : stopE N (sk t N a) = true := decide_eq_true (by omega)
        rw [lsR, if_pos E] at hg
        refine s_ifeq (pc := 79) (tgt := 89) dX12_work_79 rfl (fun h79 => ?_) (fun h79 => absurd h79 (by decide))
        exact hg (sk t N a) _ [] I rfl fM_r (fun _ _ => rfl) hs trivial
theorem pa_lp {x y : Int32} (h31 : I 534 31 = nI ww) (hw : ww < 16) (kk : Rn g (d + 19) mX12_work 155 [.ref 534, .int x, .int y, .int (nI 126)] [] [] (Z (pwI I (126 * ww) 126) J n w) Q) : ∀ f i, i + f = 126 → Rn g (d + 19) mX12_work 123 [.ref 534, .int x, .int y, .int (nI i)] [] [] (Z (pwI I (126 * ww) i) J n w) Q := by
  intro f
  induction f with
  | zero =>
    intro i hi
    have e : i = 126 := by omega
    subst e
    refine s_iload_n (pc := 123) (i := 3) dX12_work_123 rfl rfl ?_
    refine m_bi (pc := 124) (v := 126) dX12_work_124 rfl ?_
    refine s_icge (pc := 126) (tgt := 155) dX12_work_126 rfl (fun h126 => ?_) (fun h126 => absurd (nI_le (a := 126) (b := 126) (by omega) (by omega)) h126)
    exact kk
  | succ f ih =>
    intro i hi
    refine s_iload_n (pc := 123) (i := 3) dX12_work_123 rfl rfl ?_
    refine m_bi (pc := 124) (v := 126) dX12_work_124 rfl ?_
    refine s_icge (pc := 126) (tgt := 155) dX12_work_126 rfl (fun h126 => absurd h126 (nI_ge (a := i) (b := 126) (by omega) (by omega))) (fun h126 => ?_)
    refine s_aload_n (pc := 129) (i := 0) dX12_work_129 rfl rfl ?_
    refine m_gr (pc := 130) dX12_work_130 ff_X12_65 rfl o_534 r_534_38 ?_
    refine m_bi (pc := 133) (v := 126) dX12_work_133 rfl ?_
    refine s_aload_n (pc := 135) (i := 0) dX12_work_135 rfl rfl ?_
    refine m_gi (pc := 136) dX12_work_136 ff_X12_173 rfl o_534 ?_
    refine m_nm (v' := nI ww) (by rw [pw_o (by omega)]; exact h31) ?_
    refine s_imul (pc := 139) dX12_work_139 ?_
    refine m_nm (v' := nI (126 * ww)) (pk_mul 126 ww) ?_
    refine s_iload_n (pc := 140) (i := 3) dX12_work_140 rfl rfl ?_
    refine s_iadd (pc := 141) dX12_work_141 ?_
    refine m_nm (v' := nI ((126 * ww) + i)) (nI_add (126 * ww) i) ?_
    refine s_aload_n (pc := 142) (i := 0) dX12_work_142 rfl rfl ?_
    refine m_gr (pc := 143) dX12_work_143 ff_X12_59 rfl o_534 r_534_36 ?_
    refine s_iload_n (pc := 146) (i := 3) dX12_work_146 rfl rfl ?_
    refine m_ia (pc := 147) dX12_work_147 a_549 (vp_in_nI (n := i) (by omega) (by decide)) ?_
    refine m_nm (v' := I 549 i) (rdI (j := i) (pw_o (by omega)) (by omega)) ?_
    refine m_is (pc := 148) dX12_work_148 a_551 (vp_in_nI (n := (126 * ww) + i) (by omega) (by decide)) ?_
    rw [nI_clamp (n := 126 * ww + i) (by omega), pw_1]
    refine m_inc (pc := 149) (v := 1) dX12_work_149 rfl rfl ?_
    dsimp only [List.set, List.filter]
    rw [nI_1]
    refine s_goto (pc := 152) (tgt := 123) dX12_work_152 rfl ?_
    exact ih (i + 1) (by omega)
theorem cp_ne {a b m x j : Nat} (h : x ≠ b) : cpI I a b m x j = I x j := by unfold cpI; rw [if_neg (by omega)]
theorem c_X12_work {x : Int32} {T : Nat} (hT : I 534 2 = nI T) (hT6 : T ≤ 600) (htx : ∀ i, i < T → t i < 256 ∧ I 536 i = nI (t i)) (hW : Wn I D cs S) (hY : sY S ≤ 400) (h31 : I 534 31 = nI ww) (hw : ww ≤ 16)
 (h1 : ¬ (¬ x < 0 ∧ ¬ nI T < x ∧ ¬ (150 : Int32) < x) → Q (.inl (some (.int 0))) (Z (thr I 1 1) J n w))
 (h4 : ∀ N I', x = nI N → N ≤ T → N ≤ 150 → ww = 16 → (∀ y j, ¬ mS y j → (y ≠ 534 ∨ (j ≠ 2 ∧ j ≠ 8)) → I' y j = I y j) → I' 534 0 = 0 → I' 534 2 = 0 → I' 534 8 = -1 → Q (.inl (some (.int (-20)))) (Z I' J n w))
 (h2 : ∀ N e I', x = nI N → N ≤ T → N ≤ 150 → ww < 16 → pTop t N (cb D) (cc D) (sk t N 0) = .inl e → (∀ y j, ¬ mS y j → (y ≠ 534 ∨ (j ≠ 2 ∧ j ≠ 8)) → I' y j = I y j) → I' 534 0 = 0 → I' 534 2 = 0 → I' 534 8 = nI e.2 → Q (.inl (some (.int (nI e.1 - 10)))) (Z I' J n w))
 (h3 : ∀ N q tr I', x = nI N → N ≤ T → N ≤ 150 → ww < 16 → pTop t N (cb D) (cc D) (sk t N 0) = .inr (q, tr) → (∀ y j, ¬ mS y j → (y ≠ 534 ∨ (j ≠ 2 ∧ j ≠ 8 ∧ j ≠ 31 ∧ j ≠ 32)) → y ≠ 549 → (y ≠ 551 ∨ j < 126 * ww ∨ 126 * ww + 126 ≤ j) → I' y j = I y j) → I' 534 0 = 0 → I' 534 2 = 0 → I' 534 8 = -1 → I' 534 31 = nI (ww + 1) → I' 534 32 = nI (exT D cs 7 tr (S, 0, 0, 0)).2.2.2 → Sm (I' 549) (exT D cs 7 tr (S, 0, 0, 0)).1 → Sm (fun k => I' 551 (126 * ww + k)) S → xOk D (exT D cs 7 tr (S, 0, 0, 0)) → Q (.inl (some (.int (nI (exT D cs 7 tr (S, 0, 0, 0)).2.2.1)))) (Z I' J n w)) : Cn g (d + 19) mX12_work [.ref 534, .int x] (Z I J n w) Q := by
  show Rn g (d + 19) mX12_work 0 [.ref 534, .int x, .retAddr 0, .retAddr 0] [] [] (Z I J n w) Q
  refine s_aload_n (pc := 0) (i := 0) dX12_work_0 rfl rfl ?_
  refine m_ic (pc := 1) (v := 0) dX12_work_1 rfl ?_
  refine m_pi (pc := 2) dX12_work_2 ff_X12_3 rfl rfl o_534 ?_
  refine s_aload_n (pc := 5) (i := 0) dX12_work_5 rfl rfl ?_
  refine s_iload_n (pc := 6) (i := 1) dX12_work_6 rfl rfl ?_
  refine s_iflt (pc := 7) (tgt := 29) dX12_work_7 rfl (fun h7 => ?_) (fun h7 => ?_)
  · skip
    refine m_ic (pc := 29) (v := 0) dX12_work_29 rfl ?_
    refine m_ic (pc := 30) (v := 1) dX12_work_30 rfl ?_
    refine m_ic (pc := 31) (v := 1) dX12_work_31 rfl ?_
    refine m_v3 (pc := 32) dX12_work_32 lk_X12_192 ok_X12_may (rcO o_534 (by decide) rfl) rfl rfl (c_may0 (k := 1) (by decide) rfl rfl (by decide) (kt_s ?_))
    · refine s_ifne (pc := 35) (tgt := 40) dX12_work_35 rfl (fun h35 => absurd h35 (by decide)) (fun h35 => ?_)
      refine m_ic (pc := 38) (v := 0) dX12_work_38 rfl ?_
      refine s_ireturn (pc := 39) dX12_work_39 rfl rfl ?_
      rw [thr_0]
      exact h1 (fun z => z.1 h7)
  · skip
    refine s_iload_n (pc := 10) (i := 1) dX12_work_10 rfl rfl ?_
    refine s_aload_n (pc := 11) (i := 0) dX12_work_11 rfl rfl ?_
    refine m_gi (pc := 12) dX12_work_12 ff_X12_99 rfl o_534 ?_
    refine m_nm (v' := nI T) (by rw [up_k (by decide)]; exact hT) ?_
    refine s_icgt (pc := 15) (tgt := 29) dX12_work_15 rfl (fun h15 => ?_) (fun h15 => ?_)
    · skip
      refine m_ic (pc := 29) (v := 0) dX12_work_29 rfl ?_
      refine m_ic (pc := 30) (v := 1) dX12_work_30 rfl ?_
      refine m_ic (pc := 31) (v := 1) dX12_work_31 rfl ?_
      refine m_v3 (pc := 32) dX12_work_32 lk_X12_192 ok_X12_may (rcO o_534 (by decide) rfl) rfl rfl (c_may0 (k := 1) (by decide) rfl rfl (by decide) (kt_s ?_))
      · refine s_ifne (pc := 35) (tgt := 40) dX12_work_35 rfl (fun h35 => absurd h35 (by decide)) (fun h35 => ?_)
        refine m_ic (pc := 38) (v := 0) dX12_work_38 rfl ?_
        refine s_ireturn (pc := 39) dX12_work_39 rfl rfl ?_
        rw [thr_0]
        exact h1 (fun z => z.2.1 h15)
    · skip
      refine s_iload_n (pc := 18) (i := 1) dX12_work_18 rfl rfl ?_
      refine m_si (pc := 19) (v := 150) dX12_work_19 rfl ?_
      refine s_icgt (pc := 22) (tgt := 29) dX12_work_22 rfl (fun h22 => ?_) (fun h22 => ?_)
      · skip
        refine m_ic (pc := 29) (v := 0) dX12_work_29 rfl ?_
        refine m_ic (pc := 30) (v := 1) dX12_work_30 rfl ?_
        refine m_ic (pc := 31) (v := 1) dX12_work_31 rfl ?_
        refine m_v3 (pc := 32) dX12_work_32 lk_X12_192 ok_X12_may (rcO o_534 (by decide) rfl) rfl rfl (c_may0 (k := 1) (by decide) rfl rfl (by decide) (kt_s ?_))
        · refine s_ifne (pc := 35) (tgt := 40) dX12_work_35 rfl (fun h35 => absurd h35 (by decide)) (fun h35 => ?_)
          refine m_ic (pc := 38) (v := 0) dX12_work_38 rfl ?_
          refine s_ireturn (pc := 39) dX12_work_39 rfl rfl ?_
          rw [thr_0]
          exact h1 (fun z => z.2.2 h22)
      · obtain ⟨N, ex, hN⟩ := x_N hT6 h7 h15
        have hN5 : N ≤ 150 := Nat.not_lt.mp (fun z => h22 (by rw [ex, show (150 : Int32) = nI 150 from rfl]; exact nI_lt z (by omega)))
        refine m_ic (pc := 25) (v := 1) dX12_work_25 rfl ?_
        refine s_goto (pc := 26) (tgt := 30) dX12_work_26 rfl ?_
        refine m_ic (pc := 30) (v := 1) dX12_work_30 rfl ?_
        refine m_ic (pc := 31) (v := 1) dX12_work_31 rfl ?_
        refine m_v3 (pc := 32) dX12_work_32 lk_X12_192 ok_X12_may (rcO o_534 (by decide) rfl) rfl rfl (c_may1 (k := 1) (by decide) rfl rfl (by decide) (kt_s ?_))
        · refine s_ifne (pc := 35) (tgt := 40) dX12_work_35 rfl (fun h35 => ?_) (fun h35 => absurd h35 (by decide))
          refine s_aload_n (pc := 40) (i := 0) dX12_work_40 rfl rfl ?_
          refine s_iload_n (pc := 41) (i := 1) dX12_work_41 rfl rfl ?_
          refine m_v1 (pc := 42) dX12_work_42 lk_X12_196 ok_X12_begins (rcO o_534 (by decide) rfl) rfl rfl (c_X12_begins (kt_v ?_))
          have hm : mx (up (up (up (up I 534 0 0) 534 2 0) 534 8 (-1)) 534 3 x) t N := be_mx hT6 htx hN ex (fun i => by simp [up]) (by simp [up])
          refine s_aload_n (pc := 45) (i := 0) dX12_work_45 rfl rfl ?_
          refine m_gi (pc := 46) dX12_work_46 ff_X12_173 rfl o_534 ?_
          refine m_nm (v' := nI ww) (by rw [mp_x (by decide), up_k (by decide), up_k (by decide), up_k (by decide), up_k (by decide)]; exact h31) ?_
          refine m_bi (pc := 49) (v := 16) dX12_work_49 rfl ?_
          refine s_icne (pc := 51) (tgt := 63) dX12_work_51 rfl (fun h51 => ?_) (fun h51 => ?_)
          · have h51 : ¬ ww = 16 := fun z => h51 ((nI_eq (a := ww) (b := 16) (by omega) (by omega)).mpr z)
            refine s_aload_n (pc := 63) (i := 0) dX12_work_63 rfl rfl ?_
            refine m_ic (pc := 64) (v := 0) dX12_work_64 rfl ?_
            refine m_pi (pc := 65) dX12_work_65 ff_X12_281 rfl rfl o_534 ?_
            have e6 : (up I 534 0 0) 534 6 = I 534 6 := rfl
            rw [e6, mp_up (by decide)]
            obtain ⟨I65, e65⟩ : ∃ z, z = up (up (up (up (up I 534 0 0) 534 2 0) 534 8 (-1)) 534 3 x) 534 30 0 := ⟨_, rfl⟩
            rw [← e65]
            replace hm : mx I65 t N := by rw [e65]; exact mx_up hm (by decide) (by decide)
            have G3 : ∀ y j, ¬ mS y j → (y ≠ 534 ∨ (j ≠ 2 ∧ j ≠ 8)) → I65 y j = I y j := fun y j z1 z2 => by rw [e65, up_n3 (by unfold mS at z1; omega), up_n3 (by unfold mS at z1; omega), up_n3 (by unfold mS at z1; omega), up_n3 (by unfold mS at z1; omega), up_n3 (by unfold mS at z1; omega)]
            have F0 : I65 534 0 = 0 := by rw [e65]; simp [up]
            have F2 : I65 534 2 = 0 := by rw [e65]; simp [up]
            refine mw_lp hN5 hW.2.1 150 I65 0 0 hm (by omega) (by omega) ((G3 534 17 (by unfold mS; omega) (by omega)).trans hW.1.1) ((G3 534 18 (by unfold mS; omega) (by omega)).trans hW.1.2.1) (by rw [e65, up_s]; rfl) (by omega) (fun e a' I4 op' q1 q2 q3 => ?_) (fun q a' tr I4 q1 q2 q3 q4 q5 => ?_)
            · refine s_aload_n (pc := 89) (i := 0) dX12_work_89 rfl rfl ?_
              refine m_ic (pc := 90) (v := 0) dX12_work_90 rfl ?_
              refine m_v1 (pc := 91) dX12_work_91 lk_X12_226 ok_X12_result (rcO o_534 (by decide) rfl) rfl rfl (c_X12_result_n (nI_m1 (by omega)) (kt_s ?_))
              refine s_istore_n (pc := 94) (i := 2) dX12_work_94 rfl (Nat.le_of_ble_eq_true rfl) ?_
              dsimp only [List.set, List.filter]
              refine s_aload_n (pc := 95) (i := 0) dX12_work_95 rfl rfl ?_
              refine m_gi (pc := 96) dX12_work_96 ff_X12_102 rfl o_534 ?_
              refine m_nm (v' := (nI e.2)) rfl ?_
              refine m_ic (pc := 99) (v := -1) dX12_work_99 rfl ?_
              refine s_iceq (pc := 100) (tgt := 105) dX12_work_100 rfl (fun h100 => absurd h100 ((nI_m1 (by omega)))) (fun h100 => ?_)
              refine s_iload_n (pc := 103) (i := 2) dX12_work_103 rfl rfl ?_
              refine s_ireturn (pc := 104) dX12_work_104 rfl rfl ?_
              exact h2 N e _ ex hN hN5 (by omega) q1 (fun y j z1 z2 => by rw [mp_x (by unfold mS at z1; omega), up_n3 (by omega), q2 y j (by unfold mS at z1; omega)]; exact G3 y j z1 z2) (by rw [mp_x (by decide), up_k (by decide), q2 _ _ (by decide)]; exact F0) (by rw [mp_x (by decide), up_k (by decide), q2 _ _ (by decide)]; exact F2) (by rw [mp_x (by decide), up_s])
            · refine s_aload_n (pc := 89) (i := 0) dX12_work_89 rfl rfl ?_
              refine m_ic (pc := 90) (v := 0) dX12_work_90 rfl ?_
              refine m_v1 (pc := 91) dX12_work_91 lk_X12_226 ok_X12_result (rcO o_534 (by decide) rfl) rfl rfl (c_X12_result (kt_s ?_))
              obtain ⟨I5, e5⟩ : ∃ z, z = mp (up I4 534 8 (-1)) a' (-1) (I 534 6) 0 := ⟨_, rfl⟩
              rw [← e5]
              have c37 := (clT_150 hN5 q1).2
              have okt := pTop_o (sk_le (by omega)) q1
              have F5 : ∀ y j, ¬ mS y j → (y ≠ 534 ∨ (j ≠ 2 ∧ j ≠ 8)) → I5 y j = I y j := fun y j z1 z2 => by rw [e5, mp_x (by unfold mS at z1; omega), up_n3 (by omega), q2 y j (by unfold mS at z1; omega)]; exact G3 y j z1 z2
              have F50 : I5 534 0 = 0 := by rw [e5, mp_x (by decide), up_k (by decide), q2 _ _ (by decide)]; exact F0
              have F52 : I5 534 2 = 0 := by rw [e5, mp_x (by decide), up_k (by decide), q2 _ _ (by decide)]; exact F2
              have F58 : I5 534 8 = -1 := by rw [e5, mp_x (by decide), up_s]
              have F530 : I5 534 30 = nI (3 * mlT 7 tr) := by rw [e5, mp_x (by decide), up_k (by decide), q4, Nat.zero_add]
              have P5 : PmT 7 (I5 547) tr 0 := qF_T 7 (I4 547) (I5 547) tr 0 (fun j _ _ => by rw [e5, mp_x (by omega), up_a (by decide)]) q5
              refine s_istore_n (pc := 94) (i := 2) dX12_work_94 rfl (Nat.le_of_ble_eq_true rfl) ?_
              dsimp only [List.set, List.filter]
              refine s_aload_n (pc := 95) (i := 0) dX12_work_95 rfl rfl ?_
              refine m_gi (pc := 96) dX12_work_96 ff_X12_102 rfl o_534 ?_
              refine m_nm (v' := -1) (by rw [e5]; rfl) ?_
              refine m_ic (pc := 99) (v := -1) dX12_work_99 rfl ?_
              refine s_iceq (pc := 100) (tgt := 105) dX12_work_100 rfl (fun h100 => ?_) (fun h100 => absurd h100 (by decide))
              refine s_aload_n (pc := 105) (i := 0) dX12_work_105 rfl rfl ?_
              refine s_aload_n (pc := 106) (i := 0) dX12_work_106 rfl rfl ?_
              refine m_gr (pc := 107) dX12_work_107 ff_X12_53 rfl o_534 r_534_28 ?_
              refine s_aload_n (pc := 110) (i := 0) dX12_work_110 rfl rfl ?_
              refine m_gr (pc := 111) dX12_work_111 ff_X12_56 rfl o_534 r_534_29 ?_
              refine s_aload_n (pc := 114) (i := 0) dX12_work_114 rfl rfl ?_
              refine m_gi (pc := 115) dX12_work_115 ff_X12_281 rfl o_534 ?_
              refine m_v3 (pc := 118) dX12_work_118 lk_X12_163 ok_X12_copies (rcO o_534 (by decide) rfl) rfl rfl (c_X12_copies (m := 3 * mlT 7 tr) F530 a_547 a_548 (by decide) (by omega) (by omega) (by decide) (kt_v ?_))
              refine m_ic (pc := 121) (v := 0) dX12_work_121 rfl ?_
              refine s_istore_n (pc := 122) (i := 3) dX12_work_122 rfl (Nat.le_of_ble_eq_true rfl) ?_
              dsimp only [List.set, List.filter]
              obtain ⟨I6, e6⟩ : ∃ z, z = cpI I5 547 548 (3 * mlT 7 tr) := ⟨_, rfl⟩
              rw [← e6]
              have F6 : ∀ y j, y ≠ 548 → I6 y j = I5 y j := fun y j z => by rw [e6]; unfold cpI; rw [if_neg (by omega)]
              have P6 : PmT 7 (I6 548) tr 0 := qF_T 7 (I5 547) (I6 548) tr 0 (fun j _ z => by rw [e6]; unfold cpI; rw [if_pos ⟨rfl, by omega⟩]) P5
              refine Rs_cg (pw_0 (I := I6) (q := 126 * ww)).symm ?_
              refine pa_lp (ww := ww) ((F6 534 31 (by decide)).trans ((F5 534 31 (by unfold mS; omega) (by omega)).trans h31)) (by omega) ?_ 126 0 rfl
              obtain ⟨I7, e7⟩ : ∃ z, z = pwI I6 (126 * ww) 126 := ⟨_, rfl⟩
              rw [← e7]
              have F7 : ∀ y j, (y ≠ 551 ∨ j < 126 * ww ∨ 126 * ww + 126 ≤ j) → I7 y j = I6 y j := fun y j z => by rw [e7, pw_o z]
              have F71 : ∀ j, j < 126 → I7 551 (126 * ww + j) = I 549 j := fun j z => by rw [e7, pw_in z, F6 549 j (by decide), F5 549 j (by unfold mS; omega) (by omega)]
              refine s_aload_n (pc := 155) (i := 0) dX12_work_155 rfl rfl ?_
              refine s_dup (pc := 156) dX12_work_156 rfl ?_
              refine m_gi (pc := 157) dX12_work_157 ff_X12_173 rfl o_534 ?_
              refine m_nm (v' := nI ww) ((F7 534 31 (by omega)).trans ((F6 534 31 (by decide)).trans ((F5 534 31 (by unfold mS; omega) (by omega)).trans h31))) ?_
              refine m_ic (pc := 160) (v := 1) dX12_work_160 rfl ?_
              refine s_iadd (pc := 161) dX12_work_161 ?_
              refine m_nm (v' := nI (ww + 1)) (nI_add ww 1) ?_
              refine m_pi (pc := 162) dX12_work_162 ff_X12_173 rfl rfl o_534 ?_
              refine s_aload_n (pc := 165) (i := 0) dX12_work_165 rfl rfl ?_
              refine m_v0 (pc := 166) dX12_work_166 lk_X12_310 ok_X12_take (rcO o_534 (by decide) rfl) rfl rfl (c_X12_take (kt_v ?_))
              refine s_aload_n (pc := 169) (i := 0) dX12_work_169 rfl rfl ?_
              refine m_ic (pc := 170) (v := 0) dX12_work_170 rfl ?_
              refine m_pi (pc := 171) dX12_work_171 ff_X12_313 rfl rfl o_534 ?_
              refine s_aload_n (pc := 174) (i := 0) dX12_work_174 rfl rfl ?_
              refine m_ic (pc := 175) (v := 0) dX12_work_175 rfl ?_
              refine m_pi (pc := 176) dX12_work_176 ff_X12_316 rfl rfl o_534 ?_
              refine s_aload_n (pc := 179) (i := 0) dX12_work_179 rfl rfl ?_
              refine m_ic (pc := 180) (v := 0) dX12_work_180 rfl ?_
              refine m_pi (pc := 181) dX12_work_181 ff_X12_319 rfl rfl o_534 ?_
              obtain ⟨I8, e8⟩ : ∃ z, z = up (up (up (cpI (up I7 534 31 (nI (ww + 1))) 549 550 126) 534 33 0) 534 34 0) 534 35 0 := ⟨_, rfl⟩
              rw [← e8]
              have F8 : ∀ y j, y ≠ 550 → (y ≠ 534 ∨ (j ≠ 31 ∧ j ≠ 33 ∧ j ≠ 34 ∧ j ≠ 35)) → I8 y j = I7 y j := fun y j z1 z2 => by rw [e8, up_n3 (by omega), up_n3 (by omega), up_n3 (by omega), cp_ne z1, up_n3 (by omega)]
              have F81 : ∀ j, j < 126 → I8 550 j = I7 549 j := fun j z => by rw [e8, up_a (by decide), up_a (by decide), up_a (by decide)]; unfold cpI; rw [if_pos ⟨rfl, z⟩, up_a (by decide)]
              have FF : ∀ y j, ¬ mS y j → (y ≠ 534 ∨ (j ≠ 2 ∧ j ≠ 8 ∧ j ≠ 31)) → (y ≠ 551 ∨ j < 126 * ww ∨ 126 * ww + 126 ≤ j) → I8 y j = I y j := fun y j z1 z2 z3 => by rw [F8 y j (by unfold mS at z1; omega) (by unfold mS at z1; omega), F7 y j z3, F6 y j (by unfold mS at z1; omega), F5 y j z1 (by omega)]
              have W8 : Wm I8 D cs S := Wn_W hW (fun y j z1 z2 z3 => FF y j z1 (by omega) (by omega)) (fun j z => by rw [F81 j z, F7 549 j (by omega), F6 549 j (by decide), F5 549 j (by unfold mS; omega) (by omega)])
              have G30 : I8 534 30 = nI (3 * (0 + mlT 7 tr)) := by rw [F8 534 30 (by decide) (by omega), F7 534 30 (by omega), F6 534 30 (by decide), F530, Nat.zero_add]
              have P8 : PmT 7 (I8 548) tr 0 := qF_T 7 (I6 548) (I8 548) tr 0 (fun j _ _ => by rw [F8 548 j (by decide) (by omega), F7 548 j (by omega)]) P6
              have C8 : GK I8 I8 D cs (S, 0, 0, 0) := ⟨fG_r, W8, by rw [e8, up_k (by decide), up_k (by decide), up_s]; rfl, by rw [e8, up_k (by decide), up_s]; rfl, by rw [e8, up_s]; rfl, hW.2.2.2.2.2, hY, Nat.zero_le _, Nat.zero_le _, Nat.zero_le _⟩
              refine s_aload_n (pc := 184) (i := 0) dX12_work_184 rfl rfl ?_
              refine m_ic (pc := 185) (v := 0) dX12_work_185 rfl ?_
              refine s_aload_n (pc := 186) (i := 0) dX12_work_186 rfl rfl ?_
              refine m_gi (pc := 187) dX12_work_187 ff_X12_281 rfl o_534 ?_
              refine m_nm (v' := nI (3 * (0 + mlT 7 tr))) (G30) ?_
              refine m_v2 (pc := 190) dX12_work_190 lk_X12_322 ok_X12_goesSteps (rcO o_534 (by decide) rfl) rfl rfl (go_T (I0 := I8) (L := 7) hW.2.1 tr 0 P8 okt (by omega) _ I8 (S, 0, 0, 0) _ C8 (fun I9 C9 => kt_v ?_))
              · obtain ⟨X, eX⟩ : ∃ z, z = (exT D cs 7 tr (S, 0, 0, 0)) := ⟨_, rfl⟩
                rw [← eX] at C9
                replace h3 := h3 N q tr
                rw [← eX] at h3
                refine s_aload_n (pc := 193) (i := 0) dX12_work_193 rfl rfl ?_
                refine s_aload_n (pc := 194) (i := 0) dX12_work_194 rfl rfl ?_
                refine m_gr (pc := 195) dX12_work_195 ff_X12_62 rfl o_534 r_534_37 ?_
                refine s_aload_n (pc := 198) (i := 0) dX12_work_198 rfl rfl ?_
                refine m_gr (pc := 199) dX12_work_199 ff_X12_59 rfl o_534 r_534_36 ?_
                refine m_bi (pc := 202) (v := 126) dX12_work_202 rfl ?_
                refine m_v3 (pc := 204) dX12_work_204 lk_X12_163 ok_X12_copies (rcO o_534 (by decide) rfl) rfl rfl (c_X12_copies (m := 126) rfl a_550 a_549 (by decide) (by decide) (by decide) (by decide) (kt_v ?_))
                refine s_aload_n (pc := 207) (i := 0) dX12_work_207 rfl rfl ?_
                refine s_aload_n (pc := 208) (i := 0) dX12_work_208 rfl rfl ?_
                refine m_gi (pc := 209) dX12_work_209 ff_X12_319 rfl o_534 ?_
                refine m_nm (v' := nI X.2.2.2) (by rw [cp_ne (by decide)]; exact C9.2.2.2.2.1) ?_
                refine m_pi (pc := 212) dX12_work_212 ff_X12_179 rfl rfl o_534 ?_
                refine s_aload_n (pc := 215) (i := 0) dX12_work_215 rfl rfl ?_
                refine m_gi (pc := 216) dX12_work_216 ff_X12_316 rfl o_534 ?_
                refine m_nm (v' := nI X.2.2.1) (by rw [up_k (by decide), cp_ne (by decide)]; exact C9.2.2.2.1) ?_
                refine s_ireturn (pc := 219) dX12_work_219 rfl rfl ?_
                have F9 : ∀ y j, y ≠ 549 → (y ≠ 534 ∨ j ≠ 32) → (y ≠ 545 ∧ y ≠ 546 ∧ y ≠ 550 ∧ (y ≠ 534 ∨ (j ≠ 33 ∧ j ≠ 34 ∧ j ≠ 35))) → up (cpI I9 550 549 126) 534 32 (nI X.2.2.2) y j = I8 y j := fun y j z1 z2 z3 => by rw [up_n3 (by omega), cp_ne z1, C9.1 y j z3]
                refine h3 _ ex hN hN5 (by omega) q1 (fun y j z1 z2 z3 z4 => ?_) ?_ ?_ ?_ ?_ up_s ?_ ?_ C9.2.2.2.2.2
                · rw [F9 y j z3 (by omega) (by unfold mS at z1; omega)]; exact FF y j z1 (by omega) z4
                · rw [F9 534 0 (by decide) (by omega) (by omega), F8 534 0 (by decide) (by omega), F7 534 0 (by omega), F6 534 0 (by decide)]; exact F50
                · rw [F9 534 2 (by decide) (by omega) (by omega), F8 534 2 (by decide) (by omega), F7 534 2 (by omega), F6 534 2 (by decide)]; exact F52
                · rw [F9 534 8 (by decide) (by omega) (by omega), F8 534 8 (by decide) (by omega), F7 534 8 (by omega), F6 534 8 (by decide)]; exact F58
                · rw [F9 534 31 (by decide) (by omega) (by omega), e8, up_k (by decide), up_k (by decide), up_k (by decide), cp_ne (by decide), up_s]
                · refine Sm_fr C9.2.1.2.2.2.2.1 (fun j z => ?_)
                  rw [up_a (by decide)]; unfold cpI; rw [if_pos ⟨rfl, z⟩]
                · refine Sm_fr hW.2.2.2.2.1 (fun j z => ?_)
                  show up (cpI I9 550 549 126) 534 32 (nI X.2.2.2) 551 (126 * ww + j) = _
                  rw [F9 551 _ (by decide) (by omega) (by omega), F8 551 _ (by decide) (by omega), F71 j z]
          · have h51 : ww = 16 := (nI_eq (a := ww) (b := 16) (by omega) (by omega)).mp h51
            refine s_aload_n (pc := 54) (i := 0) dX12_work_54 rfl rfl ?_
            refine m_ic (pc := 55) (v := 0) dX12_work_55 rfl ?_
            refine m_v1 (pc := 56) dX12_work_56 lk_X12_226 ok_X12_result (rcO o_534 (by decide) rfl) rfl rfl (c_X12_result (kt_s ?_))
            · refine s_pop (pc := 59) dX12_work_59 rfl ?_
              refine m_bi (pc := 60) (v := (-20)) dX12_work_60 rfl ?_
              refine s_ireturn (pc := 62) dX12_work_62 rfl rfl ?_
              exact h4 N _ ex hN hN5 h51 (fun y j z1 z2 => by rw [mp_x (by unfold mS at z1; omega), up_n3 (by omega), up_n3 (by unfold mS at z1; omega), up_n3 (by unfold mS at z1; omega), up_n3 (by unfold mS at z1; omega), up_n3 (by unfold mS at z1; omega)]) (by rw [mp_x (by decide)]; simp [up]) (by rw [mp_x (by decide)]; simp [up]) (by rw [mp_x (by decide), up_s])
end S
