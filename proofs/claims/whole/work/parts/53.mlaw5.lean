section S
variable {g : aG} {d : Nat} {I : Nat → Nat → Int32} {J : Nat → Nat → Int64} {n w : Nat} {Q : aO → aS → Prop}
variable {t : Nat → Nat} {N a : Nat} {bad bk op : Int32} {σ : aS}
theorem Lm_p {cs : List Nat} {v : Int32} (h : Lm I cs) : Lm (mp (up I 534 8 v) a bad bk op) cs := by
  refine ⟨by rw [mp_x (by decide), up_k (by decide)]; exact h.1, fun i hi => ?_⟩
  rw [mp_x (by omega), mp_x (by omega), up_a (by decide), up_a (by decide)]; exact h.2 i hi
theorem c_X12_law {x : Int32} {T : Nat} (hT : I 534 2 = nI T) (hT6 : T ≤ 600) (htx : ∀ i, i < T → t i < 256 ∧ I 536 i = nI (t i))
 (h1 : ¬ (¬ x < 0 ∧ ¬ nI T < x ∧ ¬ (150 : Int32) < x) → Q (.inl (some (.int 0))) (Z (thr I 1 1) J n w))
 (h2 : ∀ N e I', x = nI N → N ≤ T → N ≤ 150 → rLw t N (sk t N 0) = .inl e → gM I I' → I' 534 0 = 0 → I' 534 2 = 0 → I' 534 8 = nI e.2 → Q (.inl (some (.int (nI e.1 - 10)))) (Z I' J n w))
 (h3 : ∀ N cs I', x = nI N → N ≤ T → N ≤ 150 → rLw t N (sk t N 0) = .inr cs → cs.length ≤ 150 → gM I I' → I' 534 0 = 0 → I' 534 2 = 0 → I' 534 8 = -1 → Lm I' cs → Q (.inl (some (.int 1))) (Z (cpI (cpI (up I' 534 26 (nI cs.length)) 541 543 cs.length) 542 544 cs.length) J n w)) : Cn g (d + 33) mX12_law [.ref 534, .int x] (Z I J n w) Q := by
  show Rn g (d + 33) mX12_law 0 [.ref 534, .int x, .retAddr 0] [] [] (Z I J n w) Q
  refine s_aload_n (pc := 0) (i := 0) dX12_law_0 rfl rfl ?_
  refine m_ic (pc := 1) (v := 0) dX12_law_1 rfl ?_
  refine m_pi (pc := 2) dX12_law_2 ff_X12_3 rfl rfl o_534 ?_
  refine s_aload_n (pc := 5) (i := 0) dX12_law_5 rfl rfl ?_
  refine s_iload_n (pc := 6) (i := 1) dX12_law_6 rfl rfl ?_
  refine s_iflt (pc := 7) (tgt := 29) dX12_law_7 rfl (fun h7 => ?_) (fun h7 => ?_)
  · refine m_ic (pc := 29) (v := 0) dX12_law_29 rfl ?_
    refine m_ic (pc := 30) (v := 1) dX12_law_30 rfl ?_
    refine m_ic (pc := 31) (v := 1) dX12_law_31 rfl ?_
    refine m_v3 (pc := 32) dX12_law_32 lk_X12_192 ok_X12_may (rcO o_534 (by decide) rfl) rfl rfl (c_may0 (k := 1) (by decide) rfl rfl (by decide) (kt_s ?_))
    · refine s_ifne (pc := 35) (tgt := 40) dX12_law_35 rfl (fun h35 => absurd h35 (by decide)) (fun h35 => ?_)
      refine m_ic (pc := 38) (v := 0) dX12_law_38 rfl ?_
      refine s_ireturn (pc := 39) dX12_law_39 rfl rfl ?_
      rw [thr_0]
      exact h1 (fun z => z.1 h7)
  · refine s_iload_n (pc := 10) (i := 1) dX12_law_10 rfl rfl ?_
    refine s_aload_n (pc := 11) (i := 0) dX12_law_11 rfl rfl ?_
    refine m_gi (pc := 12) dX12_law_12 ff_X12_99 rfl o_534 ?_
    refine m_nm (v' := nI T) (by rw [up_k (by decide)]; exact hT) ?_
    refine s_icgt (pc := 15) (tgt := 29) dX12_law_15 rfl (fun h15 => ?_) (fun h15 => ?_)
    · refine m_ic (pc := 29) (v := 0) dX12_law_29 rfl ?_
      refine m_ic (pc := 30) (v := 1) dX12_law_30 rfl ?_
      refine m_ic (pc := 31) (v := 1) dX12_law_31 rfl ?_
      refine m_v3 (pc := 32) dX12_law_32 lk_X12_192 ok_X12_may (rcO o_534 (by decide) rfl) rfl rfl (c_may0 (k := 1) (by decide) rfl rfl (by decide) (kt_s ?_))
      · refine s_ifne (pc := 35) (tgt := 40) dX12_law_35 rfl (fun h35 => absurd h35 (by decide)) (fun h35 => ?_)
        refine m_ic (pc := 38) (v := 0) dX12_law_38 rfl ?_
        refine s_ireturn (pc := 39) dX12_law_39 rfl rfl ?_
        rw [thr_0]
        exact h1 (fun z => z.2.1 h15)
    · refine s_iload_n (pc := 18) (i := 1) dX12_law_18 rfl rfl ?_
      refine m_si (pc := 19) (v := 150) dX12_law_19 rfl ?_
      refine s_icgt (pc := 22) (tgt := 29) dX12_law_22 rfl (fun h22 => ?_) (fun h22 => ?_)
      · refine m_ic (pc := 29) (v := 0) dX12_law_29 rfl ?_
        refine m_ic (pc := 30) (v := 1) dX12_law_30 rfl ?_
        refine m_ic (pc := 31) (v := 1) dX12_law_31 rfl ?_
        refine m_v3 (pc := 32) dX12_law_32 lk_X12_192 ok_X12_may (rcO o_534 (by decide) rfl) rfl rfl (c_may0 (k := 1) (by decide) rfl rfl (by decide) (kt_s ?_))
        · refine s_ifne (pc := 35) (tgt := 40) dX12_law_35 rfl (fun h35 => absurd h35 (by decide)) (fun h35 => ?_)
          refine m_ic (pc := 38) (v := 0) dX12_law_38 rfl ?_
          refine s_ireturn (pc := 39) dX12_law_39 rfl rfl ?_
          rw [thr_0]
          exact h1 (fun z => z.2.2 h22)
      · refine m_ic (pc := 25) (v := 1) dX12_law_25 rfl ?_
        refine s_goto (pc := 26) (tgt := 30) dX12_law_26 rfl ?_
        refine m_ic (pc := 30) (v := 1) dX12_law_30 rfl ?_
        refine m_ic (pc := 31) (v := 1) dX12_law_31 rfl ?_
        refine m_v3 (pc := 32) dX12_law_32 lk_X12_192 ok_X12_may (rcO o_534 (by decide) rfl) rfl rfl (c_may1 (k := 1) (by decide) rfl rfl (by decide) (kt_s ?_))
        · refine s_ifne (pc := 35) (tgt := 40) dX12_law_35 rfl (fun h35 => ?_) (fun h35 => absurd h35 (by decide))
          refine s_aload_n (pc := 40) (i := 0) dX12_law_40 rfl rfl ?_
          refine s_iload_n (pc := 41) (i := 1) dX12_law_41 rfl rfl ?_
          refine m_v1 (pc := 42) dX12_law_42 lk_X12_196 ok_X12_begins (rcO o_534 (by decide) rfl) rfl rfl (c_X12_begins (kt_v ?_))
          obtain ⟨N, ex, hN⟩ := x_N hT6 h7 h15
          have hN5 : N ≤ 150 := Nat.not_lt.mp (fun z => h22 (by rw [ex, show (150 : Int32) = nI 150 from rfl]; exact nI_lt z (by omega)))
          have hS : cMd g mX12_readSum 32 t N (lS t N 6) 0 := cm_sumL 6 (by omega)
          have e6 : (up I 534 0 0) 534 6 = I 534 6 := rfl
          rw [e6]
          obtain ⟨I2, e2⟩ : ∃ z, z = up (up (up (up I 534 0 0) 534 2 0) 534 8 (-1)) 534 3 x := ⟨_, rfl⟩
          rw [← e2]
          have hm : mx I2 t N := be_mx hT6 htx hN ex (fun i => by subst e2; simp [up]) (by subst e2; simp [up])
          refine s_aload_n (pc := 45) (i := 0) dX12_law_45 rfl rfl ?_
          refine m_ic (pc := 46) (v := 0) dX12_law_46 rfl ?_
          refine m_pi (pc := 47) dX12_law_47 ff_X12_230 rfl rfl o_534 ?_
          refine st_mp hm (by omega) (by decide) (fun I47 e47 hm => ?_)
          have hL0 : Lm I47 [] := by subst e47; exact ⟨rfl, fun i hi => absurd hi (by simp)⟩
          have F0 : I47 534 0 = 0 := by subst e47; subst e2; simp [up]
          have F2 : I47 534 2 = 0 := by subst e47; subst e2; simp [up]
          have G : gM I I47 := by subst e47; subst e2; exact gM_u (gM_u (gM_u (gM_u (gM_u gM_r (by decide)) (by decide)) (by decide)) (by decide)) (by decide)
          refine s_aload_n (pc := 50) (i := 0) dX12_law_50 rfl rfl ?_
          refine m_v0 (pc := 51) dX12_law_51 lk_X12_245 ok_X12_readSum (rcO o_534 (by decide) rfl) rfl rfl (hS _ _ _ _ _ _ 0 _ _ hm (Nat.zero_le _) hN5 hL0 (Nat.zero_le _) (fun e a1 I1 op1 q1 q2 q3 => kt_v ?_) (fun a1 c2 I1 q1 q2 q3 q4 => kt_v ?_))
          · refine s_aload_n (pc := 54) (i := 0) dX12_law_54 rfl rfl ?_
            refine m_v0 (pc := 55) dX12_law_55 lk_X12_131 ok_X12_fine (rcO o_534 (by decide) rfl) rfl rfl (c_X12_fine (fun h => absurd h (nI_m1 (by omega))) (fun h => kt_s ?_))
            · refine s_ifeq (pc := 58) (tgt := 77) dX12_law_58 rfl (fun h58 => ?_) (fun h58 => absurd h58 (by decide))
              refine s_aload_n (pc := 77) (i := 0) dX12_law_77 rfl rfl ?_
              refine m_ic (pc := 78) (v := 1) dX12_law_78 rfl ?_
              refine m_v1 (pc := 79) dX12_law_79 lk_X12_226 ok_X12_result (rcO o_534 (by decide) rfl) rfl rfl (c_X12_result_n (nI_m1 (by omega)) (kt_s ?_))
              refine s_istore_n (pc := 82) (i := 2) dX12_law_82 rfl (Nat.le_of_ble_eq_true rfl) ?_
              dsimp only [List.set, List.filter]
              refine s_aload_n (pc := 83) (i := 0) dX12_law_83 rfl rfl ?_
              refine m_gi (pc := 84) dX12_law_84 ff_X12_102 rfl o_534 ?_
              refine m_nm (v' := (nI e.2)) rfl ?_
              refine m_ic (pc := 87) (v := -1) dX12_law_87 rfl ?_
              refine s_iceq (pc := 88) (tgt := 93) dX12_law_88 rfl (fun h88 => absurd h88 ((nI_m1 (by omega)))) (fun h88 => ?_)
              refine s_iload_n (pc := 91) (i := 2) dX12_law_91 rfl rfl ?_
              refine s_ireturn (pc := 92) dX12_law_92 rfl rfl ?_
              exact h2 N e _ ex hN hN5 (by unfold rLw; rw [q1]) (gM_p (gM_u (gM_t G (gM_f q3)) (by decide))) (by rw [mp_x (by decide), up_k (by decide), q3 _ _ (by decide)]; exact F0) (by rw [mp_x (by decide), up_k (by decide), q3 _ _ (by decide)]; exact F2) (by rw [mp_x (by decide), up_s])
          · have g1 := gU_S 6 _ _ _ _ (sk_le (Nat.zero_le N)) q1
            have hl5 : c2.length ≤ 150 := by have := g1.2.2; simp at this; omega
            have hL8 := Lm_p (a := sk t N a1) (bad := -1) (bk := I 534 6) (op := 0) (v := -1) q4
            refine s_aload_n (pc := 54) (i := 0) dX12_law_54 rfl rfl ?_
            refine m_v0 (pc := 55) dX12_law_55 lk_X12_131 ok_X12_fine (rcO o_534 (by decide) rfl) rfl rfl (c_X12_fine (fun h => kt_s ?_) (fun h => absurd rfl h))
            · refine s_ifeq (pc := 58) (tgt := 77) dX12_law_58 rfl (fun h58 => absurd h58 (by decide)) (fun h58 => ?_)
              refine s_aload_n (pc := 61) (i := 0) dX12_law_61 rfl rfl ?_
              refine m_v0 (pc := 62) dX12_law_62 lk_X12_200 ok_X12_isMore (rcO o_534 (by decide) rfl) rfl rfl (c_X12_isMore (mx_f hm q3) q2 (fun h => kt_s ?_) (fun h => kt_s ?_))
              · refine s_ifeq (pc := 65) (tgt := 77) dX12_law_65 rfl (fun h65 => absurd h65 (by decide)) (fun h65 => ?_)
                refine s_aload_n (pc := 68) (i := 0) dX12_law_68 rfl rfl ?_
                refine m_ic (pc := 69) (v := 1) dX12_law_69 rfl ?_
                refine s_aload_n (pc := 70) (i := 0) dX12_law_70 rfl rfl ?_
                refine m_gi (pc := 71) dX12_law_71 ff_X12_108 rfl o_534 ?_
                refine m_nm (v' := nI (sk t N a1)) rfl ?_
                refine m_v2 (pc := 74) dX12_law_74 lk_X12_138 ok_X12_wrong (rcO o_534 (by decide) rfl) rfl rfl (c_X12_wrong rfl (kt_v ?_))
                refine s_aload_n (pc := 77) (i := 0) dX12_law_77 rfl rfl ?_
                refine m_ic (pc := 78) (v := 1) dX12_law_78 rfl ?_
                refine m_v1 (pc := 79) dX12_law_79 lk_X12_226 ok_X12_result (rcO o_534 (by decide) rfl) rfl rfl (c_X12_result_n (nI_m1 (by omega)) (kt_s ?_))
                refine s_istore_n (pc := 82) (i := 2) dX12_law_82 rfl (Nat.le_of_ble_eq_true rfl) ?_
                dsimp only [List.set, List.filter]
                refine s_aload_n (pc := 83) (i := 0) dX12_law_83 rfl rfl ?_
                refine m_gi (pc := 84) dX12_law_84 ff_X12_102 rfl o_534 ?_
                refine m_nm (v' := (nI (sk t N a1))) rfl ?_
                refine m_ic (pc := 87) (v := -1) dX12_law_87 rfl ?_
                refine s_iceq (pc := 88) (tgt := 93) dX12_law_88 rfl (fun h88 => absurd h88 ((nI_m1 (by omega)))) (fun h88 => ?_)
                refine s_iload_n (pc := 91) (i := 2) dX12_law_91 rfl rfl ?_
                refine s_ireturn (pc := 92) dX12_law_92 rfl rfl ?_
                exact h2 N (1, sk t N a1) _ ex hN hN5 (by unfold rLw; rw [q1]; simp only []; rw [if_neg (by omega)]) (gM_p (gM_u (gM_t G (gM_f q3)) (by decide))) (by rw [mp_x (by decide), up_k (by decide), q3 _ _ (by decide)]; exact F0) (by rw [mp_x (by decide), up_k (by decide), q3 _ _ (by decide)]; exact F2) (by rw [mp_x (by decide), up_s])
              · refine s_ifeq (pc := 65) (tgt := 77) dX12_law_65 rfl (fun h65 => ?_) (fun h65 => absurd h65 (by decide))
                refine s_aload_n (pc := 77) (i := 0) dX12_law_77 rfl rfl ?_
                refine m_ic (pc := 78) (v := 1) dX12_law_78 rfl ?_
                refine m_v1 (pc := 79) dX12_law_79 lk_X12_226 ok_X12_result (rcO o_534 (by decide) rfl) rfl rfl (c_X12_result (kt_s ?_))
                refine s_istore_n (pc := 82) (i := 2) dX12_law_82 rfl (Nat.le_of_ble_eq_true rfl) ?_
                dsimp only [List.set, List.filter]
                refine s_aload_n (pc := 83) (i := 0) dX12_law_83 rfl rfl ?_
                refine m_gi (pc := 84) dX12_law_84 ff_X12_102 rfl o_534 ?_
                refine m_nm (v' := (-1)) rfl ?_
                refine m_ic (pc := 87) (v := -1) dX12_law_87 rfl ?_
                refine s_iceq (pc := 88) (tgt := 93) dX12_law_88 rfl (fun h88 => ?_) (fun h88 => absurd (rfl) h88)
                refine s_aload_n (pc := 93) (i := 0) dX12_law_93 rfl rfl ?_
                refine s_aload_n (pc := 94) (i := 0) dX12_law_94 rfl rfl ?_
                refine m_gi (pc := 95) dX12_law_95 ff_X12_230 rfl o_534 ?_
                refine m_nm (v' := nI c2.length) (hL8.1) ?_
                refine m_pi (pc := 98) dX12_law_98 ff_X12_167 rfl rfl o_534 ?_
                refine s_aload_n (pc := 101) (i := 0) dX12_law_101 rfl rfl ?_
                refine s_aload_n (pc := 102) (i := 0) dX12_law_102 rfl rfl ?_
                refine m_gr (pc := 103) dX12_law_103 ff_X12_35 rfl o_534 r_534_20 ?_
                refine s_aload_n (pc := 106) (i := 0) dX12_law_106 rfl rfl ?_
                refine m_gr (pc := 107) dX12_law_107 ff_X12_41 rfl o_534 r_534_22 ?_
                refine s_aload_n (pc := 110) (i := 0) dX12_law_110 rfl rfl ?_
                refine m_gi (pc := 111) dX12_law_111 ff_X12_230 rfl o_534 ?_
                refine m_nm (v' := nI c2.length) (by rw [up_k (by decide)]; exact hL8.1) ?_
                refine m_v3 (pc := 114) dX12_law_114 lk_X12_163 ok_X12_copies (rcO o_534 (by decide) rfl) rfl rfl (c_X12_copies (m := c2.length) rfl a_541 a_543 (by decide) hl5 hl5 (by decide) (kt_v ?_))
                refine s_aload_n (pc := 117) (i := 0) dX12_law_117 rfl rfl ?_
                refine s_aload_n (pc := 118) (i := 0) dX12_law_118 rfl rfl ?_
                refine m_gr (pc := 119) dX12_law_119 ff_X12_38 rfl o_534 r_534_21 ?_
                refine s_aload_n (pc := 122) (i := 0) dX12_law_122 rfl rfl ?_
                refine m_gr (pc := 123) dX12_law_123 ff_X12_44 rfl o_534 r_534_23 ?_
                refine s_aload_n (pc := 126) (i := 0) dX12_law_126 rfl rfl ?_
                refine m_gi (pc := 127) dX12_law_127 ff_X12_230 rfl o_534 ?_
                refine m_nm (v' := nI c2.length) (by unfold cpI; rw [if_neg (by omega), up_k (by decide)]; exact hL8.1) ?_
                refine m_v3 (pc := 130) dX12_law_130 lk_X12_163 ok_X12_copies (rcO o_534 (by decide) rfl) rfl rfl (c_X12_copies (m := c2.length) rfl a_542 a_544 (by decide) hl5 hl5 (by decide) (kt_v ?_))
                refine s_iload_n (pc := 133) (i := 2) dX12_law_133 rfl rfl ?_
                refine s_ireturn (pc := 134) dX12_law_134 rfl rfl ?_
                exact h3 N c2 _ ex hN hN5 (by unfold rLw; rw [q1]; simp only []; rw [if_pos (by omega)]) hl5 (gM_p (gM_u (gM_t G (gM_f q3)) (by decide))) (by rw [mp_x (by decide), up_k (by decide), q3 _ _ (by decide)]; exact F0) (by rw [mp_x (by decide), up_k (by decide), q3 _ _ (by decide)]; exact F2) (by rw [mp_x (by decide), up_s]) hL8
end S
