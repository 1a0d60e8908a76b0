section S
variable {g : aG} {d : Nat} {I : Nat → Nat → Int32} {J : Nat → Nat → Int64} {n w : Nat} {Q : aO → aS → Prop}
variable {t : Nat → Nat} {N a : Nat} {bk op : Int32} {σ : aS}
theorem sl_1 : sl 1 = 7 := by decide +kernel
theorem sl_0 : sl 0 = 4 := by decide +kernel
theorem sl_2 : sl 2 = 4 := by decide +kernel
theorem wv_n {s k : Nat} (h : ∀ i, i < k → 97 ≤ t (s + i) ∧ t (s + i) ≤ 122) : ¬ wv t s k = -7 := by
  unfold wv
  split
  · intro e
    have h1 := wcd_b (t := t) (p := s) (k := k) (by assumption) (fun i hi => by have := h i hi; omega)
    have h2 : nI (wcd t s k) < 0 := by rw [e]; decide
    exact absurd h2 (nI_pos (by omega))
  · decide
theorem isf_b {D : cD} {x : Int32} (h : x = oc 0) (q : (x = oc 0 ∧ cb D = 7) ∨ (x ≠ oc 0 ∧ x = -7 ∧ cc D = 12)) : cb D = 7 := by rcases q with q | q; exact q.2; exact absurd h q.1
theorem isn_b {D : cD} {x : Int32} (h : x = oc 0) (q : ¬ ((x = oc 0 ∧ cb D = 7) ∨ (x ≠ oc 0 ∧ x = -7 ∧ cc D = 12))) : ¬ cb D = 7 := fun z => q (Or.inl ⟨h, z⟩)
theorem m7_oc {j : Nat} (hj : j < 18) (hl : sl j ≤ 6) : ¬ (-7 : Int32) = oc j := fun e => oc_b hj hl (by rw [← e]; decide)
theorem isf_c {D : cD} (_ : True) (q : ((-7 : Int32) = oc 0 ∧ cb D = 7) ∨ ((-7 : Int32) ≠ oc 0 ∧ (-7 : Int32) = -7 ∧ cc D = 12)) : cc D = 12 := by rcases q with q | q; exact absurd q.1 (m7_oc (by decide) (by decide +kernel)); exact q.2.2
theorem isn_c {D : cD} (_ : True) (q : ¬ (((-7 : Int32) = oc 0 ∧ cb D = 7) ∨ ((-7 : Int32) ≠ oc 0 ∧ (-7 : Int32) = -7 ∧ cc D = 12))) : ¬ cc D = 12 := fun z => q (Or.inr ⟨m7_oc (by decide) (by decide +kernel), rfl, z⟩)
theorem isf_k {D : cD} {x : Int32} (h : x ≠ oc 0 ∧ x ≠ -7) (q : (x = oc 0 ∧ cb D = 7) ∨ (x ≠ oc 0 ∧ x = -7 ∧ cc D = 12)) : False := by rcases q with q | q; exact h.1 q.1; exact h.2 q.2.1
theorem isn_k {D : cD} {x : Int32} (h : x ≠ oc 0 ∧ x ≠ -7) (q : ¬ ((x = oc 0 ∧ cb D = 7) ∨ (x ≠ oc 0 ∧ x = -7 ∧ cc D = 12))) : True := trivial
theorem c_ir {x : Int32} (h1 : x = oc 0 → Q (.inl (some (.int 1))) σ) (h2 : ¬ x = oc 0 → x = oc 2 → Q (.inl (some (.int 1))) σ) (h3 : ¬ x = oc 0 → ¬ x = oc 2 → Q (.inl (some (.int 0))) σ) (h7 : ¬ x = -7) : Cn g (d + 5) mX12_isRow [.int x] σ Q := by
  refine c_X12_isRow (fun q => ?_) (fun q => ?_)
  · by_cases e : x = oc 0
    · exact h1 e
    · exact h2 e (q.resolve_left e |>.resolve_left h7)
  · exact h3 (fun e => q (Or.inl e)) (fun e => q (Or.inr (Or.inr e)))
theorem mc_lp {x : Int32} : ∀ f I k a (D : cD) (u3 u4 : Value), mx I t N → a ≤ N → Mo I 14 537 538 D → cOk D → k + f = 61 → (∀ e I' a' v2 v3 v4, rCo t N f k (sk t N a) D = .inl e → fM I I' → e.2 ≤ 600 → Rn g (d + 6) mX12_court 156 [.ref 534, .int x, v2, v3, v4] [] [] (Z (mp I' a' (nI e.2) (nI e.1) op) J n w) Q) →
    (∀ D' I' a' v2 v3 v4, rCo t N f k (sk t N a) D = .inr D' → fM I I' → Mo I' 14 537 538 D' → cOk D' → Rn g (d + 6) mX12_court 156 [.ref 534, .int x, v2, v3, v4] [] [] (Z (mp I' a' (-1) bk op) J n w) Q) → (f = 0 → False) → Rn g (d + 6) mX12_court 44 [.ref 534, .int x, .int (nI k), u3, u4] [] [] (Z (mp I a (-1) bk op) J n w) Q := by
  have e60 : (60 : Int32) = nI 60 := rfl
  intro f
  induction f with
  | zero => intro I k a D u3 u4 hm ha hD hk hf hb hg h0; exact absurd rfl h0
  | succ f ih =>
    intro I k a D u3 u4 hm ha hD hk hf hb hg h0
    have hN := hm.1
    have hc7 := hk.1
    have hc12 := hk.2.1
    have hs := sk_le (t := t) ha
    have hwl := wE_le (t := t) hs
    have hss := sk_sk (t := t) (N := N) (a := a)
    unfold rCo at hb hg
    refine s_aload_n (pc := 44) (i := 0) dX12_court_44 rfl rfl ?_
    refine m_v0 (pc := 45) dX12_court_45 lk_X12_131 ok_X12_fine (rcO o_534 (by decide) rfl) rfl rfl (c_X12_fine (fun h => kt_s ?_) (fun h => absurd rfl h))
    · refine s_ifeq (pc := 48) (tgt := 156) dX12_court_48 rfl (fun h48 => absurd h48 (by decide)) (fun h48 => ?_)
      refine s_aload_n (pc := 51) (i := 0) dX12_court_51 rfl rfl ?_
      refine m_v0 (pc := 52) dX12_court_52 lk_X12_200 ok_X12_isMore (rcO o_534 (by decide) rfl) rfl rfl (c_X12_isMore hm ha (fun h => kt_s ?_) (fun h => kt_s ?_))
      · rw [if_neg (by omega)] at hb hg
        refine s_ifeq (pc := 55) (tgt := 156) dX12_court_55 rfl (fun h55 => absurd h55 (by decide)) (fun h55 => ?_)
        refine s_aload_n (pc := 58) (i := 0) dX12_court_58 rfl rfl ?_
        refine s_ldcS (pc := 59) (j := 1) dX12_court_59 sr_X12_203 rfl ?_
        refine m_v1 (pc := 61) dX12_court_61 lk_X12_204 ok_X12_standsHere (rcO o_534 (by decide) rfl) rfl rfl (c_X12_standsHere (j := 1) hm hs (by decide) (fun h => kt_s ?_) (fun h => kt_s ?_))
        · rw [hss] at h ⊢
          have b1 : wB t N (sk t N a) 1 = true := wB_m.mpr h
          have b0 : wB t N (sk t N a) 0 = false := wB_f.mpr (fun z => by have z1 := z.1; have z2 := h.1; rw [sl_0] at z1; rw [sl_1] at z2; omega)
          refine s_istore_n (pc := 64) (i := 3) dX12_court_64 rfl (Nat.le_of_ble_eq_true rfl) ?_
          dsimp only [List.set, List.filter]
          refine s_iload_n (pc := 65) (i := 3) dX12_court_65 rfl rfl ?_
          refine s_ifeq (pc := 66) (tgt := 74) dX12_court_66 rfl (fun h66 => absurd h66 (by decide)) (fun h66 => ?_)
          refine m_bi (pc := 69) (v := (-7)) dX12_court_69 rfl ?_
          refine s_goto (pc := 71) (tgt := 78) dX12_court_71 rfl ?_
          refine s_istore (pc := 78) (i := 4) dX12_court_78 (Nat.le_of_ble_eq_true rfl) ?_
          dsimp only [List.set, List.filter]
          refine s_iload (pc := 80) (i := 4) dX12_court_80 rfl ?_
          refine m_s1 (pc := 82) dX12_court_82 lk_X12_211 ok_X12_isRow rfl rfl (c_X12_isRow (fun q => kt_s ?_) (fun q => absurd (Or.inr (Or.inl rfl)) q))
          · refine s_ifne (pc := 85) (tgt := 100) dX12_court_85 rfl (fun h85 => ?_) (fun h85 => absurd h85 (by decide))
            refine s_iload_n (pc := 100) (i := 2) dX12_court_100 rfl rfl ?_
            refine m_bi (pc := 101) (v := 60) dX12_court_101 rfl ?_
            refine s_iceq (pc := 103) (tgt := 115) dX12_court_103 rfl (fun h103 => ?_) (fun h103 => ?_)
            · rw [e60, nI_eq (by omega) (by omega)] at h103
              refine s_aload_n (pc := 115) (i := 0) dX12_court_115 rfl rfl ?_
              refine m_ic (pc := 116) (v := 3) dX12_court_116 rfl ?_
              refine s_aload_n (pc := 117) (i := 0) dX12_court_117 rfl rfl ?_
              refine m_gi (pc := 118) dX12_court_118 ff_X12_108 rfl o_534 ?_
              refine m_nm (v' := nI (sk t N a)) rfl ?_
              refine m_v2 (pc := 121) dX12_court_121 lk_X12_138 ok_X12_wrong (rcO o_534 (by decide) rfl) rfl rfl (c_X12_wrong rfl (kt_v ?_))
              refine s_aload_n (pc := 124) (i := 0) dX12_court_124 rfl rfl ?_
              refine m_v0 (pc := 125) dX12_court_125 lk_X12_131 ok_X12_fine (rcO o_534 (by decide) rfl) rfl rfl (c_X12_fine (fun h => absurd h (nI_m1 (by omega))) (fun h => kt_s ?_))
              · refine s_ifne (pc := 128) (tgt := 134) dX12_court_128 rfl (fun h128 => absurd h128 (by decide)) (fun h128 => ?_)
                refine s_goto (pc := 131) (tgt := 156) dX12_court_131 rfl ?_
                have cl : rCl t N (sk t N a) k D = .inl (3, sk t N a) := by unfold rCl; rw [if_neg (by rintro ⟨z0, z1, z2⟩; first | exact absurd (z0.symm.trans b0) (by decide) | exact absurd (z1.symm.trans b1) (by decide) | exact absurd (z2.symm.trans b2) (by decide)), if_pos (by first | exact Or.inl ⟨b0, by omega⟩ | exact Or.inr (Or.inl ⟨b1, by omega⟩) | exact Or.inr (Or.inr (by omega)))]
                rw [cl] at hb
                exact hb (3, sk t N a) I (sk t N a) _ _ _ rfl fM_r (by simp only []; omega)
            · rw [e60, nI_eq (by omega) (by omega)] at h103
              refine s_aload_n (pc := 106) (i := 0) dX12_court_106 rfl rfl ?_
              refine s_iload (pc := 107) (i := 4) dX12_court_107 rfl ?_
              refine m_v1 (pc := 109) dX12_court_109 lk_X12_214 ok_X12_isFull (rcO o_534 (by decide) rfl) rfl rfl (c_X12_isFull (D := D) hD hk (fun q => kt_s ?_) (fun q => kt_s ?_))
              · have q := isf_c trivial q
                refine s_ifeq (pc := 112) (tgt := 124) dX12_court_112 rfl (fun h112 => absurd h112 (by decide)) (fun h112 => ?_)
                refine s_aload_n (pc := 115) (i := 0) dX12_court_115 rfl rfl ?_
                refine m_ic (pc := 116) (v := 3) dX12_court_116 rfl ?_
                refine s_aload_n (pc := 117) (i := 0) dX12_court_117 rfl rfl ?_
                refine m_gi (pc := 118) dX12_court_118 ff_X12_108 rfl o_534 ?_
                refine m_nm (v' := nI (sk t N a)) rfl ?_
                refine m_v2 (pc := 121) dX12_court_121 lk_X12_138 ok_X12_wrong (rcO o_534 (by decide) rfl) rfl rfl (c_X12_wrong rfl (kt_v ?_))
                refine s_aload_n (pc := 124) (i := 0) dX12_court_124 rfl rfl ?_
                refine m_v0 (pc := 125) dX12_court_125 lk_X12_131 ok_X12_fine (rcO o_534 (by decide) rfl) rfl rfl (c_X12_fine (fun h => absurd h (nI_m1 (by omega))) (fun h => kt_s ?_))
                · refine s_ifne (pc := 128) (tgt := 134) dX12_court_128 rfl (fun h128 => absurd h128 (by decide)) (fun h128 => ?_)
                  refine s_goto (pc := 131) (tgt := 156) dX12_court_131 rfl ?_
                  have cl : rCl t N (sk t N a) k D = .inl (3, sk t N a) := by unfold rCl; rw [if_neg (by rintro ⟨z0, z1, z2⟩; first | exact absurd (z0.symm.trans b0) (by decide) | exact absurd (z1.symm.trans b1) (by decide) | exact absurd (z2.symm.trans b2) (by decide)), if_pos (by first | exact Or.inl ⟨b0, by omega⟩ | exact Or.inr (Or.inl ⟨b1, by omega⟩) | exact Or.inr (Or.inr (by omega)))]
                  rw [cl] at hb
                  exact hb (3, sk t N a) I (sk t N a) _ _ _ rfl fM_r (by simp only []; omega)
              · have q := isn_c trivial q
                refine s_ifeq (pc := 112) (tgt := 124) dX12_court_112 rfl (fun h112 => ?_) (fun h112 => absurd h112 (by decide))
                refine s_aload_n (pc := 124) (i := 0) dX12_court_124 rfl rfl ?_
                refine m_v0 (pc := 125) dX12_court_125 lk_X12_131 ok_X12_fine (rcO o_534 (by decide) rfl) rfl rfl (c_X12_fine (fun h => kt_s ?_) (fun h => absurd rfl h))
                · refine s_ifne (pc := 128) (tgt := 134) dX12_court_128 rfl (fun h128 => ?_) (fun h128 => absurd h128 (by decide))
                  have cl : rCl t N (sk t N a) k D = rC t N (sk t N (wE t N (sk t N a))) D := by unfold rCl; rw [if_neg (by rintro ⟨z0, z1, z2⟩; first | exact absurd (z0.symm.trans b0) (by decide) | exact absurd (z1.symm.trans b1) (by decide) | exact absurd (z2.symm.trans b2) (by decide)), if_neg (by rintro (⟨z, z2⟩ | ⟨z, z2⟩ | z) <;> first | omega | exact absurd (z.symm.trans b0) (by decide) | exact absurd (z.symm.trans b1) (by decide))]; rw [if_neg (by rw [b0]; decide), if_pos b1]
                  refine s_aload_n (pc := 134) (i := 0) dX12_court_134 rfl rfl ?_
                  refine m_v0 (pc := 135) dX12_court_135 lk_X12_217 ok_X12_pass (rcO o_534 (by decide) rfl) rfl rfl (c_X12_pass hm hs (kt_v ?_))
                  refine s_aload_n (pc := 138) (i := 0) dX12_court_138 rfl rfl ?_
                  refine s_iload (pc := 139) (i := 4) dX12_court_139 rfl ?_
                  refine m_v1 (pc := 141) dX12_court_141 lk_X12_220 ok_X12_readRow (rcO o_534 (by decide) rfl) rfl rfl (c_rr_c (d := d) hm hwl hD hk (m7_oc (by decide) (by decide +kernel)) (m7_oc (by decide) (by decide +kernel)) (by omega) (fun e a1 I1 q1 q2 q3 q4 => kt_v ?_) (fun a1 D1 I1 q1 q2 q3 q4 q5 q6 => kt_v ?_))
                  · rw [cl, q1] at hb
                    simp only [] at hb
                    refine s_aload_n (pc := 144) (i := 0) dX12_court_144 rfl rfl ?_
                    refine m_bi (pc := 145) (v := 59) dX12_court_145 rfl ?_
                    refine m_v1 (pc := 147) dX12_court_147 lk_X12_223 ok_X12_sign (rcO o_534 (by decide) rfl) rfl rfl (c_X12_sign_n (nI_m1 (by omega)) (kt_v ?_))
                    refine m_inc (pc := 150) (v := 1) dX12_court_150 rfl rfl ?_
                    dsimp only [List.set, List.filter]
                    rw [nI_1]
                    refine s_goto (pc := 153) (tgt := 44) dX12_court_153 rfl ?_
                    refine s_aload_n (pc := 44) (i := 0) dX12_court_44 rfl rfl ?_
                    refine m_v0 (pc := 45) dX12_court_45 lk_X12_131 ok_X12_fine (rcO o_534 (by decide) rfl) rfl rfl (c_X12_fine (fun h => absurd h (nI_m1 (by omega))) (fun h => kt_s ?_))
                    · refine s_ifeq (pc := 48) (tgt := 156) dX12_court_48 rfl (fun h48 => ?_) (fun h48 => absurd h48 (by decide))
                      exact hb e I1 a1 _ _ _ rfl q4 q2
                  · rw [cl, q1] at hb hg
                    simp only [] at hb hg
                    have hf0 : ¬ f = 0 := fun e => by subst e; exact rC_no (by omega) (cl.trans q1)
                    refine s_aload_n (pc := 144) (i := 0) dX12_court_144 rfl rfl ?_
                    refine m_bi (pc := 145) (v := 59) dX12_court_145 rfl ?_
                    refine m_v1 (pc := 147) dX12_court_147 lk_X12_223 ok_X12_sign (rcO o_534 (by decide) rfl) rfl rfl (c_sg (c := 59) (mx_f hm q4) q2 (by decide) (by decide) rfl (fun a2 s1 s2 s3 => kt_v ?_) (fun e s1 s2 s3 => kt_v ?_))
                    · rw [s1] at hb hg
                      simp only [] at hb hg
                      refine m_inc (pc := 150) (v := 1) dX12_court_150 rfl rfl ?_
                      dsimp only [List.set, List.filter]
                      rw [nI_1]
                      refine s_goto (pc := 153) (tgt := 44) dX12_court_153 rfl ?_
                      exact ih I1 (k + 1) a2 D1 _ _ (mx_f hm q4) s2 q5 q6 (by omega) (fun e I' a' v2 v3 v4 z1 z2 z3 => hb e I' a' v2 v3 v4 z1 (fM_t q4 z2) z3) (fun D' I' a' v2 v3 v4 z1 z2 z3 z4 => hg D' I' a' v2 v3 v4 z1 (fM_t q4 z2) z3 z4) hf0
                    · rw [s1] at hb
                      simp only [] at hb
                      refine m_inc (pc := 150) (v := 1) dX12_court_150 rfl rfl ?_
                      dsimp only [List.set, List.filter]
                      rw [nI_1]
                      refine s_goto (pc := 153) (tgt := 44) dX12_court_153 rfl ?_
                      refine s_aload_n (pc := 44) (i := 0) dX12_court_44 rfl rfl ?_
                      refine m_v0 (pc := 45) dX12_court_45 lk_X12_131 ok_X12_fine (rcO o_534 (by decide) rfl) rfl rfl (c_X12_fine (fun h => absurd h (nI_m1 (by omega))) (fun h => kt_s ?_))
                      · refine s_ifeq (pc := 48) (tgt := 156) dX12_court_48 rfl (fun h48 => ?_) (fun h48 => absurd h48 (by decide))
                        exact hb e I1 _ _ _ _ rfl q4 s3
        · rw [hss] at h ⊢
          have b1 : wB t N (sk t N a) 1 = false := wB_f.mpr h
          have h7 := wv_n (t := t) (s := sk t N a) (k := wE t N (sk t N a) - sk t N a) (fun i hi => wE_sm (N := N) (s := sk t N a) (by omega) (by omega))
          refine s_istore_n (pc := 64) (i := 3) dX12_court_64 rfl (Nat.le_of_ble_eq_true rfl) ?_
          dsimp only [List.set, List.filter]
          refine s_iload_n (pc := 65) (i := 3) dX12_court_65 rfl rfl ?_
          refine s_ifeq (pc := 66) (tgt := 74) dX12_court_66 rfl (fun h66 => ?_) (fun h66 => absurd h66 (by decide))
          refine s_aload_n (pc := 74) (i := 0) dX12_court_74 rfl rfl ?_
          refine m_v0 (pc := 75) dX12_court_75 lk_X12_208 ok_X12_wordHere (rcO o_534 (by decide) rfl) rfl rfl (c_X12_wordHere hm hs (kt_s ?_))
          rw [hss]
          refine s_istore (pc := 78) (i := 4) dX12_court_78 (Nat.le_of_ble_eq_true rfl) ?_
          dsimp only [List.set, List.filter]
          refine s_iload (pc := 80) (i := 4) dX12_court_80 rfl ?_
          refine m_s1 (pc := 82) dX12_court_82 lk_X12_211 ok_X12_isRow rfl rfl (c_ir (fun hw => kt_s ?_) (fun q hw2 => kt_s ?_) (fun q q2 => kt_s ?_) h7)
          · have b0 : wB t N (sk t N a) 0 = true := wB_m.mpr ((wv_oc hs (by decide) (by decide +kernel)).mp hw)
            refine s_ifne (pc := 85) (tgt := 100) dX12_court_85 rfl (fun h85 => ?_) (fun h85 => absurd h85 (by decide))
            refine s_iload_n (pc := 100) (i := 2) dX12_court_100 rfl rfl ?_
            refine m_bi (pc := 101) (v := 60) dX12_court_101 rfl ?_
            refine s_iceq (pc := 103) (tgt := 115) dX12_court_103 rfl (fun h103 => ?_) (fun h103 => ?_)
            · rw [e60, nI_eq (by omega) (by omega)] at h103
              refine s_aload_n (pc := 115) (i := 0) dX12_court_115 rfl rfl ?_
              refine m_ic (pc := 116) (v := 3) dX12_court_116 rfl ?_
              refine s_aload_n (pc := 117) (i := 0) dX12_court_117 rfl rfl ?_
              refine m_gi (pc := 118) dX12_court_118 ff_X12_108 rfl o_534 ?_
              refine m_nm (v' := nI (sk t N a)) rfl ?_
              refine m_v2 (pc := 121) dX12_court_121 lk_X12_138 ok_X12_wrong (rcO o_534 (by decide) rfl) rfl rfl (c_X12_wrong rfl (kt_v ?_))
              refine s_aload_n (pc := 124) (i := 0) dX12_court_124 rfl rfl ?_
              refine m_v0 (pc := 125) dX12_court_125 lk_X12_131 ok_X12_fine (rcO o_534 (by decide) rfl) rfl rfl (c_X12_fine (fun h => absurd h (nI_m1 (by omega))) (fun h => kt_s ?_))
              · refine s_ifne (pc := 128) (tgt := 134) dX12_court_128 rfl (fun h128 => absurd h128 (by decide)) (fun h128 => ?_)
                refine s_goto (pc := 131) (tgt := 156) dX12_court_131 rfl ?_
                have cl : rCl t N (sk t N a) k D = .inl (3, sk t N a) := by unfold rCl; rw [if_neg (by rintro ⟨z0, z1, z2⟩; first | exact absurd (z0.symm.trans b0) (by decide) | exact absurd (z1.symm.trans b1) (by decide) | exact absurd (z2.symm.trans b2) (by decide)), if_pos (by first | exact Or.inl ⟨b0, by omega⟩ | exact Or.inr (Or.inl ⟨b1, by omega⟩) | exact Or.inr (Or.inr (by omega)))]
                rw [cl] at hb
                exact hb (3, sk t N a) I (sk t N a) _ _ _ rfl fM_r (by simp only []; omega)
            · rw [e60, nI_eq (by omega) (by omega)] at h103
              refine s_aload_n (pc := 106) (i := 0) dX12_court_106 rfl rfl ?_
              refine s_iload (pc := 107) (i := 4) dX12_court_107 rfl ?_
              refine m_v1 (pc := 109) dX12_court_109 lk_X12_214 ok_X12_isFull (rcO o_534 (by decide) rfl) rfl rfl (c_X12_isFull (D := D) hD hk (fun q => kt_s ?_) (fun q => kt_s ?_))
              · have q := isf_b hw q
                refine s_ifeq (pc := 112) (tgt := 124) dX12_court_112 rfl (fun h112 => absurd h112 (by decide)) (fun h112 => ?_)
                refine s_aload_n (pc := 115) (i := 0) dX12_court_115 rfl rfl ?_
                refine m_ic (pc := 116) (v := 3) dX12_court_116 rfl ?_
                refine s_aload_n (pc := 117) (i := 0) dX12_court_117 rfl rfl ?_
                refine m_gi (pc := 118) dX12_court_118 ff_X12_108 rfl o_534 ?_
                refine m_nm (v' := nI (sk t N a)) rfl ?_
                refine m_v2 (pc := 121) dX12_court_121 lk_X12_138 ok_X12_wrong (rcO o_534 (by decide) rfl) rfl rfl (c_X12_wrong rfl (kt_v ?_))
                refine s_aload_n (pc := 124) (i := 0) dX12_court_124 rfl rfl ?_
                refine m_v0 (pc := 125) dX12_court_125 lk_X12_131 ok_X12_fine (rcO o_534 (by decide) rfl) rfl rfl (c_X12_fine (fun h => absurd h (nI_m1 (by omega))) (fun h => kt_s ?_))
                · refine s_ifne (pc := 128) (tgt := 134) dX12_court_128 rfl (fun h128 => absurd h128 (by decide)) (fun h128 => ?_)
                  refine s_goto (pc := 131) (tgt := 156) dX12_court_131 rfl ?_
                  have cl : rCl t N (sk t N a) k D = .inl (3, sk t N a) := by unfold rCl; rw [if_neg (by rintro ⟨z0, z1, z2⟩; first | exact absurd (z0.symm.trans b0) (by decide) | exact absurd (z1.symm.trans b1) (by decide) | exact absurd (z2.symm.trans b2) (by decide)), if_pos (by first | exact Or.inl ⟨b0, by omega⟩ | exact Or.inr (Or.inl ⟨b1, by omega⟩) | exact Or.inr (Or.inr (by omega)))]
                  rw [cl] at hb
                  exact hb (3, sk t N a) I (sk t N a) _ _ _ rfl fM_r (by simp only []; omega)
              · have q := isn_b hw q
                refine s_ifeq (pc := 112) (tgt := 124) dX12_court_112 rfl (fun h112 => ?_) (fun h112 => absurd h112 (by decide))
                refine s_aload_n (pc := 124) (i := 0) dX12_court_124 rfl rfl ?_
                refine m_v0 (pc := 125) dX12_court_125 lk_X12_131 ok_X12_fine (rcO o_534 (by decide) rfl) rfl rfl (c_X12_fine (fun h => kt_s ?_) (fun h => absurd rfl h))
                · refine s_ifne (pc := 128) (tgt := 134) dX12_court_128 rfl (fun h128 => ?_) (fun h128 => absurd h128 (by decide))
                  have cl : rCl t N (sk t N a) k D = rB t N (sk t N (wE t N (sk t N a))) D := by unfold rCl; rw [if_neg (by rintro ⟨z0, z1, z2⟩; first | exact absurd (z0.symm.trans b0) (by decide) | exact absurd (z1.symm.trans b1) (by decide) | exact absurd (z2.symm.trans b2) (by decide)), if_neg (by rintro (⟨z, z2⟩ | ⟨z, z2⟩ | z) <;> first | omega | exact absurd (z.symm.trans b0) (by decide) | exact absurd (z.symm.trans b1) (by decide))]; rw [if_pos b0]
                  refine s_aload_n (pc := 134) (i := 0) dX12_court_134 rfl rfl ?_
                  refine m_v0 (pc := 135) dX12_court_135 lk_X12_217 ok_X12_pass (rcO o_534 (by decide) rfl) rfl rfl (c_X12_pass hm hs (kt_v ?_))
                  refine s_aload_n (pc := 138) (i := 0) dX12_court_138 rfl rfl ?_
                  refine s_iload (pc := 139) (i := 4) dX12_court_139 rfl ?_
                  refine m_v1 (pc := 141) dX12_court_141 lk_X12_220 ok_X12_readRow (rcO o_534 (by decide) rfl) rfl rfl (c_rr_b (d := d) hm hwl hD hk hw (by omega) (fun e a1 I1 q1 q2 q3 q4 => kt_v ?_) (fun a1 D1 I1 q1 q2 q3 q4 q5 q6 => kt_v ?_))
                  · rw [cl, q1] at hb
                    simp only [] at hb
                    refine s_aload_n (pc := 144) (i := 0) dX12_court_144 rfl rfl ?_
                    refine m_bi (pc := 145) (v := 59) dX12_court_145 rfl ?_
                    refine m_v1 (pc := 147) dX12_court_147 lk_X12_223 ok_X12_sign (rcO o_534 (by decide) rfl) rfl rfl (c_X12_sign_n (nI_m1 (by omega)) (kt_v ?_))
                    refine m_inc (pc := 150) (v := 1) dX12_court_150 rfl rfl ?_
                    dsimp only [List.set, List.filter]
                    rw [nI_1]
                    refine s_goto (pc := 153) (tgt := 44) dX12_court_153 rfl ?_
                    refine s_aload_n (pc := 44) (i := 0) dX12_court_44 rfl rfl ?_
                    refine m_v0 (pc := 45) dX12_court_45 lk_X12_131 ok_X12_fine (rcO o_534 (by decide) rfl) rfl rfl (c_X12_fine (fun h => absurd h (nI_m1 (by omega))) (fun h => kt_s ?_))
                    · refine s_ifeq (pc := 48) (tgt := 156) dX12_court_48 rfl (fun h48 => ?_) (fun h48 => absurd h48 (by decide))
                      exact hb e I1 a1 _ _ _ rfl q4 q2
                  · rw [cl, q1] at hb hg
                    simp only [] at hb hg
                    have hf0 : ¬ f = 0 := fun e => by subst e; exact rC_no (by omega) (cl.trans q1)
                    refine s_aload_n (pc := 144) (i := 0) dX12_court_144 rfl rfl ?_
                    refine m_bi (pc := 145) (v := 59) dX12_court_145 rfl ?_
                    refine m_v1 (pc := 147) dX12_court_147 lk_X12_223 ok_X12_sign (rcO o_534 (by decide) rfl) rfl rfl (c_sg (c := 59) (mx_f hm q4) q2 (by decide) (by decide) rfl (fun a2 s1 s2 s3 => kt_v ?_) (fun e s1 s2 s3 => kt_v ?_))
                    · rw [s1] at hb hg
                      simp only [] at hb hg
                      refine m_inc (pc := 150) (v := 1) dX12_court_150 rfl rfl ?_
                      dsimp only [List.set, List.filter]
                      rw [nI_1]
                      refine s_goto (pc := 153) (tgt := 44) dX12_court_153 rfl ?_
                      exact ih I1 (k + 1) a2 D1 _ _ (mx_f hm q4) s2 q5 q6 (by omega) (fun e I' a' v2 v3 v4 z1 z2 z3 => hb e I' a' v2 v3 v4 z1 (fM_t q4 z2) z3) (fun D' I' a' v2 v3 v4 z1 z2 z3 z4 => hg D' I' a' v2 v3 v4 z1 (fM_t q4 z2) z3 z4) hf0
                    · rw [s1] at hb
                      simp only [] at hb
                      refine m_inc (pc := 150) (v := 1) dX12_court_150 rfl rfl ?_
                      dsimp only [List.set, List.filter]
                      rw [nI_1]
                      refine s_goto (pc := 153) (tgt := 44) dX12_court_153 rfl ?_
                      refine s_aload_n (pc := 44) (i := 0) dX12_court_44 rfl rfl ?_
                      refine m_v0 (pc := 45) dX12_court_45 lk_X12_131 ok_X12_fine (rcO o_534 (by decide) rfl) rfl rfl (c_X12_fine (fun h => absurd h (nI_m1 (by omega))) (fun h => kt_s ?_))
                      · refine s_ifeq (pc := 48) (tgt := 156) dX12_court_48 rfl (fun h48 => ?_) (fun h48 => absurd h48 (by decide))
                        exact hb e I1 _ _ _ _ rfl q4 s3
          · have b0 : wB t N (sk t N a) 0 = false := wB_f.mpr (fun z => q ((wv_oc hs (by decide) (by decide +kernel)).mpr z))
            have b2 : wB t N (sk t N a) 2 = true := wB_m.mpr ((wv_oc hs (by decide) (by decide +kernel)).mp hw2)
            have hw0 := And.intro q h7
            refine s_ifne (pc := 85) (tgt := 100) dX12_court_85 rfl (fun h85 => ?_) (fun h85 => absurd h85 (by decide))
            refine s_iload_n (pc := 100) (i := 2) dX12_court_100 rfl rfl ?_
            refine m_bi (pc := 101) (v := 60) dX12_court_101 rfl ?_
            refine s_iceq (pc := 103) (tgt := 115) dX12_court_103 rfl (fun h103 => ?_) (fun h103 => ?_)
            · rw [e60, nI_eq (by omega) (by omega)] at h103
              refine s_aload_n (pc := 115) (i := 0) dX12_court_115 rfl rfl ?_
              refine m_ic (pc := 116) (v := 3) dX12_court_116 rfl ?_
              refine s_aload_n (pc := 117) (i := 0) dX12_court_117 rfl rfl ?_
              refine m_gi (pc := 118) dX12_court_118 ff_X12_108 rfl o_534 ?_
              refine m_nm (v' := nI (sk t N a)) rfl ?_
              refine m_v2 (pc := 121) dX12_court_121 lk_X12_138 ok_X12_wrong (rcO o_534 (by decide) rfl) rfl rfl (c_X12_wrong rfl (kt_v ?_))
              refine s_aload_n (pc := 124) (i := 0) dX12_court_124 rfl rfl ?_
              refine m_v0 (pc := 125) dX12_court_125 lk_X12_131 ok_X12_fine (rcO o_534 (by decide) rfl) rfl rfl (c_X12_fine (fun h => absurd h (nI_m1 (by omega))) (fun h => kt_s ?_))
              · refine s_ifne (pc := 128) (tgt := 134) dX12_court_128 rfl (fun h128 => absurd h128 (by decide)) (fun h128 => ?_)
                refine s_goto (pc := 131) (tgt := 156) dX12_court_131 rfl ?_
                have cl : rCl t N (sk t N a) k D = .inl (3, sk t N a) := by unfold rCl; rw [if_neg (by rintro ⟨z0, z1, z2⟩; first | exact absurd (z0.symm.trans b0) (by decide) | exact absurd (z1.symm.trans b1) (by decide) | exact absurd (z2.symm.trans b2) (by decide)), if_pos (by first | exact Or.inl ⟨b0, by omega⟩ | exact Or.inr (Or.inl ⟨b1, by omega⟩) | exact Or.inr (Or.inr (by omega)))]
                rw [cl] at hb
                exact hb (3, sk t N a) I (sk t N a) _ _ _ rfl fM_r (by simp only []; omega)
            · rw [e60, nI_eq (by omega) (by omega)] at h103
              refine s_aload_n (pc := 106) (i := 0) dX12_court_106 rfl rfl ?_
              refine s_iload (pc := 107) (i := 4) dX12_court_107 rfl ?_
              refine m_v1 (pc := 109) dX12_court_109 lk_X12_214 ok_X12_isFull (rcO o_534 (by decide) rfl) rfl rfl (c_X12_isFull (D := D) hD hk (fun q => kt_s ?_) (fun q => kt_s ?_))
              · exact (isf_k hw0 q).elim
              · have q := isn_k hw0 q
                refine s_ifeq (pc := 112) (tgt := 124) dX12_court_112 rfl (fun h112 => ?_) (fun h112 => absurd h112 (by decide))
                refine s_aload_n (pc := 124) (i := 0) dX12_court_124 rfl rfl ?_
                refine m_v0 (pc := 125) dX12_court_125 lk_X12_131 ok_X12_fine (rcO o_534 (by decide) rfl) rfl rfl (c_X12_fine (fun h => kt_s ?_) (fun h => absurd rfl h))
                · refine s_ifne (pc := 128) (tgt := 134) dX12_court_128 rfl (fun h128 => ?_) (fun h128 => absurd h128 (by decide))
                  have cl : rCl t N (sk t N a) k D = rK t N (sk t N (wE t N (sk t N a))) D := by unfold rCl; rw [if_neg (by rintro ⟨z0, z1, z2⟩; first | exact absurd (z0.symm.trans b0) (by decide) | exact absurd (z1.symm.trans b1) (by decide) | exact absurd (z2.symm.trans b2) (by decide)), if_neg (by rintro (⟨z, z2⟩ | ⟨z, z2⟩ | z) <;> first | omega | exact absurd (z.symm.trans b0) (by decide) | exact absurd (z.symm.trans b1) (by decide))]; rw [if_neg (by rw [b0]; decide), if_neg (by rw [b1]; decide)]
                  refine s_aload_n (pc := 134) (i := 0) dX12_court_134 rfl rfl ?_
                  refine m_v0 (pc := 135) dX12_court_135 lk_X12_217 ok_X12_pass (rcO o_534 (by decide) rfl) rfl rfl (c_X12_pass hm hs (kt_v ?_))
                  refine s_aload_n (pc := 138) (i := 0) dX12_court_138 rfl rfl ?_
                  refine s_iload (pc := 139) (i := 4) dX12_court_139 rfl ?_
                  refine m_v1 (pc := 141) dX12_court_141 lk_X12_220 ok_X12_readRow (rcO o_534 (by decide) rfl) rfl rfl (c_rr_k (d := d) hm hwl hD hk hw0.1 hw2 (fun e a1 I1 q1 q2 q3 q4 => kt_v ?_) (fun a1 D1 I1 q1 q2 q3 q4 q5 q6 => kt_v ?_))
                  · rw [cl, q1] at hb
                    simp only [] at hb
                    refine s_aload_n (pc := 144) (i := 0) dX12_court_144 rfl rfl ?_
                    refine m_bi (pc := 145) (v := 59) dX12_court_145 rfl ?_
                    refine m_v1 (pc := 147) dX12_court_147 lk_X12_223 ok_X12_sign (rcO o_534 (by decide) rfl) rfl rfl (c_X12_sign_n (nI_m1 (by omega)) (kt_v ?_))
                    refine m_inc (pc := 150) (v := 1) dX12_court_150 rfl rfl ?_
                    dsimp only [List.set, List.filter]
                    rw [nI_1]
                    refine s_goto (pc := 153) (tgt := 44) dX12_court_153 rfl ?_
                    refine s_aload_n (pc := 44) (i := 0) dX12_court_44 rfl rfl ?_
                    refine m_v0 (pc := 45) dX12_court_45 lk_X12_131 ok_X12_fine (rcO o_534 (by decide) rfl) rfl rfl (c_X12_fine (fun h => absurd h (nI_m1 (by omega))) (fun h => kt_s ?_))
                    · refine s_ifeq (pc := 48) (tgt := 156) dX12_court_48 rfl (fun h48 => ?_) (fun h48 => absurd h48 (by decide))
                      exact hb e I1 a1 _ _ _ rfl q4 q2
                  · rw [cl, q1] at hb hg
                    simp only [] at hb hg
                    have hf0 : ¬ f = 0 := fun e => by subst e; exact rC_no (by omega) (cl.trans q1)
                    refine s_aload_n (pc := 144) (i := 0) dX12_court_144 rfl rfl ?_
                    refine m_bi (pc := 145) (v := 59) dX12_court_145 rfl ?_
                    refine m_v1 (pc := 147) dX12_court_147 lk_X12_223 ok_X12_sign (rcO o_534 (by decide) rfl) rfl rfl (c_sg (c := 59) (mx_f hm q4) q2 (by decide) (by decide) rfl (fun a2 s1 s2 s3 => kt_v ?_) (fun e s1 s2 s3 => kt_v ?_))
                    · rw [s1] at hb hg
                      simp only [] at hb hg
                      refine m_inc (pc := 150) (v := 1) dX12_court_150 rfl rfl ?_
                      dsimp only [List.set, List.filter]
                      rw [nI_1]
                      refine s_goto (pc := 153) (tgt := 44) dX12_court_153 rfl ?_
                      exact ih I1 (k + 1) a2 D1 _ _ (mx_f hm q4) s2 q5 q6 (by omega) (fun e I' a' v2 v3 v4 z1 z2 z3 => hb e I' a' v2 v3 v4 z1 (fM_t q4 z2) z3) (fun D' I' a' v2 v3 v4 z1 z2 z3 z4 => hg D' I' a' v2 v3 v4 z1 (fM_t q4 z2) z3 z4) hf0
                    · rw [s1] at hb
                      simp only [] at hb
                      refine m_inc (pc := 150) (v := 1) dX12_court_150 rfl rfl ?_
                      dsimp only [List.set, List.filter]
                      rw [nI_1]
                      refine s_goto (pc := 153) (tgt := 44) dX12_court_153 rfl ?_
                      refine s_aload_n (pc := 44) (i := 0) dX12_court_44 rfl rfl ?_
                      refine m_v0 (pc := 45) dX12_court_45 lk_X12_131 ok_X12_fine (rcO o_534 (by decide) rfl) rfl rfl (c_X12_fine (fun h => absurd h (nI_m1 (by omega))) (fun h => kt_s ?_))
                      · refine s_ifeq (pc := 48) (tgt := 156) dX12_court_48 rfl (fun h48 => ?_) (fun h48 => absurd h48 (by decide))
                        exact hb e I1 _ _ _ _ rfl q4 s3
          · have b0 : wB t N (sk t N a) 0 = false := wB_f.mpr (fun z => q ((wv_oc hs (by decide) (by decide +kernel)).mpr z))
            have b2 : wB t N (sk t N a) 2 = false := wB_f.mpr (fun z => q2 ((wv_oc hs (by decide) (by decide +kernel)).mpr z))
            refine s_ifne (pc := 85) (tgt := 100) dX12_court_85 rfl (fun h85 => absurd h85 (by decide)) (fun h85 => ?_)
            refine s_aload_n (pc := 88) (i := 0) dX12_court_88 rfl rfl ?_
            refine m_ic (pc := 89) (v := 1) dX12_court_89 rfl ?_
            refine s_aload_n (pc := 90) (i := 0) dX12_court_90 rfl rfl ?_
            refine m_gi (pc := 91) dX12_court_91 ff_X12_108 rfl o_534 ?_
            refine m_nm (v' := nI (sk t N a)) rfl ?_
            refine m_v2 (pc := 94) dX12_court_94 lk_X12_138 ok_X12_wrong (rcO o_534 (by decide) rfl) rfl rfl (c_X12_wrong rfl (kt_v ?_))
            refine s_goto (pc := 97) (tgt := 124) dX12_court_97 rfl ?_
            refine s_aload_n (pc := 124) (i := 0) dX12_court_124 rfl rfl ?_
            refine m_v0 (pc := 125) dX12_court_125 lk_X12_131 ok_X12_fine (rcO o_534 (by decide) rfl) rfl rfl (c_X12_fine (fun h => absurd h (nI_m1 (by omega))) (fun h => kt_s ?_))
            · refine s_ifne (pc := 128) (tgt := 134) dX12_court_128 rfl (fun h128 => absurd h128 (by decide)) (fun h128 => ?_)
              refine s_goto (pc := 131) (tgt := 156) dX12_court_131 rfl ?_
              have cl : rCl t N (sk t N a) k D = .inl (1, sk t N a) := by unfold rCl; rw [if_pos ⟨b0, b1, b2⟩]
              rw [cl] at hb
              exact hb (1, sk t N a) I (sk t N a) _ _ _ rfl fM_r (by simp only []; omega)
      · rw [if_pos (by omega)] at hg
        refine s_ifeq (pc := 55) (tgt := 156) dX12_court_55 rfl (fun h55 => ?_) (fun h55 => absurd h55 (by decide))
        exact hg D I _ _ _ _ rfl fM_r hD hk
end S
