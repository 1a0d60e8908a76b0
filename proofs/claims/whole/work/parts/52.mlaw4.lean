section S
variable {g : aG} {d : Nat} {I : Nat → Nat → Int32} {J : Nat → Nat → Int64} {n w : Nat} {Q : aO → aS → Prop}
variable {t : Nat → Nat} {N a : Nat} {bad bk op : Int32} {σ : aS}
theorem mc_n {v : Nat} (h : v < 1000) : mc v = 0 ∧ mo v = v := by unfold mc mo; rw [if_pos h, if_pos h]; exact ⟨rfl, rfl⟩
theorem mc_t {i : Nat} (h : i < 9) : mc (1000 + i) = 1 ∧ mo (1000 + i) = i := by unfold mc mo; rw [if_neg (by omega), if_pos (by omega), if_neg (by omega), if_pos (by omega)]; exact ⟨rfl, by omega⟩
theorem cMd_up {k o : Nat} {mm : aM} {U : Nat → List Nat → lT} (h : cMd g mm k t N U o) : cMd g mm (k + 1) t N U o := by
  intro d I J n w Q a bk cs h1 h2 h3 h4 h5 h6 h7
  rw [show d + (k + 1) = d + 1 + k by omega]
  exact h (d + 1) I J n w Q a bk cs h1 h2 h3 h4 h5 h6 h7
theorem cm_unit6 : cMd g mX12_readUnit 6 t N (lU t N (fun _ _ => .inl (0, 0)) 0) 6 := by
  intro d I J n w Q a bk cs hm ha hN hL hl hb hg
  have hs := sk_le (t := t) ha
  have hss := sk_sk (t := t) (N := N) (a := a)
  have hvl := hv_lt (a := sk t N a) hm
  have hw1 := wE_ge (t := t) (N := N) (a := sk t N a)
  have hw2 := wE_le (t := t) hs
  show Rn g (d + 6) mX12_readUnit 0 [.ref 534, .retAddr 0] [] [] (Z (mp I a (-1) bk (nI 6)) J n w) Q
  refine s_aload_n (pc := 0) (i := 0) dX12_readUnit_0 rfl rfl ?_
  refine m_v0 (pc := 1) dX12_readUnit_1 lk_X12_131 ok_X12_fine (rcO o_534 (by decide) rfl) rfl rfl (c_X12_fine (fun h => kt_s ?_) (fun h => absurd rfl h))
  · refine s_ifne (pc := 4) (tgt := 8) dX12_readUnit_4 rfl (fun h4 => ?_) (fun h4 => absurd h4 (by decide))
    refine s_aload_n (pc := 8) (i := 0) dX12_readUnit_8 rfl rfl ?_
    refine m_v0 (pc := 9) dX12_readUnit_9 lk_X12_114 ok_X12_here (rcO o_534 (by decide) rfl) rfl rfl (c_X12_here hm ha (kt_s ?_))
    refine m_bi (pc := 12) (v := 40) dX12_readUnit_12 rfl ?_
    refine s_icne (pc := 14) (tgt := 45) dX12_readUnit_14 rfl (fun h14 => ?_) (fun h14 => ?_)
    · rw [show (40 : Int32) = nI 40 from rfl, nI_eq (by omega) (by omega)] at h14
      have np : ¬ (sk t N a < N ∧ t (sk t N a) = 40) := hv_no h14
      refine s_aload_n (pc := 45) (i := 0) dX12_readUnit_45 rfl rfl ?_
      refine m_v0 (pc := 46) dX12_readUnit_46 lk_X12_114 ok_X12_here (rcO o_534 (by decide) rfl) rfl rfl (c_X12_here hm hs (kt_s ?_))
      rw [hss]
      refine m_s1 (pc := 49) dX12_readUnit_49 lk_X12_135 ok_X12_isDigit rfl rfl (c_X12_isDigit hvl (fun h => kt_s ?_) (fun h => kt_s ?_))
      · have hd : sk t N a < N ∧ dg (t (sk t N a)) = true := by
          unfold hv at h
          split at h
          · exact ⟨by assumption, h⟩
          · simp [dg] at h
        refine s_ifeq (pc := 52) (tgt := 71) dX12_readUnit_52 rfl (fun h52 => absurd h52 (by decide)) (fun h52 => ?_)
        refine s_aload_n (pc := 55) (i := 0) dX12_readUnit_55 rfl rfl ?_
        refine m_ic (pc := 56) (v := 0) dX12_readUnit_56 rfl ?_
        refine s_aload_n (pc := 57) (i := 0) dX12_readUnit_57 rfl rfl ?_
        refine m_ic (pc := 58) (v := 0) dX12_readUnit_58 rfl ?_
        refine m_si (pc := 59) (v := 999) dX12_readUnit_59 rfl ?_
        refine m_v2 (pc := 62) dX12_readUnit_62 lk_X12_188 ok_X12_readNumber (rcO o_534 (by decide) rfl) rfl rfl (c_rn2 hm hs (lo1 := 0) (hi1 := 1000) rfl rfl (by decide) (fun e a1 q1 q2 q3 => kt_s ?_) (fun v1 a1 q1 hv1 hv2 ha1 hl1 => kt_s ?_))
        · rw [hss] at q1
          refine m_v2 (pc := 65) dX12_readUnit_65 lk_X12_236 ok_X12_emit (rcO o_534 (by decide) rfl) rfl rfl (c_emit_n (nI_m1 (by omega)) (kt_v ?_))
          refine s_goto (pc := 68) (tgt := 154) dX12_readUnit_68 rfl ?_
          refine s_return (pc := 154) dX12_readUnit_154 rfl ?_
          exact hb e a1 I _ (by unfold lU; rw [if_pos hd]; unfold lUn; rw [q1]) q3 fM_r
        · rw [hss] at q1 hl1
          refine m_v2 (pc := 65) dX12_readUnit_65 lk_X12_236 ok_X12_emit (rcO o_534 (by decide) rfl) rfl rfl (c_X12_emit (v := v1) hm hL (by omega) (by rw [(mc_n hv2).1]; rfl) (by rw [(mc_n hv2).2]) (fun I2 r1 r2 => kt_v ?_))
          refine s_goto (pc := 68) (tgt := 154) dX12_readUnit_68 rfl ?_
          refine s_return (pc := 154) dX12_readUnit_154 rfl ?_
          exact hg a1 _ I2 (by unfold lU; rw [if_pos hd]; unfold lUn; rw [q1]) ha1 r1 r2
      · have nd : ¬ (sk t N a < N ∧ dg (t (sk t N a)) = true) := by
          rintro ⟨z1, z2⟩
          unfold hv at h
          rw [if_pos z1, z2] at h
          cases h
        refine s_ifeq (pc := 52) (tgt := 71) dX12_readUnit_52 rfl (fun h52 => ?_) (fun h52 => absurd h52 (by decide))
        refine s_aload_n (pc := 71) (i := 0) dX12_readUnit_71 rfl rfl ?_
        refine m_v0 (pc := 72) dX12_readUnit_72 lk_X12_208 ok_X12_wordHere (rcO o_534 (by decide) rfl) rfl rfl (c_X12_wordHere hm hs (kt_s ?_))
        rw [hss]
        refine s_ldcSw (pc := 75) (j := 11) dX12_readUnit_75 sr_X12_264 rfl ?_
        refine m_s1 (pc := 78) dX12_readUnit_78 lk_X12_183 ok_X12_of rfl rfl (c_of (j := 11) rfl (by decide) (by decide) (kt_s ?_))
        refine s_icne (pc := 81) (tgt := 94) dX12_readUnit_81 rfl (fun x11 => ?_) (fun x11 => ?_)
        · have b11 : wB t N (sk t N a) 11 = false := wB_f.mpr (fun z => x11 ((wv_oc hs (by decide) (by decide +kernel)).mpr z))
          refine s_aload_n (pc := 94) (i := 0) dX12_readUnit_94 rfl rfl ?_
          refine m_v0 (pc := 95) dX12_readUnit_95 lk_X12_208 ok_X12_wordHere (rcO o_534 (by decide) rfl) rfl rfl (c_X12_wordHere hm hs (kt_s ?_))
          rw [hss]
          refine s_ldcSw (pc := 98) (j := 12) dX12_readUnit_98 sr_X12_269 rfl ?_
          refine m_s1 (pc := 101) dX12_readUnit_101 lk_X12_183 ok_X12_of rfl rfl (c_of (j := 12) rfl (by decide) (by decide) (kt_s ?_))
          refine s_icne (pc := 104) (tgt := 117) dX12_readUnit_104 rfl (fun x12 => ?_) (fun x12 => ?_)
          · have b12 : wB t N (sk t N a) 12 = false := wB_f.mpr (fun z => x12 ((wv_oc hs (by decide) (by decide +kernel)).mpr z))
            have nw : ¬ (wB t N (sk t N a) 11 = true ∨ wB t N (sk t N a) 12 = true) := by rw [b11, b12]; decide
            refine s_aload_n (pc := 117) (i := 0) dX12_readUnit_117 rfl rfl ?_
            refine m_v0 (pc := 118) dX12_readUnit_118 lk_X12_271 ok_X12_factHere (rcO o_534 (by decide) rfl) rfl rfl (c_X12_factHere hm hs (fun h5 => kt_s ?_) (fun i h5 => kt_s ?_))
            · rw [hss] at h5 ⊢
              refine s_istore_n (pc := 121) (i := 1) dX12_readUnit_121 rfl (Nat.le_of_ble_eq_true rfl) ?_
              dsimp only [List.set, List.filter]
              refine s_iload_n (pc := 122) (i := 1) dX12_readUnit_122 rfl rfl ?_
              refine m_ic (pc := 123) (v := -1) dX12_readUnit_123 rfl ?_
              refine s_icne (pc := 124) (tgt := 136) dX12_readUnit_124 rfl (fun h124 => absurd h124 (by decide)) (fun h124 => ?_)
              refine s_aload_n (pc := 127) (i := 0) dX12_readUnit_127 rfl rfl ?_
              refine m_ic (pc := 128) (v := 1) dX12_readUnit_128 rfl ?_
              refine s_aload_n (pc := 129) (i := 0) dX12_readUnit_129 rfl rfl ?_
              refine m_gi (pc := 130) dX12_readUnit_130 ff_X12_108 rfl o_534 ?_
              refine m_nm (v' := nI (sk t N a)) rfl ?_
              refine m_v2 (pc := 133) dX12_readUnit_133 lk_X12_138 ok_X12_wrong (rcO o_534 (by decide) rfl) rfl rfl (c_X12_wrong rfl (kt_v ?_))
              refine s_aload_n (pc := 136) (i := 0) dX12_readUnit_136 rfl rfl ?_
              refine m_v0 (pc := 137) dX12_readUnit_137 lk_X12_131 ok_X12_fine (rcO o_534 (by decide) rfl) rfl rfl (c_X12_fine (fun h => absurd h (nI_m1 (by omega))) (fun h => kt_s ?_))
              · refine s_ifne (pc := 140) (tgt := 144) dX12_readUnit_140 rfl (fun h140 => absurd h140 (by decide)) (fun h140 => ?_)
                refine s_return (pc := 143) dX12_readUnit_143 rfl ?_
                exact hb (1, sk t N a) _ I _ (by unfold lU; rw [if_neg nd, if_neg np, if_neg nw]; unfold lUw; rw [h5]) (by simp only []; omega) fM_r
            · rw [hss] at h5 ⊢
              have gi := thW_gt h5
              refine s_istore_n (pc := 121) (i := 1) dX12_readUnit_121 rfl (Nat.le_of_ble_eq_true rfl) ?_
              dsimp only [List.set, List.filter]
              refine s_iload_n (pc := 122) (i := 1) dX12_readUnit_122 rfl rfl ?_
              refine m_ic (pc := 123) (v := -1) dX12_readUnit_123 rfl ?_
              refine s_icne (pc := 124) (tgt := 136) dX12_readUnit_124 rfl (fun h124 => ?_) (fun h124 => absurd h124 (nI_m1 (by omega)))
              refine s_aload_n (pc := 136) (i := 0) dX12_readUnit_136 rfl rfl ?_
              refine m_v0 (pc := 137) dX12_readUnit_137 lk_X12_131 ok_X12_fine (rcO o_534 (by decide) rfl) rfl rfl (c_X12_fine (fun h => kt_s ?_) (fun h => absurd rfl h))
              · refine s_ifne (pc := 140) (tgt := 144) dX12_readUnit_140 rfl (fun h140 => ?_) (fun h140 => absurd h140 (by decide))
                refine s_aload_n (pc := 144) (i := 0) dX12_readUnit_144 rfl rfl ?_
                refine m_v0 (pc := 145) dX12_readUnit_145 lk_X12_217 ok_X12_pass (rcO o_534 (by decide) rfl) rfl rfl (c_X12_pass hm hs (kt_v ?_))
                refine s_aload_n (pc := 148) (i := 0) dX12_readUnit_148 rfl rfl ?_
                refine m_ic (pc := 149) (v := 1) dX12_readUnit_149 rfl ?_
                refine s_iload_n (pc := 150) (i := 1) dX12_readUnit_150 rfl rfl ?_
                refine m_v2 (pc := 151) dX12_readUnit_151 lk_X12_236 ok_X12_emit (rcO o_534 (by decide) rfl) rfl rfl (c_X12_emit (v := 1000 + i) hm hL (by omega) (by rw [(mc_t gi.2).1]; rfl) (by rw [(mc_t gi.2).2]) (fun I2 r1 r2 => kt_v ?_))
                refine s_return (pc := 154) dX12_readUnit_154 rfl ?_
                exact hg _ _ I2 (by unfold lU; rw [if_neg nd, if_neg np, if_neg nw]; unfold lUw; rw [h5]) hw2 r1 r2
          · have hm12 := (wv_oc hs (by decide) (by decide +kernel)).mp x12
            have hwe : wE t N (sk t N a) = sk t N a + sl 12 := by have q1 := hm12.1; have q2 := wE_ge (t := t) (N := N) (a := sk t N a); omega
            have hsl : sl 12 = 4 := by decide +kernel
            have b12 : wB t N (sk t N a) 12 = true := wB_m.mpr hm12
            have hw : wB t N (sk t N a) 11 = true ∨ wB t N (sk t N a) 12 = true := Or.inr b12
            refine s_aload_n (pc := 107) (i := 0) dX12_readUnit_107 rfl rfl ?_
            refine m_ic (pc := 108) (v := 4) dX12_readUnit_108 rfl ?_
            refine m_bi (pc := 109) (v := 7) dX12_readUnit_109 rfl ?_
            refine m_v2 (pc := 111) dX12_readUnit_111 lk_X12_266 ok_X12_readTwo (rcO o_534 (by decide) rfl) rfl rfl (c_two6 (by omega) (fun op2 => kt_v ?_))
            · refine s_goto (pc := 114) (tgt := 154) dX12_readUnit_114 rfl ?_
              refine s_return (pc := 154) dX12_readUnit_154 rfl ?_
              exact hb (3, sk t N a) _ I _ (by unfold lU; rw [if_neg nd, if_neg np, if_pos hw, if_pos rfl]) (by simp only []; omega) fM_r
        · have hm11 := (wv_oc hs (by decide) (by decide +kernel)).mp x11
          have hwe : wE t N (sk t N a) = sk t N a + sl 11 := by have q1 := hm11.1; have q2 := wE_ge (t := t) (N := N) (a := sk t N a); omega
          have hsl : sl 11 = 5 := by decide +kernel
          have b11 : wB t N (sk t N a) 11 = true := wB_m.mpr hm11
          have hw : wB t N (sk t N a) 11 = true ∨ wB t N (sk t N a) 12 = true := Or.inl b11
          refine s_aload_n (pc := 84) (i := 0) dX12_readUnit_84 rfl rfl ?_
          refine m_ic (pc := 85) (v := 5) dX12_readUnit_85 rfl ?_
          refine m_bi (pc := 86) (v := 6) dX12_readUnit_86 rfl ?_
          refine m_v2 (pc := 88) dX12_readUnit_88 lk_X12_266 ok_X12_readTwo (rcO o_534 (by decide) rfl) rfl rfl (c_two6 (by omega) (fun op2 => kt_v ?_))
          · refine s_goto (pc := 91) (tgt := 154) dX12_readUnit_91 rfl ?_
            refine s_return (pc := 154) dX12_readUnit_154 rfl ?_
            exact hb (3, sk t N a) _ I _ (by unfold lU; rw [if_neg nd, if_neg np, if_pos hw, if_pos rfl]) (by simp only []; omega) fM_r
    · rw [show (40 : Int32) = nI 40 from rfl, nI_eq (by omega) (by omega)] at h14
      obtain ⟨h3, h4⟩ := hv_is (by decide) h14
      have nd : ¬ (sk t N a < N ∧ dg (t (sk t N a)) = true) := by rintro ⟨z1, z2⟩; rw [h4] at z2; cases z2
      have hk := sk_le (t := t) (N := N) (a := sk t N a + 1) (by omega)
      have hk2 := sk_ge (t := t) (N := N) (a := sk t N a + 1)
      refine s_aload_n (pc := 17) (i := 0) dX12_readUnit_17 rfl rfl ?_
      refine m_ic (pc := 18) (v := 1) dX12_readUnit_18 rfl ?_
      refine m_v1 (pc := 19) dX12_readUnit_19 lk_X12_242 ok_X12_opensOne (rcO o_534 (by decide) rfl) rfl rfl (c_open6 rfl (by omega) (kt_v ?_))
      refine s_aload_n (pc := 22) (i := 0) dX12_readUnit_22 rfl rfl ?_
      refine m_v0 (pc := 23) dX12_readUnit_23 lk_X12_245 ok_X12_readSum (rcO o_534 (by decide) rfl) rfl rfl (c_sum_n (nI_m1 (by omega)) (kt_v ?_))
      refine s_aload_n (pc := 26) (i := 0) dX12_readUnit_26 rfl rfl ?_
      refine m_bi (pc := 27) (v := 41) dX12_readUnit_27 rfl ?_
      refine m_v1 (pc := 29) dX12_readUnit_29 lk_X12_223 ok_X12_sign (rcO o_534 (by decide) rfl) rfl rfl (c_X12_sign_n (nI_m1 (by omega)) (kt_v ?_))
      refine s_aload_n (pc := 32) (i := 0) dX12_readUnit_32 rfl rfl ?_
      refine s_dup (pc := 33) dX12_readUnit_33 rfl ?_
      refine m_gi (pc := 34) dX12_readUnit_34 ff_X12_142 rfl o_534 ?_
      refine m_nm (v' := 7) rfl ?_
      refine m_ic (pc := 37) (v := 1) dX12_readUnit_37 rfl ?_
      refine s_isub (pc := 38) dX12_readUnit_38 ?_
      refine m_nm (v' := 7 - 1) (rfl) ?_
      refine m_pi (pc := 39) dX12_readUnit_39 ff_X12_142 rfl rfl o_534 ?_
      refine Rs_cg mp_o ?_
      refine s_goto (pc := 42) (tgt := 154) dX12_readUnit_42 rfl ?_
      refine s_return (pc := 154) dX12_readUnit_154 rfl ?_
      exact hb (3, sk t N a) _ I _ (by unfold lU; rw [if_neg nd, if_pos ⟨h3, h4⟩, if_pos rfl]) (by simp only []; omega) fM_r
theorem cm_unit {k o L : Nat} {S : Nat → List Nat → lT} (hS : cMd g mX12_readSum (k + 6) t N S (o + 1)) (hG : gU N S) (ho : o < 6) (hL0 : L ≠ 0) : cMd g mX12_readUnit (k + 8) t N (lU t N S L) o := by
  have hS7 := cMd_up hS
  intro d I J n w Q a bk cs hm ha hN hL hl hb hg
  have hs := sk_le (t := t) ha
  have hss := sk_sk (t := t) (N := N) (a := a)
  have hvl := hv_lt (a := sk t N a) hm
  have hw1 := wE_ge (t := t) (N := N) (a := sk t N a)
  have hw2 := wE_le (t := t) hs
  show Rn g (d + (k + 8)) mX12_readUnit 0 [.ref 534, .retAddr 0] [] [] (Z (mp I a (-1) bk (nI o)) J n w) Q
  refine s_aload_n (pc := 0) (i := 0) dX12_readUnit_0 rfl rfl ?_
  refine m_v0 (pc := 1) dX12_readUnit_1 lk_X12_131 ok_X12_fine (rcO o_534 (by decide) rfl) rfl rfl (c_X12_fine (fun h => kt_s ?_) (fun h => absurd rfl h))
  · refine s_ifne (pc := 4) (tgt := 8) dX12_readUnit_4 rfl (fun h4 => ?_) (fun h4 => absurd h4 (by decide))
    refine s_aload_n (pc := 8) (i := 0) dX12_readUnit_8 rfl rfl ?_
    refine m_v0 (pc := 9) dX12_readUnit_9 lk_X12_114 ok_X12_here (rcO o_534 (by decide) rfl) rfl rfl (c_X12_here hm ha (kt_s ?_))
    refine m_bi (pc := 12) (v := 40) dX12_readUnit_12 rfl ?_
    refine s_icne (pc := 14) (tgt := 45) dX12_readUnit_14 rfl (fun h14 => ?_) (fun h14 => ?_)
    · rw [show (40 : Int32) = nI 40 from rfl, nI_eq (by omega) (by omega)] at h14
      have np : ¬ (sk t N a < N ∧ t (sk t N a) = 40) := hv_no h14
      refine s_aload_n (pc := 45) (i := 0) dX12_readUnit_45 rfl rfl ?_
      refine m_v0 (pc := 46) dX12_readUnit_46 lk_X12_114 ok_X12_here (rcO o_534 (by decide) rfl) rfl rfl (c_X12_here hm hs (kt_s ?_))
      rw [hss]
      refine m_s1 (pc := 49) dX12_readUnit_49 lk_X12_135 ok_X12_isDigit rfl rfl (c_X12_isDigit hvl (fun h => kt_s ?_) (fun h => kt_s ?_))
      · have hd : sk t N a < N ∧ dg (t (sk t N a)) = true := by
          unfold hv at h
          split at h
          · exact ⟨by assumption, h⟩
          · simp [dg] at h
        refine s_ifeq (pc := 52) (tgt := 71) dX12_readUnit_52 rfl (fun h52 => absurd h52 (by decide)) (fun h52 => ?_)
        refine s_aload_n (pc := 55) (i := 0) dX12_readUnit_55 rfl rfl ?_
        refine m_ic (pc := 56) (v := 0) dX12_readUnit_56 rfl ?_
        refine s_aload_n (pc := 57) (i := 0) dX12_readUnit_57 rfl rfl ?_
        refine m_ic (pc := 58) (v := 0) dX12_readUnit_58 rfl ?_
        refine m_si (pc := 59) (v := 999) dX12_readUnit_59 rfl ?_
        refine m_v2 (pc := 62) dX12_readUnit_62 lk_X12_188 ok_X12_readNumber (rcO o_534 (by decide) rfl) rfl rfl (c_rn2 hm hs (lo1 := 0) (hi1 := 1000) rfl rfl (by decide) (fun e a1 q1 q2 q3 => kt_s ?_) (fun v1 a1 q1 hv1 hv2 ha1 hl1 => kt_s ?_))
        · rw [hss] at q1
          refine m_v2 (pc := 65) dX12_readUnit_65 lk_X12_236 ok_X12_emit (rcO o_534 (by decide) rfl) rfl rfl (c_emit_n (nI_m1 (by omega)) (kt_v ?_))
          refine s_goto (pc := 68) (tgt := 154) dX12_readUnit_68 rfl ?_
          refine s_return (pc := 154) dX12_readUnit_154 rfl ?_
          exact hb e a1 I _ (by unfold lU; rw [if_pos hd]; unfold lUn; rw [q1]) q3 fM_r
        · rw [hss] at q1 hl1
          refine m_v2 (pc := 65) dX12_readUnit_65 lk_X12_236 ok_X12_emit (rcO o_534 (by decide) rfl) rfl rfl (c_X12_emit (v := v1) hm hL (by omega) (by rw [(mc_n hv2).1]; rfl) (by rw [(mc_n hv2).2]) (fun I2 r1 r2 => kt_v ?_))
          refine s_goto (pc := 68) (tgt := 154) dX12_readUnit_68 rfl ?_
          refine s_return (pc := 154) dX12_readUnit_154 rfl ?_
          exact hg a1 _ I2 (by unfold lU; rw [if_pos hd]; unfold lUn; rw [q1]) ha1 r1 r2
      · have nd : ¬ (sk t N a < N ∧ dg (t (sk t N a)) = true) := by
          rintro ⟨z1, z2⟩
          unfold hv at h
          rw [if_pos z1, z2] at h
          cases h
        refine s_ifeq (pc := 52) (tgt := 71) dX12_readUnit_52 rfl (fun h52 => ?_) (fun h52 => absurd h52 (by decide))
        refine s_aload_n (pc := 71) (i := 0) dX12_readUnit_71 rfl rfl ?_
        refine m_v0 (pc := 72) dX12_readUnit_72 lk_X12_208 ok_X12_wordHere (rcO o_534 (by decide) rfl) rfl rfl (c_X12_wordHere hm hs (kt_s ?_))
        rw [hss]
        refine s_ldcSw (pc := 75) (j := 11) dX12_readUnit_75 sr_X12_264 rfl ?_
        refine m_s1 (pc := 78) dX12_readUnit_78 lk_X12_183 ok_X12_of rfl rfl (c_of (j := 11) rfl (by decide) (by decide) (kt_s ?_))
        refine s_icne (pc := 81) (tgt := 94) dX12_readUnit_81 rfl (fun x11 => ?_) (fun x11 => ?_)
        · have b11 : wB t N (sk t N a) 11 = false := wB_f.mpr (fun z => x11 ((wv_oc hs (by decide) (by decide +kernel)).mpr z))
          refine s_aload_n (pc := 94) (i := 0) dX12_readUnit_94 rfl rfl ?_
          refine m_v0 (pc := 95) dX12_readUnit_95 lk_X12_208 ok_X12_wordHere (rcO o_534 (by decide) rfl) rfl rfl (c_X12_wordHere hm hs (kt_s ?_))
          rw [hss]
          refine s_ldcSw (pc := 98) (j := 12) dX12_readUnit_98 sr_X12_269 rfl ?_
          refine m_s1 (pc := 101) dX12_readUnit_101 lk_X12_183 ok_X12_of rfl rfl (c_of (j := 12) rfl (by decide) (by decide) (kt_s ?_))
          refine s_icne (pc := 104) (tgt := 117) dX12_readUnit_104 rfl (fun x12 => ?_) (fun x12 => ?_)
          · have b12 : wB t N (sk t N a) 12 = false := wB_f.mpr (fun z => x12 ((wv_oc hs (by decide) (by decide +kernel)).mpr z))
            have nw : ¬ (wB t N (sk t N a) 11 = true ∨ wB t N (sk t N a) 12 = true) := by rw [b11, b12]; decide
            refine s_aload_n (pc := 117) (i := 0) dX12_readUnit_117 rfl rfl ?_
            refine m_v0 (pc := 118) dX12_readUnit_118 lk_X12_271 ok_X12_factHere (rcO o_534 (by decide) rfl) rfl rfl (c_X12_factHere hm hs (fun h5 => kt_s ?_) (fun i h5 => kt_s ?_))
            · rw [hss] at h5 ⊢
              refine s_istore_n (pc := 121) (i := 1) dX12_readUnit_121 rfl (Nat.le_of_ble_eq_true rfl) ?_
              dsimp only [List.set, List.filter]
              refine s_iload_n (pc := 122) (i := 1) dX12_readUnit_122 rfl rfl ?_
              refine m_ic (pc := 123) (v := -1) dX12_readUnit_123 rfl ?_
              refine s_icne (pc := 124) (tgt := 136) dX12_readUnit_124 rfl (fun h124 => absurd h124 (by decide)) (fun h124 => ?_)
              refine s_aload_n (pc := 127) (i := 0) dX12_readUnit_127 rfl rfl ?_
              refine m_ic (pc := 128) (v := 1) dX12_readUnit_128 rfl ?_
              refine s_aload_n (pc := 129) (i := 0) dX12_readUnit_129 rfl rfl ?_
              refine m_gi (pc := 130) dX12_readUnit_130 ff_X12_108 rfl o_534 ?_
              refine m_nm (v' := nI (sk t N a)) rfl ?_
              refine m_v2 (pc := 133) dX12_readUnit_133 lk_X12_138 ok_X12_wrong (rcO o_534 (by decide) rfl) rfl rfl (c_X12_wrong rfl (kt_v ?_))
              refine s_aload_n (pc := 136) (i := 0) dX12_readUnit_136 rfl rfl ?_
              refine m_v0 (pc := 137) dX12_readUnit_137 lk_X12_131 ok_X12_fine (rcO o_534 (by decide) rfl) rfl rfl (c_X12_fine (fun h => absurd h (nI_m1 (by omega))) (fun h => kt_s ?_))
              · refine s_ifne (pc := 140) (tgt := 144) dX12_readUnit_140 rfl (fun h140 => absurd h140 (by decide)) (fun h140 => ?_)
                refine s_return (pc := 143) dX12_readUnit_143 rfl ?_
                exact hb (1, sk t N a) _ I _ (by unfold lU; rw [if_neg nd, if_neg np, if_neg nw]; unfold lUw; rw [h5]) (by simp only []; omega) fM_r
            · rw [hss] at h5 ⊢
              have gi := thW_gt h5
              refine s_istore_n (pc := 121) (i := 1) dX12_readUnit_121 rfl (Nat.le_of_ble_eq_true rfl) ?_
              dsimp only [List.set, List.filter]
              refine s_iload_n (pc := 122) (i := 1) dX12_readUnit_122 rfl rfl ?_
              refine m_ic (pc := 123) (v := -1) dX12_readUnit_123 rfl ?_
              refine s_icne (pc := 124) (tgt := 136) dX12_readUnit_124 rfl (fun h124 => ?_) (fun h124 => absurd h124 (nI_m1 (by omega)))
              refine s_aload_n (pc := 136) (i := 0) dX12_readUnit_136 rfl rfl ?_
              refine m_v0 (pc := 137) dX12_readUnit_137 lk_X12_131 ok_X12_fine (rcO o_534 (by decide) rfl) rfl rfl (c_X12_fine (fun h => kt_s ?_) (fun h => absurd rfl h))
              · refine s_ifne (pc := 140) (tgt := 144) dX12_readUnit_140 rfl (fun h140 => ?_) (fun h140 => absurd h140 (by decide))
                refine s_aload_n (pc := 144) (i := 0) dX12_readUnit_144 rfl rfl ?_
                refine m_v0 (pc := 145) dX12_readUnit_145 lk_X12_217 ok_X12_pass (rcO o_534 (by decide) rfl) rfl rfl (c_X12_pass hm hs (kt_v ?_))
                refine s_aload_n (pc := 148) (i := 0) dX12_readUnit_148 rfl rfl ?_
                refine m_ic (pc := 149) (v := 1) dX12_readUnit_149 rfl ?_
                refine s_iload_n (pc := 150) (i := 1) dX12_readUnit_150 rfl rfl ?_
                refine m_v2 (pc := 151) dX12_readUnit_151 lk_X12_236 ok_X12_emit (rcO o_534 (by decide) rfl) rfl rfl (c_X12_emit (v := 1000 + i) hm hL (by omega) (by rw [(mc_t gi.2).1]; rfl) (by rw [(mc_t gi.2).2]) (fun I2 r1 r2 => kt_v ?_))
                refine s_return (pc := 154) dX12_readUnit_154 rfl ?_
                exact hg _ _ I2 (by unfold lU; rw [if_neg nd, if_neg np, if_neg nw]; unfold lUw; rw [h5]) hw2 r1 r2
          · have hm12 := (wv_oc hs (by decide) (by decide +kernel)).mp x12
            have hwe : wE t N (sk t N a) = sk t N a + sl 12 := by have q1 := hm12.1; have q2 := wE_ge (t := t) (N := N) (a := sk t N a); omega
            have hsl : sl 12 = 4 := by decide +kernel
            have b12 : wB t N (sk t N a) 12 = true := wB_m.mpr hm12
            have hw : wB t N (sk t N a) 11 = true ∨ wB t N (sk t N a) 12 = true := Or.inr b12
            refine s_aload_n (pc := 107) (i := 0) dX12_readUnit_107 rfl rfl ?_
            refine m_ic (pc := 108) (v := 4) dX12_readUnit_108 rfl ?_
            refine m_bi (pc := 109) (v := 7) dX12_readUnit_109 rfl ?_
            refine m_v2 (pc := 111) dX12_readUnit_111 lk_X12_266 ok_X12_readTwo (rcO o_534 (by decide) rfl) rfl rfl (c_two (b := 4) (v := 2001) hS hG ho hm hN hL hs hl (hwe.trans (by rw [hsl])) (by decide) rfl rfl rfl (by rw [if_neg (by rw [b11]; decide)]) (fun e a' I' op' z1 z2 z3 => kt_v ?_) (fun a' c2 I' z1 z2 z3 z4 => kt_v ?_))
            · refine s_goto (pc := 114) (tgt := 154) dX12_readUnit_114 rfl ?_
              refine s_return (pc := 154) dX12_readUnit_154 rfl ?_
              exact hb e a' I' op' (by unfold lU; rw [if_neg nd, if_neg np, if_pos hw, if_neg hL0]; exact z1) z2 z3
            · refine s_goto (pc := 114) (tgt := 154) dX12_readUnit_114 rfl ?_
              refine s_return (pc := 154) dX12_readUnit_154 rfl ?_
              exact hg a' c2 I' (by unfold lU; rw [if_neg nd, if_neg np, if_pos hw, if_neg hL0]; exact z1) z2 z3 z4
        · have hm11 := (wv_oc hs (by decide) (by decide +kernel)).mp x11
          have hwe : wE t N (sk t N a) = sk t N a + sl 11 := by have q1 := hm11.1; have q2 := wE_ge (t := t) (N := N) (a := sk t N a); omega
          have hsl : sl 11 = 5 := by decide +kernel
          have b11 : wB t N (sk t N a) 11 = true := wB_m.mpr hm11
          have hw : wB t N (sk t N a) 11 = true ∨ wB t N (sk t N a) 12 = true := Or.inl b11
          refine s_aload_n (pc := 84) (i := 0) dX12_readUnit_84 rfl rfl ?_
          refine m_ic (pc := 85) (v := 5) dX12_readUnit_85 rfl ?_
          refine m_bi (pc := 86) (v := 6) dX12_readUnit_86 rfl ?_
          refine m_v2 (pc := 88) dX12_readUnit_88 lk_X12_266 ok_X12_readTwo (rcO o_534 (by decide) rfl) rfl rfl (c_two (b := 5) (v := 2000) hS hG ho hm hN hL hs hl (hwe.trans (by rw [hsl])) (by decide) rfl rfl rfl (by rw [if_pos b11]) (fun e a' I' op' z1 z2 z3 => kt_v ?_) (fun a' c2 I' z1 z2 z3 z4 => kt_v ?_))
          · refine s_goto (pc := 91) (tgt := 154) dX12_readUnit_91 rfl ?_
            refine s_return (pc := 154) dX12_readUnit_154 rfl ?_
            exact hb e a' I' op' (by unfold lU; rw [if_neg nd, if_neg np, if_pos hw, if_neg hL0]; exact z1) z2 z3
          · refine s_goto (pc := 91) (tgt := 154) dX12_readUnit_91 rfl ?_
            refine s_return (pc := 154) dX12_readUnit_154 rfl ?_
            exact hg a' c2 I' (by unfold lU; rw [if_neg nd, if_neg np, if_pos hw, if_neg hL0]; exact z1) z2 z3 z4
    · rw [show (40 : Int32) = nI 40 from rfl, nI_eq (by omega) (by omega)] at h14
      obtain ⟨h3, h4⟩ := hv_is (by decide) h14
      have nd : ¬ (sk t N a < N ∧ dg (t (sk t N a)) = true) := by rintro ⟨z1, z2⟩; rw [h4] at z2; cases z2
      have hk := sk_le (t := t) (N := N) (a := sk t N a + 1) (by omega)
      have hk2 := sk_ge (t := t) (N := N) (a := sk t N a + 1)
      refine s_aload_n (pc := 17) (i := 0) dX12_readUnit_17 rfl rfl ?_
      refine m_ic (pc := 18) (v := 1) dX12_readUnit_18 rfl ?_
      refine m_v1 (pc := 19) dX12_readUnit_19 lk_X12_242 ok_X12_opensOne (rcO o_534 (by decide) rfl) rfl rfl (c_X12_opensOne (b := 1) rfl ho rfl (kt_v ?_))
      refine s_aload_n (pc := 22) (i := 0) dX12_readUnit_22 rfl rfl ?_
      refine m_v0 (pc := 23) dX12_readUnit_23 lk_X12_245 ok_X12_readSum (rcO o_534 (by decide) rfl) rfl rfl (hS7 _ _ _ _ _ _ (sk t N a + 1) _ _ hm (by omega) hN hL (by have z0 := hk2; omega) (fun e a2 I2 op2 q2 r2 w2 => kt_v ?_) (fun a2 c2 I2 q2 r2 w2 l2 => kt_v ?_))
      · refine s_aload_n (pc := 26) (i := 0) dX12_readUnit_26 rfl rfl ?_
        refine m_bi (pc := 27) (v := 41) dX12_readUnit_27 rfl ?_
        refine m_v1 (pc := 29) dX12_readUnit_29 lk_X12_223 ok_X12_sign (rcO o_534 (by decide) rfl) rfl rfl (c_X12_sign_n (nI_m1 (by omega)) (kt_v ?_))
        refine s_aload_n (pc := 32) (i := 0) dX12_readUnit_32 rfl rfl ?_
        refine s_dup (pc := 33) dX12_readUnit_33 rfl ?_
        refine m_gi (pc := 34) dX12_readUnit_34 ff_X12_142 rfl o_534 ?_
        refine m_nm (v' := op2) rfl ?_
        refine m_ic (pc := 37) (v := 1) dX12_readUnit_37 rfl ?_
        refine s_isub (pc := 38) dX12_readUnit_38 ?_
        refine m_nm (v' := op2 - 1) (rfl) ?_
        refine m_pi (pc := 39) dX12_readUnit_39 ff_X12_142 rfl rfl o_534 ?_
        refine Rs_cg mp_o ?_
        refine s_goto (pc := 42) (tgt := 154) dX12_readUnit_42 rfl ?_
        refine s_return (pc := 154) dX12_readUnit_154 rfl ?_
        exact hb e _ _ _ (by unfold lU; rw [if_neg nd, if_pos ⟨h3, h4⟩, if_neg hL0]; unfold lUp; rw [q2]) r2 w2
      · refine s_aload_n (pc := 26) (i := 0) dX12_readUnit_26 rfl rfl ?_
        refine m_bi (pc := 27) (v := 41) dX12_readUnit_27 rfl ?_
        refine m_v1 (pc := 29) dX12_readUnit_29 lk_X12_223 ok_X12_sign (rcO o_534 (by decide) rfl) rfl rfl (c_sg (c := 41) (mx_f hm w2) r2 (by decide) (by decide) rfl (fun a3 s3 u3 v3 => kt_v ?_) (fun e s3 u3 v3 => kt_v ?_))
        · refine s_aload_n (pc := 32) (i := 0) dX12_readUnit_32 rfl rfl ?_
          refine s_dup (pc := 33) dX12_readUnit_33 rfl ?_
          refine m_gi (pc := 34) dX12_readUnit_34 ff_X12_142 rfl o_534 ?_
          refine m_nm (v' := (nI (o + 1))) rfl ?_
          refine m_ic (pc := 37) (v := 1) dX12_readUnit_37 rfl ?_
          refine s_isub (pc := 38) dX12_readUnit_38 ?_
          refine m_nm (v' := nI o) (by rw [show (1 : Int32) = nI 1 from rfl, pk_sub (by omega)]; rfl) ?_
          refine m_pi (pc := 39) dX12_readUnit_39 ff_X12_142 rfl rfl o_534 ?_
          refine Rs_cg mp_o ?_
          refine s_goto (pc := 42) (tgt := 154) dX12_readUnit_42 rfl ?_
          refine s_return (pc := 154) dX12_readUnit_154 rfl ?_
          exact hg a3 _ I2 (by unfold lU; rw [if_neg nd, if_pos ⟨h3, h4⟩, if_neg hL0]; unfold lUp; rw [q2]; simp only []; rw [s3]) u3 w2 l2
        · refine s_aload_n (pc := 32) (i := 0) dX12_readUnit_32 rfl rfl ?_
          refine s_dup (pc := 33) dX12_readUnit_33 rfl ?_
          refine m_gi (pc := 34) dX12_readUnit_34 ff_X12_142 rfl o_534 ?_
          refine m_nm (v' := (nI (o + 1))) rfl ?_
          refine m_ic (pc := 37) (v := 1) dX12_readUnit_37 rfl ?_
          refine s_isub (pc := 38) dX12_readUnit_38 ?_
          refine m_nm (v' := nI (o + 1) - 1) (rfl) ?_
          refine m_pi (pc := 39) dX12_readUnit_39 ff_X12_142 rfl rfl o_534 ?_
          refine Rs_cg mp_o ?_
          refine s_goto (pc := 42) (tgt := 154) dX12_readUnit_42 rfl ?_
          refine s_return (pc := 154) dX12_readUnit_154 rfl ?_
          exact hb e _ _ _ (by unfold lU; rw [if_neg nd, if_pos ⟨h3, h4⟩, if_neg hL0]; unfold lUp; rw [q2]; simp only []; rw [s3]) v3 w2
theorem cm_sumL : ∀ L, L ≤ 6 → cMd g mX12_readSum (2 + 4 * L + 6) t N (lS t N L) (6 - L)
  | 0, _ => cm_readSum (k := 1) (cm_readProduct (k := 0) cm_unit6 (gU_U (fun h => absurd rfl h))) (gU_F (gU_U (fun h => absurd rfl h)))
  | L + 1, h => by
    have ih := cm_sumL L (by omega)
    rw [show 6 - L = (6 - (L + 1)) + 1 by omega] at ih
    have u := cm_unit (g := g) (t := t) (N := N) (k := 2 + 4 * L) (o := 6 - (L + 1)) (L := L + 1) ih (gU_S L) (by omega) (by omega)
    have q := cm_readProduct (k := 2 + 4 * L + 2) u (gU_U (fun _ => gU_S L))
    have s := cm_readSum (k := 2 + 4 * L + 3) q (gU_F (gU_U (fun _ => gU_S L)))
    exact s
end S
