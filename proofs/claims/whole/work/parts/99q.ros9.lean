section S
variable {g : aG} {d : Nat} {I : Nat → Nat → Int32} {J : Nat → Nat → Int64} {n w : Nat} {Q : aO → aS → Prop}
variable {S : sD} {D : cD} {cs : List Nat} {u b s t l kn T L : Nat} {gg : Nat → Nat}
theorem nI_d1 {a : Nat} (h : 0 < a) : nI a - 1 = nI (a - 1) := pk_sub (b := 1) h
theorem isi_lp (hW : Wm I D cs S) (hP : plM D u I) (h6 : roM u D ≤ 6) (hT : T = 2 ^ roM u D) (hT6 : T ≤ 64) (hc : ∀ I', f55 I I' → (∀ s, s < T → tbW D cs S u gg kn I' (cb D) s) → Rn g (d + 7) mX12_isSo 43 [.ref 534, .int (nI kn), .int (nI L), .int (nI T), .retAddr 0, .retAddr 0, .retAddr 0, .retAddr 0, .retAddr 0] [] [] (Z I' J n w) Q) : ∀ f i I1, i + f = T → f55 I I1 → (∀ s, s < i → tbW D cs S u gg kn I1 (cb D) s) → Rn g (d + 7) mX12_isSo 2 [.ref 534, .int (nI kn), .int (nI L), .int (nI i), .retAddr 0, .retAddr 0, .retAddr 0, .retAddr 0, .retAddr 0] [] [] (Z I1 J n w) Q := by
  intro f
  induction f with
  | zero =>
    intro i I1 hi hF hM
    have e : T = i := by omega
    subst e
    have hb7 := hW.2.1.1
    have hc12 := hW.2.1.2.1
    refine s_iload_n (pc := 2) (i := 3) dX12_isSo_2 rfl rfl ?_
    refine m_ic (pc := 3) (v := 1) dX12_isSo_3 rfl ?_
    refine s_aload_n (pc := 4) (i := 0) dX12_isSo_4 rfl rfl ?_
    refine m_gi (pc := 5) dX12_isSo_5 ff_X12_394 rfl o_534 ?_
    refine m_nm (v' := nI (roM u D)) ((plM_f hP hF).1) ?_
    refine s_ishl (pc := 8) dX12_isSo_8 ?_
    refine m_nm (v' := nI T) (by rw [hT]; exact sh_1 (by omega)) ?_
    refine s_icge (pc := 9) (tgt := 43) dX12_isSo_9 rfl (fun h9 => ?_) (fun h9 => absurd (nI_le (a := T) (b := T) (by omega) (by omega)) h9)
    exact hc I1 hF hM
  | succ f ih =>
    intro i I1 hi hF hM
    have hb7 := hW.2.1.1
    have hc12 := hW.2.1.2.1
    refine s_iload_n (pc := 2) (i := 3) dX12_isSo_2 rfl rfl ?_
    refine m_ic (pc := 3) (v := 1) dX12_isSo_3 rfl ?_
    refine s_aload_n (pc := 4) (i := 0) dX12_isSo_4 rfl rfl ?_
    refine m_gi (pc := 5) dX12_isSo_5 ff_X12_394 rfl o_534 ?_
    refine m_nm (v' := nI (roM u D)) ((plM_f hP hF).1) ?_
    refine s_ishl (pc := 8) dX12_isSo_8 ?_
    refine m_nm (v' := nI T) (by rw [hT]; exact sh_1 (by omega)) ?_
    refine s_icge (pc := 9) (tgt := 43) dX12_isSo_9 rfl (fun h9 => absurd h9 (nI_ge (a := i) (b := T) (by omega) (by omega))) (fun h9 => ?_)
    refine s_aload_n (pc := 12) (i := 0) dX12_isSo_12 rfl rfl ?_
    refine m_gr (pc := 13) dX12_isSo_13 ff_X12_77 rfl o_534 r_534_43 ?_
    refine s_aload_n (pc := 16) (i := 0) dX12_isSo_16 rfl rfl ?_
    refine m_gi (pc := 17) dX12_isSo_17 ff_X12_154 rfl o_534 ?_
    refine m_nm (v' := nI (cb D)) ((Wm_ro hW (f55_M hF)).1.1) ?_
    refine m_bi (pc := 20) (v := 6) dX12_isSo_20 rfl ?_
    refine s_ishl (pc := 22) dX12_isSo_22 ?_
    refine s_iload_n (pc := 23) (i := 3) dX12_isSo_23 rfl rfl ?_
    refine s_ior (pc := 24) dX12_isSo_24 ?_
    refine m_nm (v' := nI (cb D * 64 + i)) (ix_64 (by omega) (by omega)) ?_
    refine s_iload_n (pc := 25) (i := 3) dX12_isSo_25 rfl rfl ?_
    refine s_ifne (pc := 26) (tgt := 33) dX12_isSo_26 rfl (fun h26 => ?_) (fun h26 => ?_)
    · have h26 : ¬ i = 0 := fun z => h26 ((nI_eq (a := i) (b := 0) (by omega) (by omega)).mpr z)
      refine s_ldcw (pc := 33) dX12_isSo_33 ct_X12_397 ?_
      refine m_nm (v' := nI 99999) (rfl) ?_
      refine m_is (pc := 36) dX12_isSo_36 a_555 (vp_in_nI (n := cb D * 64 + i) (by omega) (by decide)) ?_
      rw [nI_clamp (n := cb D * 64 + i) (by omega)]
      refine m_inc (pc := 37) (v := 1) dX12_isSo_37 rfl rfl ?_
      dsimp only [List.set, List.filter]
      rw [nI_1]
      refine s_goto (pc := 40) (tgt := 2) dX12_isSo_40 rfl ?_
      refine ih (i + 1) _ (by omega) (f55_u hF) (fun s hs => ?_)
      by_cases e : s = i
      · subst e; exact ⟨99999, up_s, mv_N1 (by omega) h26⟩
      · exact tbW_f (hM s (by omega)) (up_k (by omega))
    · have h26 : i = 0 := (nI_eq (a := i) (b := 0) (by omega) (by omega)).mp h26
      refine m_ic (pc := 29) (v := 0) dX12_isSo_29 rfl ?_
      refine m_nm (v' := nI 0) (rfl) ?_
      refine s_goto (pc := 30) (tgt := 36) dX12_isSo_30 rfl ?_
      refine m_is (pc := 36) dX12_isSo_36 a_555 (vp_in_nI (n := cb D * 64 + i) (by omega) (by decide)) ?_
      rw [nI_clamp (n := cb D * 64 + i) (by omega)]
      refine m_inc (pc := 37) (v := 1) dX12_isSo_37 rfl rfl ?_
      dsimp only [List.set, List.filter]
      rw [nI_1]
      refine s_goto (pc := 40) (tgt := 2) dX12_isSo_40 rfl ?_
      refine ih (i + 1) _ (by omega) (f55_u hF) (fun s hs => ?_)
      by_cases e : s = i
      · subst e; exact ⟨0, up_s, by rw [h26]; exact mv_N0⟩
      · exact tbW_f (hM s (by omega)) (up_k (by omega))
theorem ism_lp (hk : kn ≤ 6) (hG : ∀ j, j < kn → I 556 j = nI (gg j) ∧ gg j < 1000) (hb : b < 8) (hs : s < 64) (ht : t < 64) (hc : Rn g (d + 7) mX12_isSo 178 [.ref 534, .int (nI kn), .int (nI L), .int (nI b), .int (nI s), .int (nI l), .int (nI t), .int (flb (alF gg b s t kn)), .int (nI kn)] [] [] (Z I J n w) Q) : ∀ f i, i + f = kn → Rn g (d + 7) mX12_isSo 88 [.ref 534, .int (nI kn), .int (nI L), .int (nI b), .int (nI s), .int (nI l), .int (nI t), .int (flb (alF gg b s t i)), .int (nI i)] [] [] (Z I J n w) Q := by
  intro f
  induction f with
  | zero =>
    intro i hi
    have e : kn = i := by omega
    subst e
    refine s_iload (pc := 88) (i := 8) dX12_isSo_88 rfl ?_
    refine s_iload_n (pc := 90) (i := 1) dX12_isSo_90 rfl rfl ?_
    refine s_icge (pc := 91) (tgt := 178) dX12_isSo_91 rfl (fun h91 => ?_) (fun h91 => absurd (nI_le (a := kn) (b := kn) (by omega) (by omega)) h91)
    exact hc
  | succ f ih =>
    intro i hi
    have hgi := (hG i (by omega)).2
    refine s_iload (pc := 88) (i := 8) dX12_isSo_88 rfl ?_
    refine s_iload_n (pc := 90) (i := 1) dX12_isSo_90 rfl rfl ?_
    refine s_icge (pc := 91) (tgt := 178) dX12_isSo_91 rfl (fun h91 => absurd h91 (nI_ge (a := i) (b := kn) (by omega) (by omega))) (fun h91 => ?_)
    refine s_iload (pc := 94) (i := 7) dX12_isSo_94 rfl ?_
    refine s_ifeq (pc := 96) (tgt := 169) dX12_isSo_96 rfl (fun h96 => ?_) (fun h96 => ?_)
    · have e7 := flb_0 h96
      refine m_ic (pc := 169) (v := 0) dX12_isSo_169 rfl ?_
      refine s_istore (pc := 170) (i := 7) dX12_isSo_170 (Nat.le_of_ble_eq_true rfl) ?_
      dsimp only [List.set, List.filter]
      refine m_inc (pc := 172) (v := 1) dX12_isSo_172 rfl rfl ?_
      dsimp only [List.set, List.filter]
      rw [nI_1]
      refine s_goto (pc := 175) (tgt := 88) dX12_isSo_175 rfl ?_
      have E : alF gg b s t (i + 1) = false := by rw [alF_1, e7]; rfl
      have h := ih (i + 1) (by omega)
      rw [E] at h; exact h
    · have e7 := flb_1 h96
      refine s_iload (pc := 99) (i := 4) dX12_isSo_99 rfl ?_
      refine s_iload (pc := 101) (i := 8) dX12_isSo_101 rfl ?_
      refine s_ishr (pc := 103) dX12_isSo_103 ?_
      refine m_ic (pc := 104) (v := 1) dX12_isSo_104 rfl ?_
      refine s_iand (pc := 105) dX12_isSo_105 ?_
      refine m_nm (v' := if s.testBit i = true then 1 else 0) (tb_1 (by omega) (by omega)) ?_
      refine s_ifeq (pc := 106) (tgt := 165) dX12_isSo_106 rfl (fun h106 => ?_) (fun h106 => ?_)
      · have sy : s.testBit i = false := by
          cases z : s.testBit i with
          | false => rfl
          | true => rw [if_pos z] at h106; exact absurd h106 (by decide)
        refine m_ic (pc := 165) (v := 1) dX12_isSo_165 rfl ?_
        refine s_goto (pc := 166) (tgt := 170) dX12_isSo_166 rfl ?_
        refine s_istore (pc := 170) (i := 7) dX12_isSo_170 (Nat.le_of_ble_eq_true rfl) ?_
        dsimp only [List.set, List.filter]
        refine m_inc (pc := 172) (v := 1) dX12_isSo_172 rfl rfl ?_
        dsimp only [List.set, List.filter]
        rw [nI_1]
        refine s_goto (pc := 175) (tgt := 88) dX12_isSo_175 rfl ?_
        have E : alF gg b s t (i + 1) = true := by rw [alF_1, e7, sy]; rfl
        have h := ih (i + 1) (by omega)
        rw [E] at h; exact h
      · have sy : s.testBit i = true := by
          by_cases z : s.testBit i = true
          · exact z
          · rw [if_neg z] at h106; exact absurd rfl h106
        refine s_aload_n (pc := 109) (i := 0) dX12_isSo_109 rfl rfl ?_
        refine m_gr (pc := 110) dX12_isSo_110 ff_X12_80 rfl o_534 r_534_45 ?_
        refine s_iload (pc := 113) (i := 8) dX12_isSo_113 rfl ?_
        refine m_ia (pc := 115) dX12_isSo_115 a_556 (vp_in_nI (n := i) (by omega) (by decide)) ?_
        refine m_nm (v' := nI (gg i)) (rdI (j := i) ((hG i (by omega)).1) (by omega)) ?_
        refine s_iload_n (pc := 116) (i := 3) dX12_isSo_116 rfl rfl ?_
        refine s_icne (pc := 117) (tgt := 124) dX12_isSo_117 rfl (fun h117 => ?_) (fun h117 => ?_)
        · have h117 : ¬ (gg i) = b := fun z => h117 ((nI_eq (a := gg i) (b := b) (by omega) (by omega)).mpr z)
          refine m_ic (pc := 124) (v := 0) dX12_isSo_124 rfl ?_
          refine s_iload (pc := 125) (i := 6) dX12_isSo_125 rfl ?_
          refine s_iload (pc := 127) (i := 8) dX12_isSo_127 rfl ?_
          refine s_ishr (pc := 129) dX12_isSo_129 ?_
          refine m_ic (pc := 130) (v := 1) dX12_isSo_130 rfl ?_
          refine s_iand (pc := 131) dX12_isSo_131 ?_
          refine m_nm (v' := if t.testBit i = true then 1 else 0) (tb_1 (by omega) (by omega)) ?_
          refine m_ic (pc := 132) (v := 1) dX12_isSo_132 rfl ?_
          refine s_icne (pc := 133) (tgt := 140) dX12_isSo_133 rfl (fun h133 => ?_) (fun h133 => ?_)
          · have ty : t.testBit i = false := by
              cases z : t.testBit i with
              | false => rfl
              | true => rw [if_pos z] at h133; exact absurd rfl h133
            refine m_ic (pc := 140) (v := 0) dX12_isSo_140 rfl ?_
            refine s_iceq (pc := 141) (tgt := 165) dX12_isSo_141 rfl (fun h141 => ?_) (fun h141 => absurd h141 (by decide))
            refine m_ic (pc := 165) (v := 1) dX12_isSo_165 rfl ?_
            refine s_goto (pc := 166) (tgt := 170) dX12_isSo_166 rfl ?_
            refine s_istore (pc := 170) (i := 7) dX12_isSo_170 (Nat.le_of_ble_eq_true rfl) ?_
            dsimp only [List.set, List.filter]
            refine m_inc (pc := 172) (v := 1) dX12_isSo_172 rfl rfl ?_
            dsimp only [List.set, List.filter]
            rw [nI_1]
            refine s_goto (pc := 175) (tgt := 88) dX12_isSo_175 rfl ?_
            have E : alF gg b s t (i + 1) = true := by rw [alF_1, e7, ty, decide_eq_false h117]; simp
            have h := ih (i + 1) (by omega)
            rw [E] at h; exact h
          · have ty : t.testBit i = true := by
              by_cases z : t.testBit i = true
              · exact z
              · rw [if_neg z] at h133; exact absurd h133 (by decide)
            refine m_ic (pc := 136) (v := 1) dX12_isSo_136 rfl ?_
            refine s_goto (pc := 137) (tgt := 141) dX12_isSo_137 rfl ?_
            refine s_iceq (pc := 141) (tgt := 165) dX12_isSo_141 rfl (fun h141 => absurd h141 (by decide)) (fun h141 => ?_)
            refine s_iload (pc := 144) (i := 6) dX12_isSo_144 rfl ?_
            refine s_iload (pc := 146) (i := 8) dX12_isSo_146 rfl ?_
            refine s_ishr (pc := 148) dX12_isSo_148 ?_
            refine m_ic (pc := 149) (v := 1) dX12_isSo_149 rfl ?_
            refine s_iand (pc := 150) dX12_isSo_150 ?_
            refine m_nm (v' := if t.testBit i = true then 1 else 0) (tb_1 (by omega) (by omega)) ?_
            refine s_ifne (pc := 151) (tgt := 169) dX12_isSo_151 rfl (fun h151 => ?_) (fun h151 => absurd h151 (by rw [if_pos ty]; decide))
            refine m_ic (pc := 169) (v := 0) dX12_isSo_169 rfl ?_
            refine s_istore (pc := 170) (i := 7) dX12_isSo_170 (Nat.le_of_ble_eq_true rfl) ?_
            dsimp only [List.set, List.filter]
            refine m_inc (pc := 172) (v := 1) dX12_isSo_172 rfl rfl ?_
            dsimp only [List.set, List.filter]
            rw [nI_1]
            refine s_goto (pc := 175) (tgt := 88) dX12_isSo_175 rfl ?_
            have E : alF gg b s t (i + 1) = false := by rw [alF_1, ty, sy, decide_eq_false h117]; simp
            have h := ih (i + 1) (by omega)
            rw [E] at h; exact h
        · have h117 : (gg i) = b := (nI_eq (a := gg i) (b := b) (by omega) (by omega)).mp h117
          refine m_ic (pc := 120) (v := 1) dX12_isSo_120 rfl ?_
          refine s_goto (pc := 121) (tgt := 125) dX12_isSo_121 rfl ?_
          refine s_iload (pc := 125) (i := 6) dX12_isSo_125 rfl ?_
          refine s_iload (pc := 127) (i := 8) dX12_isSo_127 rfl ?_
          refine s_ishr (pc := 129) dX12_isSo_129 ?_
          refine m_ic (pc := 130) (v := 1) dX12_isSo_130 rfl ?_
          refine s_iand (pc := 131) dX12_isSo_131 ?_
          refine m_nm (v' := if t.testBit i = true then 1 else 0) (tb_1 (by omega) (by omega)) ?_
          refine m_ic (pc := 132) (v := 1) dX12_isSo_132 rfl ?_
          refine s_icne (pc := 133) (tgt := 140) dX12_isSo_133 rfl (fun h133 => ?_) (fun h133 => ?_)
          · have ty : t.testBit i = false := by
              cases z : t.testBit i with
              | false => rfl
              | true => rw [if_pos z] at h133; exact absurd rfl h133
            refine m_ic (pc := 140) (v := 0) dX12_isSo_140 rfl ?_
            refine s_iceq (pc := 141) (tgt := 165) dX12_isSo_141 rfl (fun h141 => absurd h141 (by decide)) (fun h141 => ?_)
            refine s_iload (pc := 144) (i := 6) dX12_isSo_144 rfl ?_
            refine s_iload (pc := 146) (i := 8) dX12_isSo_146 rfl ?_
            refine s_ishr (pc := 148) dX12_isSo_148 ?_
            refine m_ic (pc := 149) (v := 1) dX12_isSo_149 rfl ?_
            refine s_iand (pc := 150) dX12_isSo_150 ?_
            refine m_nm (v' := if t.testBit i = true then 1 else 0) (tb_1 (by omega) (by omega)) ?_
            refine s_ifne (pc := 151) (tgt := 169) dX12_isSo_151 rfl (fun h151 => absurd (if_neg (by rw [ty]; decide)) h151) (fun h151 => ?_)
            refine s_aload_n (pc := 154) (i := 0) dX12_isSo_154 rfl rfl ?_
            refine m_gr (pc := 155) dX12_isSo_155 ff_X12_80 rfl o_534 r_534_45 ?_
            refine s_iload (pc := 158) (i := 8) dX12_isSo_158 rfl ?_
            refine m_ia (pc := 160) dX12_isSo_160 a_556 (vp_in_nI (n := i) (by omega) (by decide)) ?_
            refine m_nm (v' := nI (gg i)) (rdI (j := i) ((hG i (by omega)).1) (by omega)) ?_
            refine s_iload_n (pc := 161) (i := 3) dX12_isSo_161 rfl rfl ?_
            refine s_icle (pc := 162) (tgt := 169) dX12_isSo_162 rfl (fun h162 => ?_) (fun h162 => absurd (nI_le (a := gg i) (b := b) (by omega) (by omega)) h162)
            refine m_ic (pc := 169) (v := 0) dX12_isSo_169 rfl ?_
            refine s_istore (pc := 170) (i := 7) dX12_isSo_170 (Nat.le_of_ble_eq_true rfl) ?_
            dsimp only [List.set, List.filter]
            refine m_inc (pc := 172) (v := 1) dX12_isSo_172 rfl rfl ?_
            dsimp only [List.set, List.filter]
            rw [nI_1]
            refine s_goto (pc := 175) (tgt := 88) dX12_isSo_175 rfl ?_
            have E : alF gg b s t (i + 1) = false := by rw [alF_1, ty, sy, decide_eq_true h117]; simp
            have h := ih (i + 1) (by omega)
            rw [E] at h; exact h
          · have ty : t.testBit i = true := by
              by_cases z : t.testBit i = true
              · exact z
              · rw [if_neg z] at h133; exact absurd h133 (by decide)
            refine m_ic (pc := 136) (v := 1) dX12_isSo_136 rfl ?_
            refine s_goto (pc := 137) (tgt := 141) dX12_isSo_137 rfl ?_
            refine s_iceq (pc := 141) (tgt := 165) dX12_isSo_141 rfl (fun h141 => ?_) (fun h141 => absurd h141 (by decide))
            refine m_ic (pc := 165) (v := 1) dX12_isSo_165 rfl ?_
            refine s_goto (pc := 166) (tgt := 170) dX12_isSo_166 rfl ?_
            refine s_istore (pc := 170) (i := 7) dX12_isSo_170 (Nat.le_of_ble_eq_true rfl) ?_
            dsimp only [List.set, List.filter]
            refine m_inc (pc := 172) (v := 1) dX12_isSo_172 rfl rfl ?_
            dsimp only [List.set, List.filter]
            rw [nI_1]
            refine s_goto (pc := 175) (tgt := 88) dX12_isSo_175 rfl ?_
            have E : alF gg b s t (i + 1) = true := by rw [alF_1, e7, ty, decide_eq_true h117]; simp
            have h := ih (i + 1) (by omega)
            rw [E] at h; exact h
theorem isp_lp (hW : Wm I D cs S) (hP : plM D u I) (h6 : roM u D ≤ 6) (hT : T = 2 ^ roM u D) (hT6 : T ≤ 64)  (hk : kn ≤ roM u D) (hG : ∀ j, j < kn → I 556 j = nI (gg j) ∧ gg j < 1000) (hb : b < cb D) (hs : s < T) (hrow : ∀ s, s < T → tbW D cs S u gg kn I (b + 1) s) (hc : ∀ I' l v6 v7 v8, fm I I' → mvF (cb D) (roM u D) (roW D cs S u) (roR D S) (cK gg kn) b s.testBit l → Rn g (d + 7) mX12_isSo 252 [.ref 534, .int (nI kn), .int (nI L), .int (nI b), .int (nI s), .int (nI l), v6, v7, v8] [] [] (Z I' J n w) Q) : ∀ F t, t < F → ∀ I1 l v7 v8, fm I I1 → t &&& s = t → l ≤ 99999 → (l < 99999 → ∃ f, feF (cb D) (roM u D) (roW D cs S u) (roR D S) (cK gg kn) b s.testBit f ∧ coF (roM u D) (roW D cs S u) f s.testBit = l) → (∀ e, e < T → e &&& s = e → alF gg b s e kn = true → t < e → ∃ y, mvF (cb D) (roM u D) (roW D cs S u) (roR D S) (cK gg kn) (b + 1) (s ^^^ e).testBit y ∧ l ≤ tgF (roM u D) (roW D cs S u) (roR D S) b e + y) → Rn g (d + 7) mX12_isSo 77 [.ref 534, .int (nI kn), .int (nI L), .int (nI b), .int (nI s), .int (nI l), .int (nI t), v7, v8] [] [] (Z I1 J n w) Q := by
  intro F
  induction F with
  | zero => intro t h; exact absurd h (Nat.not_lt_zero _)
  | succ F ih =>
    intro t htF I1 l v7 v8 hF ht hl hl2 h9
    have hb7 := hW.2.1.1
    have hts : t ≤ s := by rw [← ht]; exact Nat.and_le_right
    have hT0 : 0 < T := by omega
    have hxT : s ^^^ t < T := by rw [hT]; exact xo_lt (by omega) (by omega)
    have hx64 : s ^^^ t < 64 := by omega
    obtain ⟨y, hy1, hy2⟩ := hrow (s ^^^ t) hxT
    have hy9 := hy2.1
    have htg := tg_le (t := t) (r := roR D S) (v := roW D cs S u) (b := b) h6 (fun i hi => roW_b hW.2.1 i b hi)
    refine s_iload (pc := 77) (i := 6) dX12_isSo_77 rfl ?_
    refine s_iflt (pc := 79) (tgt := 252) dX12_isSo_79 rfl (fun h79 => absurd h79 (nI_nlt (a := t) (b := 0) (by omega) (by omega))) (fun h79 => ?_)
    refine m_ic (pc := 82) (v := 1) dX12_isSo_82 rfl ?_
    refine s_istore (pc := 83) (i := 7) dX12_isSo_83 (Nat.le_of_ble_eq_true rfl) ?_
    dsimp only [List.set, List.filter]
    refine m_ic (pc := 85) (v := 0) dX12_isSo_85 rfl ?_
    refine s_istore (pc := 86) (i := 8) dX12_isSo_86 (Nat.le_of_ble_eq_true rfl) ?_
    dsimp only [List.set, List.filter]
    refine ism_lp (t := t) (by omega) (fun j hj => ⟨(hF 556 j (by decide) (by decide)).trans (hG j hj).1, (hG j hj).2⟩) (by omega) (by omega) (by omega) ?_ kn 0 (by omega)
    refine s_iload (pc := 178) (i := 7) dX12_isSo_178 rfl ?_
    refine s_ifne (pc := 180) (tgt := 186) dX12_isSo_180 rfl (fun h180 => ?_) (fun h180 => ?_)
    · have al := flb_1 h180
      refine s_aload_n (pc := 186) (i := 0) dX12_isSo_186 rfl rfl ?_
      refine s_iload_n (pc := 187) (i := 3) dX12_isSo_187 rfl rfl ?_
      refine s_iload (pc := 188) (i := 6) dX12_isSo_188 rfl ?_
      refine m_v2 (pc := 190) dX12_isSo_190 lk_X12_401 ok_X12_togetherFor (rcO o_534 (by decide) rfl) rfl rfl (c_X12_togetherFor (Wm_fm hW hF) (plM_f hP (f55_m hF)) h6 hb (by omega) (fun I2 f2 => kt_s ?_))
      refine s_aload_n (pc := 193) (i := 0) dX12_isSo_193 rfl rfl ?_
      refine m_gr (pc := 194) dX12_isSo_194 ff_X12_77 rfl o_534 r_534_43 ?_
      refine s_iload_n (pc := 197) (i := 3) dX12_isSo_197 rfl rfl ?_
      refine m_ic (pc := 198) (v := 1) dX12_isSo_198 rfl ?_
      refine s_iadd (pc := 199) dX12_isSo_199 ?_
      refine m_nm (v' := nI (b + 1)) (nI_add b 1) ?_
      refine m_bi (pc := 200) (v := 6) dX12_isSo_200 rfl ?_
      refine s_ishl (pc := 202) dX12_isSo_202 ?_
      refine s_iload (pc := 203) (i := 4) dX12_isSo_203 rfl ?_
      refine s_iload (pc := 205) (i := 6) dX12_isSo_205 rfl ?_
      refine m_ic (pc := 207) (v := -1) dX12_isSo_207 rfl ?_
      refine s_ixor (pc := 208) dX12_isSo_208 ?_
      refine s_iand (pc := 209) dX12_isSo_209 ?_
      refine m_nm (v' := nI (s ^^^ t)) (xn_64 (by omega) (by omega) ht) ?_
      refine s_ior (pc := 210) dX12_isSo_210 ?_
      refine m_nm (v' := nI ((b + 1) * 64 + (s ^^^ t))) (ix_64 (by omega) hx64) ?_
      refine m_ia (pc := 211) dX12_isSo_211 a_555 (vp_in_nI (n := (b + 1) * 64 + (s ^^^ t)) (by omega) (by decide)) ?_
      refine m_nm (v' := nI y) (rdI (j := (b + 1) * 64 + (s ^^^ t)) ((f2 555 _ (by decide) (by decide)).trans ((hF 555 _ (by decide) (by decide)).trans hy1)) (by omega)) ?_
      refine s_iadd (pc := 212) dX12_isSo_212 ?_
      refine m_nm (v' := nI ((tgF (roM u D) (roW D cs S u) (roR D S) b t) + y)) (nI_add (tgF (roM u D) (roW D cs S u) (roR D S) b t) y) ?_
      refine s_istore (pc := 213) (i := 8) dX12_isSo_213 (Nat.le_of_ble_eq_true rfl) ?_
      dsimp only [List.set, List.filter]
      refine s_iload (pc := 215) (i := 8) dX12_isSo_215 rfl ?_
      refine s_iload (pc := 217) (i := 5) dX12_isSo_217 rfl ?_
      refine s_icge (pc := 219) (tgt := 227) dX12_isSo_219 rfl (fun h219 => ?_) (fun h219 => ?_)
      · have h219 : l ≤ ((tgF (roM u D) (roW D cs S u) (roR D S) b t) + y) := (nI_leI (a := l) (b := (tgF (roM u D) (roW D cs S u) (roR D S) b t) + y) (by omega) (by omega)).mp h219
        refine s_iload (pc := 227) (i := 5) dX12_isSo_227 rfl ?_
        refine s_istore (pc := 229) (i := 5) dX12_isSo_229 (Nat.le_of_ble_eq_true rfl) ?_
        dsimp only [List.set, List.filter]
        refine s_iload (pc := 231) (i := 6) dX12_isSo_231 rfl ?_
        refine s_ifne (pc := 233) (tgt := 240) dX12_isSo_233 rfl (fun h233 => ?_) (fun h233 => ?_)
        · have h233 : ¬ t = 0 := fun z => h233 ((nI_eq (a := t) (b := 0) (by omega) (by omega)).mpr z)
          refine s_iload (pc := 240) (i := 6) dX12_isSo_240 rfl ?_
          refine m_ic (pc := 242) (v := 1) dX12_isSo_242 rfl ?_
          refine s_isub (pc := 243) dX12_isSo_243 ?_
          refine s_iload (pc := 244) (i := 4) dX12_isSo_244 rfl ?_
          refine s_iand (pc := 246) dX12_isSo_246 ?_
          refine m_nm (v' := nI ((t - 1) &&& s)) (na_64 (by omega) (by omega) (by omega)) ?_
          refine s_istore (pc := 247) (i := 6) dX12_isSo_247 (Nat.le_of_ble_eq_true rfl) ?_
          dsimp only [List.set, List.filter]
          refine s_goto (pc := 249) (tgt := 77) dX12_isSo_249 rfl ?_
          have nx := nxt_p (s := s) (t := t) (by omega) (by omega) ht (by omega)
          refine ih ((t - 1) &&& s) (by omega) I2 _ _ _ (fm_t hF f2) nx.2.1 (by omega) (hl2) (fun e h1 h2 h3 h5 => ?_)
          by_cases ze : e = t
          · subst ze; exact ⟨y, hy2, by omega⟩
          · have h4 : t < e := by
              by_cases z4 : e < t
              · have := nx.2.2 e z4 h2; omega
              · omega
            obtain ⟨y1, q1, q2⟩ := h9 e h1 h2 h3 h4
            exact ⟨y1, q1, by omega⟩
        · have h233 : t = 0 := (nI_eq (a := t) (b := 0) (by omega) (by omega)).mp h233
          refine m_ic (pc := 236) (v := -1) dX12_isSo_236 rfl ?_
          refine s_goto (pc := 237) (tgt := 247) dX12_isSo_237 rfl ?_
          refine s_istore (pc := 247) (i := 6) dX12_isSo_247 (Nat.le_of_ble_eq_true rfl) ?_
          dsimp only [List.set, List.filter]
          refine s_goto (pc := 249) (tgt := 77) dX12_isSo_249 rfl ?_
          refine s_iload (pc := 77) (i := 6) dX12_isSo_77 rfl ?_
          refine s_iflt (pc := 79) (tgt := 252) dX12_isSo_79 rfl (fun h79 => ?_) (fun h79 => absurd h79 (by decide))
          refine hc I2 _ _ _ _ (fm_t hF f2) (mv_S (by omega) (by omega) (hl2) (fun e h1 h2 h8 => ?_))
          have h3 : alF gg b s e kn = true := (alF_t kn).mpr (fun i hi hsi => h8 i (by omega) hi hsi)
          have h1 : e < T := by omega
          have h2 := sub_a.mpr h2
          by_cases ze : e = t
          · subst ze; exact ⟨y, hy2, by omega⟩
          · have h4 : t < e := by omega
            obtain ⟨y1, q1, q2⟩ := h9 e h1 h2 h3 h4
            exact ⟨y1, q1, by omega⟩
      · have h219 : ¬ l ≤ ((tgF (roM u D) (roW D cs S u) (roR D S) b t) + y) := fun z => h219 ((nI_leI (a := l) (b := (tgF (roM u D) (roW D cs S u) (roR D S) b t) + y) (by omega) (by omega)).mpr z)
        refine s_iload (pc := 222) (i := 8) dX12_isSo_222 rfl ?_
        refine s_goto (pc := 224) (tgt := 229) dX12_isSo_224 rfl ?_
        refine s_istore (pc := 229) (i := 5) dX12_isSo_229 (Nat.le_of_ble_eq_true rfl) ?_
        dsimp only [List.set, List.filter]
        refine s_iload (pc := 231) (i := 6) dX12_isSo_231 rfl ?_
        refine s_ifne (pc := 233) (tgt := 240) dX12_isSo_233 rfl (fun h233 => ?_) (fun h233 => ?_)
        · have h233 : ¬ t = 0 := fun z => h233 ((nI_eq (a := t) (b := 0) (by omega) (by omega)).mpr z)
          refine s_iload (pc := 240) (i := 6) dX12_isSo_240 rfl ?_
          refine m_ic (pc := 242) (v := 1) dX12_isSo_242 rfl ?_
          refine s_isub (pc := 243) dX12_isSo_243 ?_
          refine s_iload (pc := 244) (i := 4) dX12_isSo_244 rfl ?_
          refine s_iand (pc := 246) dX12_isSo_246 ?_
          refine m_nm (v' := nI ((t - 1) &&& s)) (na_64 (by omega) (by omega) (by omega)) ?_
          refine s_istore (pc := 247) (i := 6) dX12_isSo_247 (Nat.le_of_ble_eq_true rfl) ?_
          dsimp only [List.set, List.filter]
          refine s_goto (pc := 249) (tgt := 77) dX12_isSo_249 rfl ?_
          have nx := nxt_p (s := s) (t := t) (by omega) (by omega) ht (by omega)
          refine ih ((t - 1) &&& s) (by omega) I2 _ _ _ (fm_t hF f2) nx.2.1 (by omega) (fun z => mv_A (sub_a.mp ht) (fun i hi hti hik => (((alF_t kn).mp al i hik (sub_a.mp ht i hti)).mp hti).symm) hb hy2 z) (fun e h1 h2 h3 h5 => ?_)
          by_cases ze : e = t
          · subst ze; exact ⟨y, hy2, by omega⟩
          · have h4 : t < e := by
              by_cases z4 : e < t
              · have := nx.2.2 e z4 h2; omega
              · omega
            obtain ⟨y1, q1, q2⟩ := h9 e h1 h2 h3 h4
            exact ⟨y1, q1, by omega⟩
        · have h233 : t = 0 := (nI_eq (a := t) (b := 0) (by omega) (by omega)).mp h233
          refine m_ic (pc := 236) (v := -1) dX12_isSo_236 rfl ?_
          refine s_goto (pc := 237) (tgt := 247) dX12_isSo_237 rfl ?_
          refine s_istore (pc := 247) (i := 6) dX12_isSo_247 (Nat.le_of_ble_eq_true rfl) ?_
          dsimp only [List.set, List.filter]
          refine s_goto (pc := 249) (tgt := 77) dX12_isSo_249 rfl ?_
          refine s_iload (pc := 77) (i := 6) dX12_isSo_77 rfl ?_
          refine s_iflt (pc := 79) (tgt := 252) dX12_isSo_79 rfl (fun h79 => ?_) (fun h79 => absurd h79 (by decide))
          refine hc I2 _ _ _ _ (fm_t hF f2) (mv_S (by omega) (by omega) (fun z => mv_A (sub_a.mp ht) (fun i hi hti hik => (((alF_t kn).mp al i hik (sub_a.mp ht i hti)).mp hti).symm) hb hy2 z) (fun e h1 h2 h8 => ?_))
          have h3 : alF gg b s e kn = true := (alF_t kn).mpr (fun i hi hsi => h8 i (by omega) hi hsi)
          have h1 : e < T := by omega
          have h2 := sub_a.mpr h2
          by_cases ze : e = t
          · subst ze; exact ⟨y, hy2, by omega⟩
          · have h4 : t < e := by omega
            obtain ⟨y1, q1, q2⟩ := h9 e h1 h2 h3 h4
            exact ⟨y1, q1, by omega⟩
    · have al := flb_0 h180
      refine s_goto (pc := 183) (tgt := 231) dX12_isSo_183 rfl ?_
      refine s_iload (pc := 231) (i := 6) dX12_isSo_231 rfl ?_
      refine s_ifne (pc := 233) (tgt := 240) dX12_isSo_233 rfl (fun h233 => ?_) (fun h233 => ?_)
      · have h233 : ¬ t = 0 := fun z => h233 ((nI_eq (a := t) (b := 0) (by omega) (by omega)).mpr z)
        refine s_iload (pc := 240) (i := 6) dX12_isSo_240 rfl ?_
        refine m_ic (pc := 242) (v := 1) dX12_isSo_242 rfl ?_
        refine s_isub (pc := 243) dX12_isSo_243 ?_
        refine s_iload (pc := 244) (i := 4) dX12_isSo_244 rfl ?_
        refine s_iand (pc := 246) dX12_isSo_246 ?_
        refine m_nm (v' := nI ((t - 1) &&& s)) (na_64 (by omega) (by omega) (by omega)) ?_
        refine s_istore (pc := 247) (i := 6) dX12_isSo_247 (Nat.le_of_ble_eq_true rfl) ?_
        dsimp only [List.set, List.filter]
        refine s_goto (pc := 249) (tgt := 77) dX12_isSo_249 rfl ?_
        have nx := nxt_p (s := s) (t := t) (by omega) (by omega) ht (by omega)
        refine ih ((t - 1) &&& s) (by omega) I1 _ _ _ hF nx.2.1 (by omega) (hl2) (fun e h1 h2 h3 h5 => ?_)
        by_cases ze : e = t
        · subst ze; rw [h3] at al; exact absurd al (by decide)
        · have h4 : t < e := by
            by_cases z4 : e < t
            · have := nx.2.2 e z4 h2; omega
            · omega
          obtain ⟨y1, q1, q2⟩ := h9 e h1 h2 h3 h4
          exact ⟨y1, q1, by omega⟩
      · have h233 : t = 0 := (nI_eq (a := t) (b := 0) (by omega) (by omega)).mp h233
        refine m_ic (pc := 236) (v := -1) dX12_isSo_236 rfl ?_
        refine s_goto (pc := 237) (tgt := 247) dX12_isSo_237 rfl ?_
        refine s_istore (pc := 247) (i := 6) dX12_isSo_247 (Nat.le_of_ble_eq_true rfl) ?_
        dsimp only [List.set, List.filter]
        refine s_goto (pc := 249) (tgt := 77) dX12_isSo_249 rfl ?_
        refine s_iload (pc := 77) (i := 6) dX12_isSo_77 rfl ?_
        refine s_iflt (pc := 79) (tgt := 252) dX12_isSo_79 rfl (fun h79 => ?_) (fun h79 => absurd h79 (by decide))
        refine hc I1 _ _ _ _ hF (mv_S (by omega) (by omega) (hl2) (fun e h1 h2 h8 => ?_))
        have h3 : alF gg b s e kn = true := (alF_t kn).mpr (fun i hi hsi => h8 i (by omega) hi hsi)
        have h1 : e < T := by omega
        have h2 := sub_a.mpr h2
        by_cases ze : e = t
        · subst ze; rw [h3] at al; exact absurd al (by decide)
        · have h4 : t < e := by omega
          obtain ⟨y1, q1, q2⟩ := h9 e h1 h2 h3 h4
          exact ⟨y1, q1, by omega⟩
theorem iss_lp (hW : Wm I D cs S) (hP : plM D u I) (h6 : roM u D ≤ 6) (hT : T = 2 ^ roM u D) (hT6 : T ≤ 64) (hk : kn ≤ roM u D) (hG : ∀ j, j < kn → I 556 j = nI (gg j) ∧ gg j < 1000) (hb : b < cb D) (hc : ∀ I' v5 v6 v7 v8, f55 I I' → (∀ s, s < T → tbW D cs S u gg kn I' b s) → Rn g (d + 7) mX12_isSo 272 [.ref 534, .int (nI kn), .int (nI L), .int (nI b), .int (nI T), v5, v6, v7, v8] [] [] (Z I' J n w) Q) : ∀ f i I1 (v5 : Value) (v6 : Value) (v7 : Value) (v8 : Value), i + f = T → f55 I I1 → ((∀ s, s < i → tbW D cs S u gg kn I1 b s) ∧ ∀ s, s < T → tbW D cs S u gg kn I1 (b + 1) s) → Rn g (d + 7) mX12_isSo 57 [.ref 534, .int (nI kn), .int (nI L), .int (nI b), .int (nI i), v5, v6, v7, v8] [] [] (Z I1 J n w) Q := by
  intro f
  induction f with
  | zero =>
    intro i I1 v5 v6 v7 v8 hi hF hM
    have e : T = i := by omega
    subst e
    have hb7 := hW.2.1.1
    have hc12 := hW.2.1.2.1
    refine s_iload (pc := 57) (i := 4) dX12_isSo_57 rfl ?_
    refine m_ic (pc := 59) (v := 1) dX12_isSo_59 rfl ?_
    refine s_aload_n (pc := 60) (i := 0) dX12_isSo_60 rfl rfl ?_
    refine m_gi (pc := 61) dX12_isSo_61 ff_X12_394 rfl o_534 ?_
    refine m_nm (v' := nI (roM u D)) ((plM_f hP hF).1) ?_
    refine s_ishl (pc := 64) dX12_isSo_64 ?_
    refine m_nm (v' := nI T) (by rw [hT]; exact sh_1 (by omega)) ?_
    refine s_icge (pc := 65) (tgt := 272) dX12_isSo_65 rfl (fun h65 => ?_) (fun h65 => absurd (nI_le (a := T) (b := T) (by omega) (by omega)) h65)
    exact hc I1 _ _ _ _ hF hM.1
  | succ f ih =>
    intro i I1 v5 v6 v7 v8 hi hF hM
    have hb7 := hW.2.1.1
    have hc12 := hW.2.1.2.1
    refine s_iload (pc := 57) (i := 4) dX12_isSo_57 rfl ?_
    refine m_ic (pc := 59) (v := 1) dX12_isSo_59 rfl ?_
    refine s_aload_n (pc := 60) (i := 0) dX12_isSo_60 rfl rfl ?_
    refine m_gi (pc := 61) dX12_isSo_61 ff_X12_394 rfl o_534 ?_
    refine m_nm (v' := nI (roM u D)) ((plM_f hP hF).1) ?_
    refine s_ishl (pc := 64) dX12_isSo_64 ?_
    refine m_nm (v' := nI T) (by rw [hT]; exact sh_1 (by omega)) ?_
    refine s_icge (pc := 65) (tgt := 272) dX12_isSo_65 rfl (fun h65 => absurd h65 (nI_ge (a := i) (b := T) (by omega) (by omega))) (fun h65 => ?_)
    refine s_ldcw (pc := 68) dX12_isSo_68 ct_X12_397 ?_
    refine m_nm (v' := nI 99999) (rfl) ?_
    refine s_istore (pc := 71) (i := 5) dX12_isSo_71 (Nat.le_of_ble_eq_true rfl) ?_
    dsimp only [List.set, List.filter]
    refine s_iload (pc := 73) (i := 4) dX12_isSo_73 rfl ?_
    refine s_istore (pc := 75) (i := 6) dX12_isSo_75 (Nat.le_of_ble_eq_true rfl) ?_
    dsimp only [List.set, List.filter]
    refine isp_lp (gg := gg) (Wm_ro hW (f55_M hF)) (plM_f hP hF) h6 hT hT6 hk (fun j hj => ⟨(hF 556 j (by decide) (by decide) (by decide)).trans (hG j hj).1, (hG j hj).2⟩) hb (show i < T by omega) hM.2 (fun I2 l2 v6 v7 v8 f2 h2 => ?_) (i + 1) i (by omega) I1 99999 _ _ fm_r (Nat.and_self i) (Nat.le_refl _) (fun z => absurd z (Nat.lt_irrefl _)) (fun e h1 h2 _ h4 => absurd (show e ≤ i by rw [← h2]; exact Nat.and_le_right) (by omega))
    refine s_aload_n (pc := 252) (i := 0) dX12_isSo_252 rfl rfl ?_
    refine m_gr (pc := 253) dX12_isSo_253 ff_X12_77 rfl o_534 r_534_43 ?_
    refine s_iload_n (pc := 256) (i := 3) dX12_isSo_256 rfl rfl ?_
    refine m_bi (pc := 257) (v := 6) dX12_isSo_257 rfl ?_
    refine s_ishl (pc := 259) dX12_isSo_259 ?_
    refine s_iload (pc := 260) (i := 4) dX12_isSo_260 rfl ?_
    refine s_ior (pc := 262) dX12_isSo_262 ?_
    refine m_nm (v' := nI (b * 64 + i)) (ix_64 (by omega) (by omega)) ?_
    refine s_iload (pc := 263) (i := 5) dX12_isSo_263 rfl ?_
    refine m_is (pc := 265) dX12_isSo_265 a_555 (vp_in_nI (n := b * 64 + i) (by omega) (by decide)) ?_
    rw [nI_clamp (n := b * 64 + i) (by omega)]
    refine m_inc (pc := 266) (v := 1) dX12_isSo_266 rfl rfl ?_
    dsimp only [List.set, List.filter]
    rw [nI_1]
    refine s_goto (pc := 269) (tgt := 57) dX12_isSo_269 rfl ?_
    refine ih (i + 1) _ _ _ _ _ (by omega) (f55_u (f55_t hF (f55_m f2))) ⟨fun s hs => ?_, fun s hs => ?_⟩
    · by_cases e : s = i
      · subst e; exact ⟨l2, up_s, h2⟩
      · exact tbW_f (hM.1 s (by omega)) ((up_k (by omega)).trans (f2 555 _ (by decide) (by decide)))
    · exact tbW_f (hM.2 s hs) ((up_k (by omega)).trans (f2 555 _ (by decide) (by decide)))
theorem isb_lp (hW : Wm I D cs S) (hP : plM D u I) (h6 : roM u D ≤ 6) (hT : T = 2 ^ roM u D) (hT6 : T ≤ 64) (hk : kn ≤ roM u D) (hG : ∀ j, j < kn → I 556 j = nI (gg j) ∧ gg j < 1000) (hL : L < 99999) (k1 : ∀ I' x, f55 I I' → mvF (cb D) (roM u D) (roW D cs S u) (roR D S) (cK gg kn) 0 (2 ^ roM u D - 1).testBit x → x = L → Q (.inl (some (.int 1))) (Z I' J n w)) (k0 : ∀ I' x, f55 I I' → mvF (cb D) (roM u D) (roW D cs S u) (roR D S) (cK gg kn) 0 (2 ^ roM u D - 1).testBit x → x ≠ L → Q (.inl (some (.int 0))) (Z I' J n w)) : ∀ t I1 v4 v5 v6 v7 v8, t ≤ cb D → f55 I I1 → (∀ s, s < T → tbW D cs S u gg kn I1 t s) → Rn g (d + 7) mX12_isSo 50 [.ref 534, .int (nI kn), .int (nI L), .int (nI t + -1), v4, v5, v6, v7, v8] [] [] (Z I1 J n w) Q := by
  have hb7 := hW.2.1.1
  have hT0 : 0 < T := by rw [hT]; exact Nat.two_pow_pos _
  intro t
  induction t with
  | zero =>
    intro I1 v4 v5 v6 v7 v8 _ hF hM
    obtain ⟨x, hx1, hx2⟩ := hM (T - 1) (by omega)
    have hx9 := hx2.1
    refine s_iload_n (pc := 50) (i := 3) dX12_isSo_50 rfl rfl ?_
    refine s_iflt (pc := 51) (tgt := 278) dX12_isSo_51 rfl (fun h51 => ?_) (fun h51 => absurd h51 (by decide))
    refine s_aload_n (pc := 278) (i := 0) dX12_isSo_278 rfl rfl ?_
    refine m_gr (pc := 279) dX12_isSo_279 ff_X12_77 rfl o_534 r_534_43 ?_
    refine m_ic (pc := 282) (v := 1) dX12_isSo_282 rfl ?_
    refine s_aload_n (pc := 283) (i := 0) dX12_isSo_283 rfl rfl ?_
    refine m_gi (pc := 284) dX12_isSo_284 ff_X12_394 rfl o_534 ?_
    refine m_nm (v' := nI (roM u D)) ((plM_f hP hF).1) ?_
    refine s_ishl (pc := 287) dX12_isSo_287 ?_
    refine m_nm (v' := nI T) (by rw [hT]; exact sh_1 (by omega)) ?_
    refine m_ic (pc := 288) (v := 1) dX12_isSo_288 rfl ?_
    refine s_isub (pc := 289) dX12_isSo_289 ?_
    refine m_nm (v' := nI (T - 1)) (nI_d1 (by omega)) ?_
    refine m_ia (pc := 290) dX12_isSo_290 a_555 (vp_in_nI (n := T - 1) (by omega) (by decide)) ?_
    refine m_nm (v' := nI x) (rdI (j := T - 1) (by rw [← hx1, Nat.zero_mul, Nat.zero_add]) (by omega)) ?_
    refine s_iload_n (pc := 291) (i := 2) dX12_isSo_291 rfl rfl ?_
    refine s_icne (pc := 292) (tgt := 299) dX12_isSo_292 rfl (fun h292 => ?_) (fun h292 => ?_)
    · have h292 : ¬ x = L := fun z => h292 ((nI_eq (a := x) (b := L) (by omega) (by omega)).mpr z)
      refine m_ic (pc := 299) (v := 0) dX12_isSo_299 rfl ?_
      refine s_ireturn (pc := 300) dX12_isSo_300 rfl rfl ?_
      exact k0 I1 x hF (hT ▸ hx2) h292
    · have h292 : x = L := (nI_eq (a := x) (b := L) (by omega) (by omega)).mp h292
      refine m_ic (pc := 295) (v := 1) dX12_isSo_295 rfl ?_
      refine s_goto (pc := 296) (tgt := 300) dX12_isSo_296 rfl ?_
      refine s_ireturn (pc := 300) dX12_isSo_300 rfl rfl ?_
      exact k1 I1 x hF (hT ▸ hx2) h292
  | succ t ih =>
    intro I1 v4 v5 v6 v7 v8 htb hF hM
    refine s_iload_n (pc := 50) (i := 3) dX12_isSo_50 rfl rfl ?_
    refine m_nm (v' := nI t) (nI_mi) ?_
    refine s_iflt (pc := 51) (tgt := 278) dX12_isSo_51 rfl (fun h51 => absurd h51 (nI_nlt (a := t) (b := 0) (by omega) (by omega))) (fun h51 => ?_)
    refine m_ic (pc := 54) (v := 0) dX12_isSo_54 rfl ?_
    refine s_istore (pc := 55) (i := 4) dX12_isSo_55 (Nat.le_of_ble_eq_true rfl) ?_
    dsimp only [List.set, List.filter]
    rw [nI_mi]
    refine iss_lp (gg := gg) (Wm_ro hW (f55_M hF)) (plM_f hP hF) h6 hT hT6 hk (fun j hj => ⟨(hF 556 j (by decide) (by decide) (by decide)).trans (hG j hj).1, (hG j hj).2⟩) (show t < cb D by omega) (fun I2 v5 v6 v7 v8 f2 h2 => ?_) T 0 I1 _ _ _ _ (by omega) f55_r ⟨fun s hs => absurd hs (Nat.not_lt_zero _), hM⟩
    refine m_inc (pc := 272) (v := (-1)) dX12_isSo_272 rfl rfl ?_
    dsimp only [List.set, List.filter]
    refine s_goto (pc := 275) (tgt := 50) dX12_isSo_275 rfl ?_
    exact ih I2 _ _ _ _ _ (by omega) (f55_t hF f2) h2
theorem c_X12_isSo (hW : Wm I D cs S) (hP : plM D u I) (h6 : roM u D ≤ 6) (hk : kn ≤ roM u D) (hG : ∀ j, j < kn → I 556 j = nI (gg j) ∧ gg j < 1000) (hL : L < 99999) (k1 : ∀ I' x, f55 I I' → mvF (cb D) (roM u D) (roW D cs S u) (roR D S) (cK gg kn) 0 (2 ^ roM u D - 1).testBit x → x = L → Q (.inl (some (.int 1))) (Z I' J n w)) (k0 : ∀ I' x, f55 I I' → mvF (cb D) (roM u D) (roW D cs S u) (roR D S) (cK gg kn) 0 (2 ^ roM u D - 1).testBit x → x ≠ L → Q (.inl (some (.int 0))) (Z I' J n w)) : Cn g (d + 7) mX12_isSo [.ref 534, .int (nI kn), .int (nI L)] (Z I J n w) Q := by
  have hb7 := hW.2.1.1
  obtain ⟨T, hT⟩ : ∃ z, z = 2 ^ roM u D := ⟨_, rfl⟩
  have hT6 : T ≤ 64 := by rw [hT]; exact Nat.pow_le_pow_right (n := 2) (by omega) h6
  show Rn g (d + 7) mX12_isSo 0 [.ref 534, .int (nI kn), .int (nI L), .retAddr 0, .retAddr 0, .retAddr 0, .retAddr 0, .retAddr 0, .retAddr 0] [] [] (Z I J n w) Q
  refine m_ic (pc := 0) (v := 0) dX12_isSo_0 rfl ?_
  refine s_istore_n (pc := 1) (i := 3) dX12_isSo_1 rfl (Nat.le_of_ble_eq_true rfl) ?_
  dsimp only [List.set, List.filter]
  refine isi_lp (gg := gg) hW hP h6 hT hT6 (fun I2 f2 h2 => ?_) T 0 I (by omega) f55_r (fun s hs => absurd hs (Nat.not_lt_zero _))
  refine s_aload_n (pc := 43) (i := 0) dX12_isSo_43 rfl rfl ?_
  refine m_gi (pc := 44) dX12_isSo_44 ff_X12_154 rfl o_534 ?_
  refine m_nm (v' := nI (cb D)) ((Wm_ro hW (f55_M f2)).1.1) ?_
  refine m_ic (pc := 47) (v := 1) dX12_isSo_47 rfl ?_
  refine s_isub (pc := 48) dX12_isSo_48 ?_
  refine m_nm (v' := nI (cb D) + -1) (nI_s1) ?_
  refine s_istore_n (pc := 49) (i := 3) dX12_isSo_49 rfl (Nat.le_of_ble_eq_true rfl) ?_
  dsimp only [List.set, List.filter]
  exact isb_lp (gg := gg) (Wm_ro hW (f55_M f2)) (plM_f hP f2) h6 hT hT6 hk (fun j hj => ⟨(f2 556 j (by decide) (by decide) (by decide)).trans (hG j hj).1, (hG j hj).2⟩) hL (fun I3 x f3 => k1 I3 x (f55_t f2 f3)) (fun I3 x f3 => k0 I3 x (f55_t f2 f3)) (cb D) I2 _ _ _ _ _ (Nat.le_refl _) f55_r h2
end S
