section S
variable {g : aG} {d : Nat} {I : Nat → Nat → Int32} {J : Nat → Nat → Int64} {n w : Nat} {Q : aO → aS → Prop}
variable {S : sD} {D : cD} {cs : List Nat} {u b s kn T : Nat} {gg : Nat → Nat}
/-- the table's place of the backs from b on and of the set s -/
def tbW (D : cD) (cs : List Nat) (S : sD) (u : Nat) (gg : Nat → Nat) (kn : Nat) (I : Nat → Nat → Int32) (b s : Nat) : Prop := ∃ x, I 555 (b * 64 + s) = nI x ∧ mvF (cb D) (roM u D) (roW D cs S u) (roR D S) (cK gg kn) b s.testBit x
theorem tbW_f {I' : Nat → Nat → Int32} (h : tbW D cs S u gg kn I b s) (hf : I' 555 (b * 64 + s) = I 555 (b * 64 + s)) : tbW D cs S u gg kn I' b s := by
  obtain ⟨x, h1, h2⟩ := h
  exact ⟨x, hf.trans h1, h2⟩
theorem tg_le {M t : Nat} {v : Nat → Nat → Nat} {r : Nat → Int} (hM : M ≤ 6) (hv : ∀ i, i < M → v i b ≤ 135) : tgF M v r b t ≤ 99999 := by
  have h := sms_le (v := t) (f := fun i => v i b) (M := 135) M hv
  unfold tgF
  split
  · omega
  · split <;> omega
theorem lri_lp (hW : Wm I D cs S) (hP : plM D u I) (h6 : roM u D ≤ 6) (hT : T = 2 ^ roM u D) (hT6 : T ≤ 64) (hc : ∀ I', f55 I I' → (∀ s, s < T → tbW D cs S u gg 0 I' (cb D) s) → Rn g (d + 7) mX12_laysRoster 48 [.ref 534, .int (nI u), .int (nI T), .retAddr 0, .retAddr 0, .retAddr 0, .retAddr 0] [] [] (Z I' J n w) Q) : ∀ f i I1, i + f = T → f55 I I1 → (∀ s, s < i → tbW D cs S u gg 0 I1 (cb D) s) → Rn g (d + 7) mX12_laysRoster 7 [.ref 534, .int (nI u), .int (nI i), .retAddr 0, .retAddr 0, .retAddr 0, .retAddr 0] [] [] (Z I1 J n w) Q := by
  intro f
  induction f with
  | zero =>
    intro i I1 hi hF hM
    have e : T = i := by omega
    subst e
    have hb7 := hW.2.1.1
    have hc12 := hW.2.1.2.1
    refine s_iload_n (pc := 7) (i := 2) dX12_laysRoster_7 rfl rfl ?_
    refine m_ic (pc := 8) (v := 1) dX12_laysRoster_8 rfl ?_
    refine s_aload_n (pc := 9) (i := 0) dX12_laysRoster_9 rfl rfl ?_
    refine m_gi (pc := 10) dX12_laysRoster_10 ff_X12_394 rfl o_534 ?_
    refine m_nm (v' := nI (roM u D)) ((plM_f hP hF).1) ?_
    refine s_ishl (pc := 13) dX12_laysRoster_13 ?_
    refine m_nm (v' := nI T) (by rw [hT]; exact sh_1 (by omega)) ?_
    refine s_icge (pc := 14) (tgt := 48) dX12_laysRoster_14 rfl (fun h14 => ?_) (fun h14 => absurd (nI_le (a := T) (b := T) (by omega) (by omega)) h14)
    exact hc I1 hF hM
  | succ f ih =>
    intro i I1 hi hF hM
    have hb7 := hW.2.1.1
    have hc12 := hW.2.1.2.1
    refine s_iload_n (pc := 7) (i := 2) dX12_laysRoster_7 rfl rfl ?_
    refine m_ic (pc := 8) (v := 1) dX12_laysRoster_8 rfl ?_
    refine s_aload_n (pc := 9) (i := 0) dX12_laysRoster_9 rfl rfl ?_
    refine m_gi (pc := 10) dX12_laysRoster_10 ff_X12_394 rfl o_534 ?_
    refine m_nm (v' := nI (roM u D)) ((plM_f hP hF).1) ?_
    refine s_ishl (pc := 13) dX12_laysRoster_13 ?_
    refine m_nm (v' := nI T) (by rw [hT]; exact sh_1 (by omega)) ?_
    refine s_icge (pc := 14) (tgt := 48) dX12_laysRoster_14 rfl (fun h14 => absurd h14 (nI_ge (a := i) (b := T) (by omega) (by omega))) (fun h14 => ?_)
    refine s_aload_n (pc := 17) (i := 0) dX12_laysRoster_17 rfl rfl ?_
    refine m_gr (pc := 18) dX12_laysRoster_18 ff_X12_77 rfl o_534 r_534_43 ?_
    refine s_aload_n (pc := 21) (i := 0) dX12_laysRoster_21 rfl rfl ?_
    refine m_gi (pc := 22) dX12_laysRoster_22 ff_X12_154 rfl o_534 ?_
    refine m_nm (v' := nI (cb D)) ((Wm_ro hW (f55_M hF)).1.1) ?_
    refine m_bi (pc := 25) (v := 6) dX12_laysRoster_25 rfl ?_
    refine s_ishl (pc := 27) dX12_laysRoster_27 ?_
    refine s_iload_n (pc := 28) (i := 2) dX12_laysRoster_28 rfl rfl ?_
    refine s_ior (pc := 29) dX12_laysRoster_29 ?_
    refine m_nm (v' := nI (cb D * 64 + i)) (ix_64 (by omega) (by omega)) ?_
    refine s_iload_n (pc := 30) (i := 2) dX12_laysRoster_30 rfl rfl ?_
    refine s_ifne (pc := 31) (tgt := 38) dX12_laysRoster_31 rfl (fun h31 => ?_) (fun h31 => ?_)
    · have h31 : ¬ i = 0 := fun z => h31 ((nI_eq (a := i) (b := 0) (by omega) (by omega)).mpr z)
      refine s_ldcw (pc := 38) dX12_laysRoster_38 ct_X12_397 ?_
      refine m_nm (v' := nI 99999) (rfl) ?_
      refine m_is (pc := 41) dX12_laysRoster_41 a_555 (vp_in_nI (n := cb D * 64 + i) (by omega) (by decide)) ?_
      rw [nI_clamp (n := cb D * 64 + i) (by omega)]
      refine m_inc (pc := 42) (v := 1) dX12_laysRoster_42 rfl rfl ?_
      dsimp only [List.set, List.filter]
      rw [nI_1]
      refine s_goto (pc := 45) (tgt := 7) dX12_laysRoster_45 rfl ?_
      refine ih (i + 1) _ (by omega) (f55_u hF) (fun s hs => ?_)
      by_cases e : s = i
      · subst e; exact ⟨99999, up_s, mv_N1 (by omega) h31⟩
      · exact tbW_f (hM s (by omega)) (up_k (by omega))
    · have h31 : i = 0 := (nI_eq (a := i) (b := 0) (by omega) (by omega)).mp h31
      refine m_ic (pc := 34) (v := 0) dX12_laysRoster_34 rfl ?_
      refine m_nm (v' := nI 0) (rfl) ?_
      refine s_goto (pc := 35) (tgt := 41) dX12_laysRoster_35 rfl ?_
      refine m_is (pc := 41) dX12_laysRoster_41 a_555 (vp_in_nI (n := cb D * 64 + i) (by omega) (by decide)) ?_
      rw [nI_clamp (n := cb D * 64 + i) (by omega)]
      refine m_inc (pc := 42) (v := 1) dX12_laysRoster_42 rfl rfl ?_
      dsimp only [List.set, List.filter]
      rw [nI_1]
      refine s_goto (pc := 45) (tgt := 7) dX12_laysRoster_45 rfl ?_
      refine ih (i + 1) _ (by omega) (f55_u hF) (fun s hs => ?_)
      by_cases e : s = i
      · subst e; exact ⟨0, up_s, by rw [h31]; exact mv_N0⟩
      · exact tbW_f (hM s (by omega)) (up_k (by omega))
theorem lrp_lp (hW : Wm I D cs S) (hP : plM D u I) (h6 : roM u D ≤ 6) (hT : T = 2 ^ roM u D) (hT6 : T ≤ 64) (hb : b < cb D) (hs : s < T) (hrow : ∀ s, s < T → tbW D cs S u gg 0 I (b + 1) s) (hc : ∀ I' l v5 v6, fm I I' → mvF (cb D) (roM u D) (roW D cs S u) (roR D S) (cK gg 0) b s.testBit l → Rn g (d + 7) mX12_laysRoster 149 [.ref 534, .int (nI u), .int (nI b), .int (nI s), .int (nI l), v5, v6] [] [] (Z I' J n w) Q) : ∀ F t, t < F → ∀ I1 l v6, fm I I1 → t &&& s = t → l ≤ 99999 → (l < 99999 → ∃ f, feF (cb D) (roM u D) (roW D cs S u) (roR D S) (cK gg 0) b s.testBit f ∧ coF (roM u D) (roW D cs S u) f s.testBit = l) → (∀ e, e < T → e &&& s = e → (t < e ∨ e = 0) → ∃ y, mvF (cb D) (roM u D) (roW D cs S u) (roR D S) (cK gg 0) (b + 1) (s ^^^ e).testBit y ∧ l ≤ tgF (roM u D) (roW D cs S u) (roR D S) b e + y) → Rn g (d + 7) mX12_laysRoster 89 [.ref 534, .int (nI u), .int (nI b), .int (nI s), .int (nI l), .int (nI t), v6] [] [] (Z I1 J n w) Q := by
  intro F
  induction F with
  | zero => intro t h; exact absurd h (Nat.not_lt_zero _)
  | succ F ih =>
    intro t htF I1 l v6 hF ht hl hl2 h9
    have hb7 := hW.2.1.1
    have hts : t ≤ s := by rw [← ht]; exact Nat.and_le_right
    by_cases ht0 : t = 0
    · have hT0 : 0 < T := by omega
      refine s_iload (pc := 89) (i := 5) dX12_laysRoster_89 rfl ?_
      refine s_ifle (pc := 91) (tgt := 149) dX12_laysRoster_91 rfl (fun h91 => ?_) (fun h91 => absurd (nI_le (a := t) (b := 0) (by omega) (by omega)) h91)
      exact hc I1 l _ _ hF (mv_S (by omega) hl hl2 (fun e h1 h2 _ => h9 e (by omega) (sub_a.mpr h2) (by omega)))
    · have hxT : s ^^^ t < T := by rw [hT]; exact xo_lt (by omega) (by omega)
      have hx64 : s ^^^ t < 64 := by omega
      obtain ⟨y, hy1, hy2⟩ := hrow (s ^^^ t) hxT
      have hy9 := hy2.1
      have htg := tg_le (t := t) (r := roR D S) (v := roW D cs S u) (b := b) h6 (fun i hi => roW_b hW.2.1 i b hi)
      refine s_iload (pc := 89) (i := 5) dX12_laysRoster_89 rfl ?_
      refine s_ifle (pc := 91) (tgt := 149) dX12_laysRoster_91 rfl (fun h91 => absurd h91 (nI_ge (a := 0) (b := t) (by omega) (by omega))) (fun h91 => ?_)
      refine s_aload_n (pc := 94) (i := 0) dX12_laysRoster_94 rfl rfl ?_
      refine s_iload_n (pc := 95) (i := 2) dX12_laysRoster_95 rfl rfl ?_
      refine s_iload (pc := 96) (i := 5) dX12_laysRoster_96 rfl ?_
      refine m_v2 (pc := 98) dX12_laysRoster_98 lk_X12_401 ok_X12_togetherFor (rcO o_534 (by decide) rfl) rfl rfl (c_X12_togetherFor (Wm_fm hW hF) (plM_f hP (f55_m hF)) h6 hb (by omega) (fun I2 f2 => kt_s ?_))
      refine s_aload_n (pc := 101) (i := 0) dX12_laysRoster_101 rfl rfl ?_
      refine m_gr (pc := 102) dX12_laysRoster_102 ff_X12_77 rfl o_534 r_534_43 ?_
      refine s_iload_n (pc := 105) (i := 2) dX12_laysRoster_105 rfl rfl ?_
      refine m_ic (pc := 106) (v := 1) dX12_laysRoster_106 rfl ?_
      refine s_iadd (pc := 107) dX12_laysRoster_107 ?_
      refine m_nm (v' := nI (b + 1)) (nI_add b 1) ?_
      refine m_bi (pc := 108) (v := 6) dX12_laysRoster_108 rfl ?_
      refine s_ishl (pc := 110) dX12_laysRoster_110 ?_
      refine s_iload_n (pc := 111) (i := 3) dX12_laysRoster_111 rfl rfl ?_
      refine s_iload (pc := 112) (i := 5) dX12_laysRoster_112 rfl ?_
      refine m_ic (pc := 114) (v := -1) dX12_laysRoster_114 rfl ?_
      refine s_ixor (pc := 115) dX12_laysRoster_115 ?_
      refine s_iand (pc := 116) dX12_laysRoster_116 ?_
      refine m_nm (v' := nI (s ^^^ t)) (xn_64 (by omega) (by omega) ht) ?_
      refine s_ior (pc := 117) dX12_laysRoster_117 ?_
      refine m_nm (v' := nI ((b + 1) * 64 + (s ^^^ t))) (ix_64 (by omega) hx64) ?_
      refine m_ia (pc := 118) dX12_laysRoster_118 a_555 (vp_in_nI (n := (b + 1) * 64 + (s ^^^ t)) (by omega) (by decide)) ?_
      refine m_nm (v' := nI y) (rdI (j := (b + 1) * 64 + (s ^^^ t)) ((f2 555 _ (by decide) (by decide)).trans ((hF 555 _ (by decide) (by decide)).trans hy1)) (by omega)) ?_
      refine s_iadd (pc := 119) dX12_laysRoster_119 ?_
      refine m_nm (v' := nI ((tgF (roM u D) (roW D cs S u) (roR D S) b t) + y)) (nI_add (tgF (roM u D) (roW D cs S u) (roR D S) b t) y) ?_
      refine s_istore (pc := 120) (i := 6) dX12_laysRoster_120 (Nat.le_of_ble_eq_true rfl) ?_
      dsimp only [List.set, List.filter]
      refine s_iload (pc := 122) (i := 6) dX12_laysRoster_122 rfl ?_
      refine s_iload (pc := 124) (i := 4) dX12_laysRoster_124 rfl ?_
      refine s_icge (pc := 126) (tgt := 134) dX12_laysRoster_126 rfl (fun h126 => ?_) (fun h126 => ?_)
      · have h126 : l ≤ ((tgF (roM u D) (roW D cs S u) (roR D S) b t) + y) := (nI_leI (a := l) (b := (tgF (roM u D) (roW D cs S u) (roR D S) b t) + y) (by omega) (by omega)).mp h126
        refine s_iload (pc := 134) (i := 4) dX12_laysRoster_134 rfl ?_
        refine s_istore (pc := 136) (i := 4) dX12_laysRoster_136 (Nat.le_of_ble_eq_true rfl) ?_
        dsimp only [List.set, List.filter]
        refine s_iload (pc := 138) (i := 5) dX12_laysRoster_138 rfl ?_
        refine m_ic (pc := 140) (v := 1) dX12_laysRoster_140 rfl ?_
        refine s_isub (pc := 141) dX12_laysRoster_141 ?_
        refine s_iload_n (pc := 142) (i := 3) dX12_laysRoster_142 rfl rfl ?_
        refine s_iand (pc := 143) dX12_laysRoster_143 ?_
        refine m_nm (v' := nI ((t - 1) &&& s)) (na_64 (by omega) (by omega) (by omega)) ?_
        refine s_istore (pc := 144) (i := 5) dX12_laysRoster_144 (Nat.le_of_ble_eq_true rfl) ?_
        dsimp only [List.set, List.filter]
        refine s_goto (pc := 146) (tgt := 89) dX12_laysRoster_146 rfl ?_
        have nx := nxt_p (s := s) (t := t) (by omega) (by omega) ht (by omega)
        refine ih ((t - 1) &&& s) (by omega) I2 _ _ (fm_t hF f2) nx.2.1 (by omega) (hl2) (fun e h1 h2 h3 => ?_)
        by_cases z : e = 0
        · obtain ⟨y1, q1, q2⟩ := h9 e h1 h2 (Or.inr z)
          exact ⟨y1, q1, by omega⟩
        · by_cases ze : e = t
          · subst ze; exact ⟨y, hy2, by omega⟩
          · have h4 : t < e := by
              by_cases z4 : e < t
              · have := nx.2.2 e z4 h2; omega
              · omega
            obtain ⟨y1, q1, q2⟩ := h9 e h1 h2 (Or.inl h4)
            exact ⟨y1, q1, by omega⟩
      · have h126 : ¬ l ≤ ((tgF (roM u D) (roW D cs S u) (roR D S) b t) + y) := fun z => h126 ((nI_leI (a := l) (b := (tgF (roM u D) (roW D cs S u) (roR D S) b t) + y) (by omega) (by omega)).mpr z)
        refine s_iload (pc := 129) (i := 6) dX12_laysRoster_129 rfl ?_
        refine s_goto (pc := 131) (tgt := 136) dX12_laysRoster_131 rfl ?_
        refine s_istore (pc := 136) (i := 4) dX12_laysRoster_136 (Nat.le_of_ble_eq_true rfl) ?_
        dsimp only [List.set, List.filter]
        refine s_iload (pc := 138) (i := 5) dX12_laysRoster_138 rfl ?_
        refine m_ic (pc := 140) (v := 1) dX12_laysRoster_140 rfl ?_
        refine s_isub (pc := 141) dX12_laysRoster_141 ?_
        refine s_iload_n (pc := 142) (i := 3) dX12_laysRoster_142 rfl rfl ?_
        refine s_iand (pc := 143) dX12_laysRoster_143 ?_
        refine m_nm (v' := nI ((t - 1) &&& s)) (na_64 (by omega) (by omega) (by omega)) ?_
        refine s_istore (pc := 144) (i := 5) dX12_laysRoster_144 (Nat.le_of_ble_eq_true rfl) ?_
        dsimp only [List.set, List.filter]
        refine s_goto (pc := 146) (tgt := 89) dX12_laysRoster_146 rfl ?_
        have nx := nxt_p (s := s) (t := t) (by omega) (by omega) ht (by omega)
        refine ih ((t - 1) &&& s) (by omega) I2 _ _ (fm_t hF f2) nx.2.1 (by omega) (fun z => mv_A (sub_a.mp ht) (fun i _ _ hk => absurd hk (Nat.not_lt_zero _)) hb hy2 z) (fun e h1 h2 h3 => ?_)
        by_cases z : e = 0
        · obtain ⟨y1, q1, q2⟩ := h9 e h1 h2 (Or.inr z)
          exact ⟨y1, q1, by omega⟩
        · by_cases ze : e = t
          · subst ze; exact ⟨y, hy2, by omega⟩
          · have h4 : t < e := by
              by_cases z4 : e < t
              · have := nx.2.2 e z4 h2; omega
              · omega
            obtain ⟨y1, q1, q2⟩ := h9 e h1 h2 (Or.inl h4)
            exact ⟨y1, q1, by omega⟩
theorem lrs_lp (hW : Wm I D cs S) (hP : plM D u I) (h6 : roM u D ≤ 6) (hT : T = 2 ^ roM u D) (hT6 : T ≤ 64) (hb : b < cb D) (hc : ∀ I' v4 v5 v6, f55 I I' → (∀ s, s < T → tbW D cs S u gg 0 I' b s) → Rn g (d + 7) mX12_laysRoster 168 [.ref 534, .int (nI u), .int (nI b), .int (nI T), v4, v5, v6] [] [] (Z I' J n w) Q) : ∀ f i I1 (v4 : Value) (v5 : Value) (v6 : Value), i + f = T → f55 I I1 → ((∀ s, s < i → tbW D cs S u gg 0 I1 b s) ∧ ∀ s, s < T → tbW D cs S u gg 0 I1 (b + 1) s) → Rn g (d + 7) mX12_laysRoster 61 [.ref 534, .int (nI u), .int (nI b), .int (nI i), v4, v5, v6] [] [] (Z I1 J n w) Q := by
  intro f
  induction f with
  | zero =>
    intro i I1 v4 v5 v6 hi hF hM
    have e : T = i := by omega
    subst e
    have hb7 := hW.2.1.1
    have hc12 := hW.2.1.2.1
    refine s_iload_n (pc := 61) (i := 3) dX12_laysRoster_61 rfl rfl ?_
    refine m_ic (pc := 62) (v := 1) dX12_laysRoster_62 rfl ?_
    refine s_aload_n (pc := 63) (i := 0) dX12_laysRoster_63 rfl rfl ?_
    refine m_gi (pc := 64) dX12_laysRoster_64 ff_X12_394 rfl o_534 ?_
    refine m_nm (v' := nI (roM u D)) ((plM_f hP hF).1) ?_
    refine s_ishl (pc := 67) dX12_laysRoster_67 ?_
    refine m_nm (v' := nI T) (by rw [hT]; exact sh_1 (by omega)) ?_
    refine s_icge (pc := 68) (tgt := 168) dX12_laysRoster_68 rfl (fun h68 => ?_) (fun h68 => absurd (nI_le (a := T) (b := T) (by omega) (by omega)) h68)
    exact hc I1 _ _ _ hF hM.1
  | succ f ih =>
    intro i I1 v4 v5 v6 hi hF hM
    have hb7 := hW.2.1.1
    have hc12 := hW.2.1.2.1
    obtain ⟨y0, hy1, hy2⟩ := hM.2 i (by omega)
    refine s_iload_n (pc := 61) (i := 3) dX12_laysRoster_61 rfl rfl ?_
    refine m_ic (pc := 62) (v := 1) dX12_laysRoster_62 rfl ?_
    refine s_aload_n (pc := 63) (i := 0) dX12_laysRoster_63 rfl rfl ?_
    refine m_gi (pc := 64) dX12_laysRoster_64 ff_X12_394 rfl o_534 ?_
    refine m_nm (v' := nI (roM u D)) ((plM_f hP hF).1) ?_
    refine s_ishl (pc := 67) dX12_laysRoster_67 ?_
    refine m_nm (v' := nI T) (by rw [hT]; exact sh_1 (by omega)) ?_
    refine s_icge (pc := 68) (tgt := 168) dX12_laysRoster_68 rfl (fun h68 => absurd h68 (nI_ge (a := i) (b := T) (by omega) (by omega))) (fun h68 => ?_)
    refine s_aload_n (pc := 71) (i := 0) dX12_laysRoster_71 rfl rfl ?_
    refine m_gr (pc := 72) dX12_laysRoster_72 ff_X12_77 rfl o_534 r_534_43 ?_
    refine s_iload_n (pc := 75) (i := 2) dX12_laysRoster_75 rfl rfl ?_
    refine m_ic (pc := 76) (v := 1) dX12_laysRoster_76 rfl ?_
    refine s_iadd (pc := 77) dX12_laysRoster_77 ?_
    refine m_nm (v' := nI (b + 1)) (nI_add b 1) ?_
    refine m_bi (pc := 78) (v := 6) dX12_laysRoster_78 rfl ?_
    refine s_ishl (pc := 80) dX12_laysRoster_80 ?_
    refine s_iload_n (pc := 81) (i := 3) dX12_laysRoster_81 rfl rfl ?_
    refine s_ior (pc := 82) dX12_laysRoster_82 ?_
    refine m_nm (v' := nI ((b + 1) * 64 + i)) (ix_64 (by omega) (by omega)) ?_
    refine m_ia (pc := 83) dX12_laysRoster_83 a_555 (vp_in_nI (n := (b + 1) * 64 + i) (by omega) (by decide)) ?_
    refine m_nm (v' := nI y0) (rdI (j := (b + 1) * 64 + i) (hy1) (by omega)) ?_
    refine s_istore (pc := 84) (i := 4) dX12_laysRoster_84 (Nat.le_of_ble_eq_true rfl) ?_
    dsimp only [List.set, List.filter]
    refine s_iload_n (pc := 86) (i := 3) dX12_laysRoster_86 rfl rfl ?_
    refine s_istore (pc := 87) (i := 5) dX12_laysRoster_87 (Nat.le_of_ble_eq_true rfl) ?_
    dsimp only [List.set, List.filter]
    refine lrp_lp (gg := gg) (Wm_ro hW (f55_M hF)) (plM_f hP hF) h6 hT hT6 hb (show i < T by omega) hM.2 (fun I2 l2 v5 v6 f2 h2 => ?_) (i + 1) i (by omega) I1 y0 _ fm_r (Nat.and_self i) hy2.1 (fun z => ?_) (fun e h1 h2 h3 => ?_)
    rotate_left
    · have e0 : tgF (roM u D) (roW D cs S u) (roR D S) b 0 = 0 := if_pos rfl
      have h := mv_A (N := cb D) (M := roM u D) (v := roW D cs S u) (r := roR D S) (C := cK gg 0) (x := y0) (b := b) (t := 0) (s := i) (fun j hj => by rw [Nat.zero_testBit] at hj; exact absurd hj (by decide)) (fun j _ hj => by rw [Nat.zero_testBit] at hj; exact absurd hj (by decide)) hb (by rw [Nat.xor_zero]; exact hy2) (by rw [e0]; omega)
      rw [e0, Nat.zero_add] at h; exact h
    · have e1 : e = 0 := by
        rcases h3 with h3 | h3
        · have : e ≤ i := by rw [← h2]; exact Nat.and_le_right
          omega
        · exact h3
      subst e1
      exact ⟨y0, by rw [Nat.xor_zero]; exact hy2, Nat.le_add_left _ _⟩
    refine s_aload_n (pc := 149) (i := 0) dX12_laysRoster_149 rfl rfl ?_
    refine m_gr (pc := 150) dX12_laysRoster_150 ff_X12_77 rfl o_534 r_534_43 ?_
    refine s_iload_n (pc := 153) (i := 2) dX12_laysRoster_153 rfl rfl ?_
    refine m_bi (pc := 154) (v := 6) dX12_laysRoster_154 rfl ?_
    refine s_ishl (pc := 156) dX12_laysRoster_156 ?_
    refine s_iload_n (pc := 157) (i := 3) dX12_laysRoster_157 rfl rfl ?_
    refine s_ior (pc := 158) dX12_laysRoster_158 ?_
    refine m_nm (v' := nI (b * 64 + i)) (ix_64 (by omega) (by omega)) ?_
    refine s_iload (pc := 159) (i := 4) dX12_laysRoster_159 rfl ?_
    refine m_is (pc := 161) dX12_laysRoster_161 a_555 (vp_in_nI (n := b * 64 + i) (by omega) (by decide)) ?_
    rw [nI_clamp (n := b * 64 + i) (by omega)]
    refine m_inc (pc := 162) (v := 1) dX12_laysRoster_162 rfl rfl ?_
    dsimp only [List.set, List.filter]
    rw [nI_1]
    refine s_goto (pc := 165) (tgt := 61) dX12_laysRoster_165 rfl ?_
    refine ih (i + 1) _ _ _ _ (by omega) (f55_u (f55_t hF (f55_m f2))) ⟨fun s hs => ?_, fun s hs => ?_⟩
    · by_cases e : s = i
      · subst e; exact ⟨l2, up_s, h2⟩
      · exact tbW_f (hM.1 s (by omega)) ((up_k (by omega)).trans (f2 555 _ (by decide) (by decide)))
    · exact tbW_f (hM.2 s hs) ((up_k (by omega)).trans (f2 555 _ (by decide) (by decide)))
theorem lrb_lp (hW : Wm I D cs S) (hP : plM D u I) (h6 : roM u D ≤ 6) (hT : T = 2 ^ roM u D) (hT6 : T ≤ 64) (hq : ∀ I', f55 I I' → (∀ s, s < T → tbW D cs S u gg 0 I' 0 s) → Q (.inl none) (Z I' J n w)) : ∀ t I1 v3 v4 v5 v6, t ≤ cb D → f55 I I1 → (∀ s, s < T → tbW D cs S u gg 0 I1 t s) → Rn g (d + 7) mX12_laysRoster 55 [.ref 534, .int (nI u), .int (nI t + -1), v3, v4, v5, v6] [] [] (Z I1 J n w) Q := by
  have hb7 := hW.2.1.1
  intro t
  induction t with
  | zero =>
    intro I1 v3 v4 v5 v6 _ hF hM
    refine s_iload_n (pc := 55) (i := 2) dX12_laysRoster_55 rfl rfl ?_
    refine s_iflt (pc := 56) (tgt := 174) dX12_laysRoster_56 rfl (fun h56 => ?_) (fun h56 => absurd h56 (by decide))
    refine s_return (pc := 174) dX12_laysRoster_174 rfl ?_
    exact hq I1 hF hM
  | succ t ih =>
    intro I1 v3 v4 v5 v6 htb hF hM
    refine s_iload_n (pc := 55) (i := 2) dX12_laysRoster_55 rfl rfl ?_
    refine m_nm (v' := nI t) (nI_mi) ?_
    refine s_iflt (pc := 56) (tgt := 174) dX12_laysRoster_56 rfl (fun h56 => absurd h56 (nI_nlt (a := t) (b := 0) (by omega) (by omega))) (fun h56 => ?_)
    refine m_ic (pc := 59) (v := 0) dX12_laysRoster_59 rfl ?_
    refine s_istore_n (pc := 60) (i := 3) dX12_laysRoster_60 rfl (Nat.le_of_ble_eq_true rfl) ?_
    dsimp only [List.set, List.filter]
    rw [nI_mi]
    refine lrs_lp (gg := gg) (Wm_ro hW (f55_M hF)) (plM_f hP hF) h6 hT hT6 (show t < cb D by omega) (fun I2 v4 v5 v6 f2 h2 => ?_) T 0 I1 _ _ _ (by omega) f55_r ⟨fun s hs => absurd hs (Nat.not_lt_zero _), hM⟩
    refine m_inc (pc := 168) (v := (-1)) dX12_laysRoster_168 rfl rfl ?_
    dsimp only [List.set, List.filter]
    refine s_goto (pc := 171) (tgt := 55) dX12_laysRoster_171 rfl ?_
    exact ih I2 _ _ _ _ (by omega) (f55_t hF f2) h2
theorem c_X12_laysRoster (gg : Nat → Nat) (hW : Wm I D cs S) (hu : u < 2 ^ cc D) (h6 : roM u D ≤ 6) (hq : ∀ I', fMr I I' → plM D u I' → (∀ s, s < 2 ^ roM u D → tbW D cs S u gg 0 I' 0 s) → Q (.inl none) (Z I' J n w)) : Cn g (d + 7) mX12_laysRoster [.ref 534, .int (nI u)] (Z I J n w) Q := by
  have hb7 := hW.2.1.1
  have hc12 := hW.2.1.2.1
  have hp := p2_12 hc12
  obtain ⟨T, hT⟩ : ∃ z, z = 2 ^ roM u D := ⟨_, rfl⟩
  have hT6 : T ≤ 64 := by rw [hT]; exact Nat.pow_le_pow_right (n := 2) (by omega) h6
  show Rn g (d + 7) mX12_laysRoster 0 [.ref 534, .int (nI u), .retAddr 0, .retAddr 0, .retAddr 0, .retAddr 0, .retAddr 0] [] [] (Z I J n w) Q
  refine s_aload_n (pc := 0) (i := 0) dX12_laysRoster_0 rfl rfl ?_
  refine s_iload_n (pc := 1) (i := 1) dX12_laysRoster_1 rfl rfl ?_
  refine m_v1 (pc := 2) dX12_laysRoster_2 lk_X12_398 ok_X12_places (rcO o_534 (by decide) rfl) rfl rfl (c_X12_places hW (by omega) h6 (fun I1 f1 hP => kt_v ?_))
  refine m_ic (pc := 5) (v := 0) dX12_laysRoster_5 rfl ?_
  refine s_istore_n (pc := 6) (i := 2) dX12_laysRoster_6 rfl (Nat.le_of_ble_eq_true rfl) ?_
  dsimp only [List.set, List.filter]
  refine lri_lp (gg := gg) (Wm_ro hW f1) hP h6 hT hT6 (fun I2 f2 h2 => ?_) T 0 I1 (by omega) f55_r (fun s hs => absurd hs (Nat.not_lt_zero _))
  refine s_aload_n (pc := 48) (i := 0) dX12_laysRoster_48 rfl rfl ?_
  refine m_gi (pc := 49) dX12_laysRoster_49 ff_X12_154 rfl o_534 ?_
  refine m_nm (v' := nI (cb D)) ((Wm_ro hW (fMr_t f1 (f55_M f2))).1.1) ?_
  refine m_ic (pc := 52) (v := 1) dX12_laysRoster_52 rfl ?_
  refine s_isub (pc := 53) dX12_laysRoster_53 ?_
  refine m_nm (v' := nI (cb D) + -1) (nI_s1) ?_
  refine s_istore_n (pc := 54) (i := 2) dX12_laysRoster_54 rfl (Nat.le_of_ble_eq_true rfl) ?_
  dsimp only [List.set, List.filter]
  exact lrb_lp (gg := gg) (Wm_ro hW (fMr_t f1 (f55_M f2))) (plM_f hP f2) h6 hT hT6 (fun I3 f3 h3 => hq I3 (fMr_t f1 (fMr_t (f55_M f2) (f55_M f3))) (plM_f (plM_f hP f2) f3) (fun s hs => h3 s (by omega))) (cb D) I2 _ _ _ _ (Nat.le_refl _) f55_r h2
end S
