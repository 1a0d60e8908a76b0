section S
variable {g : aG} {d : Nat} {I : Nat → Nat → Int32} {J : Nat → Nat → Int64} {n w : Nat} {Q : aO → aS → Prop}
variable {σ : aS} {S : sD} {D : cD} {cs : List Nat} {b c k : Nat}
theorem few_1 {f : Nat → Nat} {i : Nat} : few f (i + 1) = some (match few f i with
    | none => f i
    | some v => min v (f i)) := rfl
theorem few_0 {f : Nat → Nat} {i : Nat} (h : i = 0) : (few f (i + 1)).getD 0 = f i := by subst h; rfl
theorem few_s {f : Nat → Nat} {i : Nat} (h : ¬ i = 0) : (few f (i + 1)).getD 0 = min ((few f i).getD 0) (f i) := by
  cases i with
  | zero => exact absurd rfl h
  | succ i => rfl
theorem few_g {f : Nat → Nat} {i : Nat} (h : 1 ≤ i) : ob (few f i) = nI ((few f i).getD 0) := by
  cases i with
  | zero => omega
  | succ i => rfl
theorem few_gb {f : Nat → Nat} {M : Nat} (hf : ∀ i, f i ≤ M) (i : Nat) : (few f i).getD 0 ≤ M := by
  cases e : few f i with
  | none => exact Nat.zero_le _
  | some v => exact few_b hf i v e
theorem spR_b {q m : Nat} {x : Int32} (hm : m < 49) : ∀ i, (spR D cs S q m x i).2.1 ≤ 96 := fun i => by
  have h := rgn_b (D := D) (cs := cs) (q := q) m (x + nI i, 0, S)
  show (rgn D cs q m (x + nI i, 0, S)).2.1 ≤ 96
  simp only [] at h; omega
theorem spn_lp {l q m a : Nat} {x : Int32} (hW : Wc I 33 D cs S) (hl : l ≤ 10) (hl1 : 1 ≤ l) (hq17 : q < 17) (hm : m < 49) (ha : a < 3) (hb : b < cb D) (hq : ∀ I', fR I I' → Q (.inl (some (.int (vSp D cs S x l q m a b)))) (Z I' J n w)) : ∀ f i I1, i + f = l → fR I I1 → Rn g (d + 9) mX11_span 60 [.ref 1, .int x, .int (nI l), .int (nI q), .int (nI m), .int (nI a), .int (nI b), .int (nI ((few (fun i => (spR D cs S q m x i).2.1) i).getD 0)), .int (nI (mst (fun i => (spR D cs S q m x i).2.1) i)), .int (nI (bc (fun i => sF (spR D cs S q m x i).2.2 b) i)), .int (nI i)] [] [] (Z I1 J n w) Q := by
  have hb7 := hW.2.1.1
  intro f
  induction f with
  | zero =>
    intro i I1 hi hF
    have e : l = i := by omega
    subst e
    refine s_iload (pc := 60) (i := 10) dX11_span_60 rfl ?_
    refine s_iload_n (pc := 62) (i := 2) dX11_span_62 rfl rfl ?_
    refine s_icge (pc := 63) (tgt := 158) dX11_span_63 rfl (fun h63 => ?_) (fun h63 => absurd (nI_le (a := l) (b := l) (by omega) (by omega)) h63)
    refine s_iload (pc := 158) (i := 5) dX11_span_158 rfl ?_
    refine s_ifne (pc := 160) (tgt := 168) dX11_span_160 rfl (fun h160 => ?_) (fun h160 => ?_)
    · have h160 : ¬ a = 0 := fun z => h160 ((nI_eq (a := a) (b := 0) (by omega) (by omega)).mpr z)
      refine s_iload (pc := 168) (i := 5) dX11_span_168 rfl ?_
      refine m_ic (pc := 170) (v := 1) dX11_span_170 rfl ?_
      refine s_icne (pc := 171) (tgt := 179) dX11_span_171 rfl (fun h171 => ?_) (fun h171 => ?_)
      · have h171 : ¬ a = 1 := fun z => h171 ((nI_eq (a := a) (b := 1) (by omega) (by omega)).mpr z)
        refine s_iload (pc := 179) (i := 9) dX11_span_179 rfl ?_
        refine s_ireturn (pc := 181) dX11_span_181 rfl rfl ?_
        have E : vSp D cs S x l q m a b = nI (bc (fun i => sF (spR D cs S q m x i).2.2 b) l) := by unfold vSp; rw [if_neg h160, if_neg (by omega)]
        rw [E] at hq; exact hq _ hF
      · have h171 : a = 1 := (nI_eq (a := a) (b := 1) (by omega) (by omega)).mp h171
        refine s_iload (pc := 174) (i := 8) dX11_span_174 rfl ?_
        refine s_goto (pc := 176) (tgt := 181) dX11_span_176 rfl ?_
        refine s_ireturn (pc := 181) dX11_span_181 rfl rfl ?_
        have E : vSp D cs S x l q m a b = nI (mst (fun i => (spR D cs S q m x i).2.1) l) := by unfold vSp; rw [if_neg h160, if_pos (by omega)]
        rw [E] at hq; exact hq _ hF
    · have h160 : a = 0 := (nI_eq (a := a) (b := 0) (by omega) (by omega)).mp h160
      refine s_iload (pc := 163) (i := 7) dX11_span_163 rfl ?_
      refine s_goto (pc := 165) (tgt := 181) dX11_span_165 rfl ?_
      refine s_ireturn (pc := 181) dX11_span_181 rfl rfl ?_
      have E : vSp D cs S x l q m a b = nI ((few (fun i => (spR D cs S q m x i).2.1) l).getD 0) := by unfold vSp; rw [if_pos h160]; exact few_g hl1
      rw [E] at hq; exact hq _ hF
  | succ f ih =>
    intro i I1 hi hF
    have hV : Wc I1 33 D cs S := ⟨Co_fr hW.1 (fun y j z1 z2 => hF y j (by omega) (by omega) (by omega)), hW.2.1, Lw_fr hW.2.2.1 (fun y j z1 z2 => hF y j (by omega) (by omega) (by omega)), hW.2.2.2.1, Sc_fr hW.2.2.2.2.1 (fun y j z1 z2 => hF y j (by omega) (by omega) (by omega)), hW.2.2.2.2.2⟩
    have hsb := spR_b (D := D) (cs := cs) (S := S) (q := q) (x := x) hm
    have hbi := hsb i
    have hmi := mst_b (f := (fun i => (spR D cs S q m x i).2.1)) hsb i
    have hfi := few_gb (f := (fun i => (spR D cs S q m x i).2.1)) hsb i
    refine s_iload (pc := 60) (i := 10) dX11_span_60 rfl ?_
    refine s_iload_n (pc := 62) (i := 2) dX11_span_62 rfl rfl ?_
    refine s_icge (pc := 63) (tgt := 158) dX11_span_63 rfl (fun h63 => absurd h63 (nI_ge (a := i) (b := l) (by omega) (by omega))) (fun h63 => ?_)
    refine s_aload_n (pc := 66) (i := 0) dX11_span_66 rfl rfl ?_
    refine m_gr (pc := 67) dX11_span_67 ff_X11_99 rfl o_1 r_1_14 ?_
    refine s_aload_n (pc := 70) (i := 0) dX11_span_70 rfl rfl ?_
    refine m_gr (pc := 71) dX11_span_71 ff_X11_73 rfl o_1 r_1_10 ?_
    refine s_iload_n (pc := 74) (i := 1) dX11_span_74 rfl rfl ?_
    refine s_iload (pc := 75) (i := 10) dX11_span_75 rfl ?_
    refine s_iadd (pc := 77) dX11_span_77 ?_
    refine s_iload_n (pc := 78) (i := 3) dX11_span_78 rfl rfl ?_
    refine s_iload (pc := 79) (i := 4) dX11_span_79 rfl ?_
    refine m_v4 (pc := 81) dX11_span_81 lk_X11_373 ok_X7_run (rcO o_526 (by decide) rfl) rfl rfl (c_X7_run hV (by omega) (by omega) (fun I2 f2 h2 => kt_v ?_))
    · obtain ⟨I0, h2⟩ := h2
      have B2 : I2 526 3 = nI (spR D cs S q m x i).2.1 := h2.2.2.2.1
      refine s_iload (pc := 84) (i := 10) dX11_span_84 rfl ?_
      refine s_ifne (pc := 86) (tgt := 99) dX11_span_86 rfl (fun h86 => ?_) (fun h86 => ?_)
      · have h86 : ¬ i = 0 := fun z => h86 ((nI_eq (a := i) (b := 0) (by omega) (by omega)).mpr z)
        refine s_iload (pc := 99) (i := 7) dX11_span_99 rfl ?_
        refine s_aload_n (pc := 101) (i := 0) dX11_span_101 rfl rfl ?_
        refine m_gr (pc := 102) dX11_span_102 ff_X11_99 rfl o_1 r_1_14 ?_
        refine m_gi (pc := 105) dX11_span_105 ff_X11_377 rfl o_526 ?_
        refine m_nm (v' := nI (spR D cs S q m x i).2.1) (B2) ?_
        refine m_min (pc := 108) dX11_span_108 ml_X11_383 (Nat.le_of_ble_eq_true rfl) ?_
        refine m_nm (v' := nI ((few (fun i => (spR D cs S q m x i).2.1) (i + 1)).getD 0)) (by rw [few_s h86]; exact min_n (by omega) (by omega)) ?_
        refine s_istore (pc := 111) (i := 7) dX11_span_111 (Nat.le_of_ble_eq_true rfl) ?_
        dsimp only [List.set, List.filter]
        refine s_iload (pc := 113) (i := 8) dX11_span_113 rfl ?_
        refine s_aload_n (pc := 115) (i := 0) dX11_span_115 rfl rfl ?_
        refine m_gr (pc := 116) dX11_span_116 ff_X11_99 rfl o_1 r_1_14 ?_
        refine m_gi (pc := 119) dX11_span_119 ff_X11_377 rfl o_526 ?_
        refine m_nm (v' := nI (spR D cs S q m x i).2.1) (B2) ?_
        refine m_max (pc := 122) dX11_span_122 ml_X11_388 (Nat.le_of_ble_eq_true rfl) ?_
        refine m_nm (v' := nI (mst (fun i => (spR D cs S q m x i).2.1) (i + 1))) (max_n (by omega) (by omega)) ?_
        refine s_istore (pc := 125) (i := 8) dX11_span_125 (Nat.le_of_ble_eq_true rfl) ?_
        dsimp only [List.set, List.filter]
        refine s_iload (pc := 127) (i := 9) dX11_span_127 rfl ?_
        refine s_aload_n (pc := 129) (i := 0) dX11_span_129 rfl rfl ?_
        refine m_gr (pc := 130) dX11_span_130 ff_X11_99 rfl o_1 r_1_14 ?_
        refine m_gr (pc := 133) dX11_span_133 ff_X11_380 rfl o_526 r_526_1 ?_
        refine s_iload (pc := 136) (i := 6) dX11_span_136 rfl ?_
        refine m_v1 (pc := 138) dX11_span_138 lk_X11_227 ok_X9_hasFallen (rcO o_527 (by decide) rfl) rfl rfl (c_X9_hasFallen sO_527 h2.2.1.2.2.2.2.1 (by omega) (fun h => kt_s ?_) (fun h => kt_s ?_))
        · refine s_ifeq (pc := 141) (tgt := 148) dX11_span_141 rfl (fun h141 => absurd h141 (by decide)) (fun h141 => ?_)
          refine m_ic (pc := 144) (v := 1) dX11_span_144 rfl ?_
          refine s_goto (pc := 145) (tgt := 149) dX11_span_145 rfl ?_
          refine s_iadd (pc := 149) dX11_span_149 ?_
          refine m_nm (v' := nI ((bc (fun i => sF (spR D cs S q m x i).2.2 b) i) + 1)) (nI_add (bc (fun i => sF (spR D cs S q m x i).2.2 b) i) 1) ?_
          rw [← bc_y (q := (fun i => sF (spR D cs S q m x i).2.2 b)) h]
          refine s_istore (pc := 150) (i := 9) dX11_span_150 (Nat.le_of_ble_eq_true rfl) ?_
          dsimp only [List.set, List.filter]
          refine m_inc (pc := 152) (v := 1) dX11_span_152 rfl rfl ?_
          dsimp only [List.set, List.filter]
          rw [nI_1]
          refine s_goto (pc := 155) (tgt := 60) dX11_span_155 rfl ?_
          exact ih (i + 1) I2 (by omega) (fR_t hF f2)
        · refine s_ifeq (pc := 141) (tgt := 148) dX11_span_141 rfl (fun h141 => ?_) (fun h141 => absurd h141 (by decide))
          refine m_ic (pc := 148) (v := 0) dX11_span_148 rfl ?_
          refine s_iadd (pc := 149) dX11_span_149 ?_
          refine m_nm (v' := nI ((bc (fun i => sF (spR D cs S q m x i).2.2 b) i) + 0)) (nI_add (bc (fun i => sF (spR D cs S q m x i).2.2 b) i) 0) ?_
          rw [Nat.add_zero, ← bc_n (q := (fun i => sF (spR D cs S q m x i).2.2 b)) h]
          refine s_istore (pc := 150) (i := 9) dX11_span_150 (Nat.le_of_ble_eq_true rfl) ?_
          dsimp only [List.set, List.filter]
          refine m_inc (pc := 152) (v := 1) dX11_span_152 rfl rfl ?_
          dsimp only [List.set, List.filter]
          rw [nI_1]
          refine s_goto (pc := 155) (tgt := 60) dX11_span_155 rfl ?_
          exact ih (i + 1) I2 (by omega) (fR_t hF f2)
      · have h86 : i = 0 := (nI_eq (a := i) (b := 0) (by omega) (by omega)).mp h86
        refine s_aload_n (pc := 89) (i := 0) dX11_span_89 rfl rfl ?_
        refine m_gr (pc := 90) dX11_span_90 ff_X11_99 rfl o_1 r_1_14 ?_
        refine m_gi (pc := 93) dX11_span_93 ff_X11_377 rfl o_526 ?_
        refine m_nm (v' := nI ((few (fun i => (spR D cs S q m x i).2.1) (i + 1)).getD 0)) (by rw [few_0 h86]; exact B2) ?_
        refine s_goto (pc := 96) (tgt := 111) dX11_span_96 rfl ?_
        refine s_istore (pc := 111) (i := 7) dX11_span_111 (Nat.le_of_ble_eq_true rfl) ?_
        dsimp only [List.set, List.filter]
        refine s_iload (pc := 113) (i := 8) dX11_span_113 rfl ?_
        refine s_aload_n (pc := 115) (i := 0) dX11_span_115 rfl rfl ?_
        refine m_gr (pc := 116) dX11_span_116 ff_X11_99 rfl o_1 r_1_14 ?_
        refine m_gi (pc := 119) dX11_span_119 ff_X11_377 rfl o_526 ?_
        refine m_nm (v' := nI (spR D cs S q m x i).2.1) (B2) ?_
        refine m_max (pc := 122) dX11_span_122 ml_X11_388 (Nat.le_of_ble_eq_true rfl) ?_
        refine m_nm (v' := nI (mst (fun i => (spR D cs S q m x i).2.1) (i + 1))) (max_n (by omega) (by omega)) ?_
        refine s_istore (pc := 125) (i := 8) dX11_span_125 (Nat.le_of_ble_eq_true rfl) ?_
        dsimp only [List.set, List.filter]
        refine s_iload (pc := 127) (i := 9) dX11_span_127 rfl ?_
        refine s_aload_n (pc := 129) (i := 0) dX11_span_129 rfl rfl ?_
        refine m_gr (pc := 130) dX11_span_130 ff_X11_99 rfl o_1 r_1_14 ?_
        refine m_gr (pc := 133) dX11_span_133 ff_X11_380 rfl o_526 r_526_1 ?_
        refine s_iload (pc := 136) (i := 6) dX11_span_136 rfl ?_
        refine m_v1 (pc := 138) dX11_span_138 lk_X11_227 ok_X9_hasFallen (rcO o_527 (by decide) rfl) rfl rfl (c_X9_hasFallen sO_527 h2.2.1.2.2.2.2.1 (by omega) (fun h => kt_s ?_) (fun h => kt_s ?_))
        · refine s_ifeq (pc := 141) (tgt := 148) dX11_span_141 rfl (fun h141 => absurd h141 (by decide)) (fun h141 => ?_)
          refine m_ic (pc := 144) (v := 1) dX11_span_144 rfl ?_
          refine s_goto (pc := 145) (tgt := 149) dX11_span_145 rfl ?_
          refine s_iadd (pc := 149) dX11_span_149 ?_
          refine m_nm (v' := nI ((bc (fun i => sF (spR D cs S q m x i).2.2 b) i) + 1)) (nI_add (bc (fun i => sF (spR D cs S q m x i).2.2 b) i) 1) ?_
          rw [← bc_y (q := (fun i => sF (spR D cs S q m x i).2.2 b)) h]
          refine s_istore (pc := 150) (i := 9) dX11_span_150 (Nat.le_of_ble_eq_true rfl) ?_
          dsimp only [List.set, List.filter]
          refine m_inc (pc := 152) (v := 1) dX11_span_152 rfl rfl ?_
          dsimp only [List.set, List.filter]
          rw [nI_1]
          refine s_goto (pc := 155) (tgt := 60) dX11_span_155 rfl ?_
          exact ih (i + 1) I2 (by omega) (fR_t hF f2)
        · refine s_ifeq (pc := 141) (tgt := 148) dX11_span_141 rfl (fun h141 => ?_) (fun h141 => absurd h141 (by decide))
          refine m_ic (pc := 148) (v := 0) dX11_span_148 rfl ?_
          refine s_iadd (pc := 149) dX11_span_149 ?_
          refine m_nm (v' := nI ((bc (fun i => sF (spR D cs S q m x i).2.2 b) i) + 0)) (nI_add (bc (fun i => sF (spR D cs S q m x i).2.2 b) i) 0) ?_
          rw [Nat.add_zero, ← bc_n (q := (fun i => sF (spR D cs S q m x i).2.2 b)) h]
          refine s_istore (pc := 150) (i := 9) dX11_span_150 (Nat.le_of_ble_eq_true rfl) ?_
          dsimp only [List.set, List.filter]
          refine m_inc (pc := 152) (v := 1) dX11_span_152 rfl rfl ?_
          dsimp only [List.set, List.filter]
          rw [nI_1]
          refine s_goto (pc := 155) (tgt := 60) dX11_span_155 rfl ?_
          exact ih (i + 1) I2 (by omega) (fR_t hF f2)
theorem c_X11_span (hW : Wc I 33 D cs S) (hn : n + 1 ≤ 600000 ∧ w + 6 ≤ 7000000) {x y z u v5 v6 : Int32} (r0 : ¬ iv 1 (11) y → Q (.inr 1) (Z (up I 1 18 (I 1 18 + 1)) J (n + 1) (w + 6))) (r1 : iv 1 (11) y → ¬ iv 0 (17) z → Q (.inr 1) (Z (up I 1 18 (I 1 18 + 1)) J (n + 1) (w + 6))) (r2 : iv 1 (11) y → iv 0 (17) z → ¬ iv 1 (49) u → Q (.inr 1) (Z (up I 1 18 (I 1 18 + 1)) J (n + 1) (w + 6))) (r3 : iv 1 (11) y → iv 0 (17) z → iv 1 (49) u → ¬ iv 0 (3) v5 → Q (.inr 1) (Z (up I 1 18 (I 1 18 + 1)) J (n + 1) (w + 6))) (r4 : iv 1 (11) y → iv 0 (17) z → iv 1 (49) u → iv 0 (3) v5 → ¬ iv 0 (cb D) v6 → Q (.inr 1) (Z (up I 1 18 (I 1 18 + 1)) J (n + 1) (w + 6))) (hg : ∀ l, ∀ q, ∀ m, ∀ a, ∀ b, y = nI l → 1 ≤ l → l < 11 → z = nI q → q < 17 → u = nI m → 1 ≤ m → m < 49 → v5 = nI a → a < 3 → v6 = nI b → b < cb D → ∀ I', kc I I' → Q (.inl (some (.int (vSp D cs S x l q m a b)))) (Z I' J n w)) : Cn g (d + 9) mX11_span [.ref 1, .int x, .int y, .int z, .int u, .int v5, .int v6] (Z I J n w) Q := by
  have hb7 := hW.2.1.1
  have hc12 := hW.2.1.2.1
  show Rn g (d + 9) mX11_span 0 [.ref 1, .int x, .int y, .int z, .int u, .int v5, .int v6, .retAddr 0, .retAddr 0, .retAddr 0, .retAddr 0] [] [] (Z I J n w) Q
  refine s_aload_n (pc := 0) (i := 0) dX11_span_0 rfl rfl ?_
  refine s_iload_n (pc := 1) (i := 2) dX11_span_1 rfl rfl ?_
  refine m_ic (pc := 2) (v := 1) dX11_span_2 rfl ?_
  refine m_bi (pc := 3) (v := 10) dX11_span_3 rfl ?_
  refine m_v3 (pc := 5) dX11_span_5 lk_X11_267 ok_X11_needRange (rcO o_1 (by decide) rfl) rfl rfl (c_nr (lo := 1) (m := 11) rfl rfl (by omega) hn (fun l el ll hl => kt_v ?_) (fun z => kt_x ?_))
  · subst el
    refine s_aload_n (pc := 8) (i := 0) dX11_span_8 rfl rfl ?_
    refine s_iload_n (pc := 9) (i := 3) dX11_span_9 rfl rfl ?_
    refine m_ic (pc := 10) (v := 0) dX11_span_10 rfl ?_
    refine m_bi (pc := 11) (v := 16) dX11_span_11 rfl ?_
    refine m_v3 (pc := 13) dX11_span_13 lk_X11_267 ok_X11_needRange (rcO o_1 (by decide) rfl) rfl rfl (c_nr (lo := 0) (m := 17) rfl rfl (by omega) hn (fun q eq lq hq => kt_v ?_) (fun z => kt_x ?_))
    · subst eq
      refine s_aload_n (pc := 16) (i := 0) dX11_span_16 rfl rfl ?_
      refine s_iload (pc := 17) (i := 4) dX11_span_17 rfl ?_
      refine m_ic (pc := 19) (v := 1) dX11_span_19 rfl ?_
      refine m_bi (pc := 20) (v := 48) dX11_span_20 rfl ?_
      refine m_v3 (pc := 22) dX11_span_22 lk_X11_267 ok_X11_needRange (rcO o_1 (by decide) rfl) rfl rfl (c_nr (lo := 1) (m := 49) rfl rfl (by omega) hn (fun m em lm hm => kt_v ?_) (fun z => kt_x ?_))
      · subst em
        refine s_aload_n (pc := 25) (i := 0) dX11_span_25 rfl rfl ?_
        refine s_iload (pc := 26) (i := 5) dX11_span_26 rfl ?_
        refine m_ic (pc := 28) (v := 3) dX11_span_28 rfl ?_
        refine m_v2 (pc := 29) dX11_span_29 lk_X11_181 ok_X11_needWhat (rcO o_1 (by decide) rfl) rfl rfl (c_nw (m := 3) rfl (by decide) hn (fun a ea ha => kt_v ?_) (fun z => kt_x ?_))
        · subst ea
          refine s_aload_n (pc := 32) (i := 0) dX11_span_32 rfl rfl ?_
          refine s_iload (pc := 33) (i := 6) dX11_span_33 rfl ?_
          refine m_ic (pc := 35) (v := 0) dX11_span_35 rfl ?_
          refine s_aload_n (pc := 36) (i := 0) dX11_span_36 rfl rfl ?_
          refine m_gr (pc := 37) dX11_span_37 ff_X11_19 rfl o_1 r_1_1 ?_
          refine m_gi (pc := 40) dX11_span_40 ff_X11_143 rfl o_4 ?_
          refine m_nm (v' := nI (cb D)) (hW.1.1) ?_
          refine m_ic (pc := 43) (v := 1) dX11_span_43 rfl ?_
          refine s_isub (pc := 44) dX11_span_44 ?_
          refine m_v3 (pc := 45) dX11_span_45 lk_X11_267 ok_X11_needRange (rcO o_1 (by decide) rfl) rfl rfl (c_nr (lo := 0) (m := cb D) rfl rfl (by omega) hn (fun b eb lb hb => kt_v ?_) (fun z => kt_x ?_))
          · subst eb
            refine m_ic (pc := 48) (v := 0) dX11_span_48 rfl ?_
            refine s_istore (pc := 49) (i := 7) dX11_span_49 (Nat.le_of_ble_eq_true rfl) ?_
            dsimp only [List.set, List.filter]
            refine m_ic (pc := 51) (v := 0) dX11_span_51 rfl ?_
            refine s_istore (pc := 52) (i := 8) dX11_span_52 (Nat.le_of_ble_eq_true rfl) ?_
            dsimp only [List.set, List.filter]
            refine m_ic (pc := 54) (v := 0) dX11_span_54 rfl ?_
            refine s_istore (pc := 55) (i := 9) dX11_span_55 (Nat.le_of_ble_eq_true rfl) ?_
            dsimp only [List.set, List.filter]
            refine m_ic (pc := 57) (v := 0) dX11_span_57 rfl ?_
            refine s_istore (pc := 58) (i := 10) dX11_span_58 (Nat.le_of_ble_eq_true rfl) ?_
            dsimp only [List.set, List.filter]
            exact spn_lp hW (by omega) ll hq hm ha hb (fun I' f => hg l q m a b rfl ll hl rfl hq rfl lm hm rfl ha rfl hb I' (kc_R f)) l 0 I (by omega) fR_r
          · exact r4 ⟨l, rfl, ll, hl⟩ ⟨q, rfl, Nat.zero_le _, hq⟩ ⟨m, rfl, lm, hm⟩ ⟨a, rfl, Nat.zero_le _, ha⟩ z
        · exact r3 ⟨l, rfl, ll, hl⟩ ⟨q, rfl, Nat.zero_le _, hq⟩ ⟨m, rfl, lm, hm⟩ z
      · exact r2 ⟨l, rfl, ll, hl⟩ ⟨q, rfl, Nat.zero_le _, hq⟩ z
    · exact r1 ⟨l, rfl, ll, hl⟩ z
  · exact r0  z
theorem bc_i {q : Nat → Bool} {i : Nat} : nI (bc q i) + (if q i = true then 1 else 0) = nI (bc q (i + 1)) := bc_1
theorem msp_lp {l q m a : Nat} {x : Int32} (hW : Wn I D cs S) (hl : l ≤ 10) (hl1 : 1 ≤ l) (hq17 : q < 17) (hm : m < 49) (ha : a < 3) (hb : b < cb D) (hq : ∀ I', fN I I' → Q (.inl (some (.int (vSp D cs S x l q m a b)))) (Z I' J n w)) : ∀ f i I1 (v11 : Value), i + f = l → fN I I1 → Rn g (d + 8) mX12_span 77 [.ref 534, .int x, .int (nI l), .int (nI q), .int (nI m), .int (nI a), .int (nI b), .int (ob (few (fun i => (spR D cs S q m x i).2.1) i)), .int (nI (mst (fun i => (spR D cs S q m x i).2.1) i)), .int (nI (bc (fun i => sF (spR D cs S q m x i).2.2 b) i)), .int (nI i), v11] [] [] (Z I1 J n w) Q := by
  have hb7 := hW.2.1.1
  intro f
  induction f with
  | zero =>
    intro i I1 v11 hi hF
    have e : l = i := by omega
    subst e
    refine s_iload (pc := 77) (i := 10) dX12_span_77 rfl ?_
    refine s_iload_n (pc := 79) (i := 2) dX12_span_79 rfl rfl ?_
    refine s_icge (pc := 80) (tgt := 159) dX12_span_80 rfl (fun h80 => ?_) (fun h80 => absurd (nI_le (a := l) (b := l) (by omega) (by omega)) h80)
    refine s_iload (pc := 159) (i := 5) dX12_span_159 rfl ?_
    refine s_ifne (pc := 161) (tgt := 169) dX12_span_161 rfl (fun h161 => ?_) (fun h161 => ?_)
    · have h161 : ¬ a = 0 := fun z => h161 ((nI_eq (a := a) (b := 0) (by omega) (by omega)).mpr z)
      refine s_iload (pc := 169) (i := 5) dX12_span_169 rfl ?_
      refine m_ic (pc := 171) (v := 1) dX12_span_171 rfl ?_
      refine s_icne (pc := 172) (tgt := 180) dX12_span_172 rfl (fun h172 => ?_) (fun h172 => ?_)
      · have h172 : ¬ a = 1 := fun z => h172 ((nI_eq (a := a) (b := 1) (by omega) (by omega)).mpr z)
        refine s_iload (pc := 180) (i := 9) dX12_span_180 rfl ?_
        refine s_ireturn (pc := 182) dX12_span_182 rfl rfl ?_
        have E : vSp D cs S x l q m a b = nI (bc (fun i => sF (spR D cs S q m x i).2.2 b) l) := by unfold vSp; rw [if_neg h161, if_neg (by omega)]
        rw [E] at hq; exact hq _ hF
      · have h172 : a = 1 := (nI_eq (a := a) (b := 1) (by omega) (by omega)).mp h172
        refine s_iload (pc := 175) (i := 8) dX12_span_175 rfl ?_
        refine s_goto (pc := 177) (tgt := 182) dX12_span_177 rfl ?_
        refine s_ireturn (pc := 182) dX12_span_182 rfl rfl ?_
        have E : vSp D cs S x l q m a b = nI (mst (fun i => (spR D cs S q m x i).2.1) l) := by unfold vSp; rw [if_neg h161, if_pos (by omega)]
        rw [E] at hq; exact hq _ hF
    · have h161 : a = 0 := (nI_eq (a := a) (b := 0) (by omega) (by omega)).mp h161
      refine s_iload (pc := 164) (i := 7) dX12_span_164 rfl ?_
      refine s_goto (pc := 166) (tgt := 182) dX12_span_166 rfl ?_
      refine s_ireturn (pc := 182) dX12_span_182 rfl rfl ?_
      have E : vSp D cs S x l q m a b = ob (few (fun i => (spR D cs S q m x i).2.1) l) := by unfold vSp; rw [if_pos h161]
      rw [E] at hq; exact hq _ hF
  | succ f ih =>
    intro i I1 v11 hi hF
    have hV : Wn I1 D cs S := ⟨Mo_fr hW.1 (fun y j z => hF y j (by omega) (by omega) (by omega) (by omega)), hW.2.1, Lq_fr hW.2.2.1 (fun y j z => hF y j (by omega) (by omega) (by omega) (by omega)), hW.2.2.2.1, Sm_fr hW.2.2.2.2.1 (fun j _ => hF 549 j (by decide) (by decide) (by decide) (by omega)), hW.2.2.2.2.2⟩
    have hsb := spR_b (D := D) (cs := cs) (S := S) (q := q) (x := x) hm
    have hbi := hsb i
    have hmi := mst_b (f := (fun i => (spR D cs S q m x i).2.1)) hsb i
    cases e : few (fun i => (spR D cs S q m x i).2.1) i with
    | none =>
      refine s_iload (pc := 77) (i := 10) dX12_span_77 rfl ?_
      refine s_iload_n (pc := 79) (i := 2) dX12_span_79 rfl rfl ?_
      refine s_icge (pc := 80) (tgt := 159) dX12_span_80 rfl (fun h80 => absurd h80 (nI_ge (a := i) (b := l) (by omega) (by omega))) (fun h80 => ?_)
      refine s_aload_n (pc := 83) (i := 0) dX12_span_83 rfl rfl ?_
      refine s_iload_n (pc := 84) (i := 1) dX12_span_84 rfl rfl ?_
      refine s_iload (pc := 85) (i := 10) dX12_span_85 rfl ?_
      refine s_iadd (pc := 87) dX12_span_87 ?_
      refine s_iload_n (pc := 88) (i := 3) dX12_span_88 rfl rfl ?_
      refine s_iload (pc := 89) (i := 4) dX12_span_89 rfl ?_
      refine m_v3 (pc := 91) dX12_span_91 lk_X12_456 ok_X12_reignGoes (rcO o_534 (by decide) rfl) rfl rfl (c_X12_reignGoes hV (by omega) (by omega) (fun I2 f2 W2 R2 => kt_v ?_))
      · have S2 : Sm (I2 549) S := Sm_fr hW.2.2.2.2.1 (fun j _ => (fN_t hF f2) 549 j (by decide) (by decide) (by decide) (by omega))
        refine s_aload_n (pc := 94) (i := 0) dX12_span_94 rfl rfl ?_
        refine m_v0 (pc := 95) dX12_span_95 lk_X12_459 ok_X12_borneMore (rcO o_534 (by decide) rfl) rfl rfl (c_X12_borneMore (R := spR D cs S q m x i) W2.1.2.1 W2.2.1 S2 W2.2.2.2.2.1 R2 (kt_s ?_))
        refine s_istore (pc := 98) (i := 11) dX12_span_98 (Nat.le_of_ble_eq_true rfl) ?_
        dsimp only [List.set, List.filter]
        refine s_iload (pc := 100) (i := 7) dX12_span_100 rfl ?_
        refine m_ic (pc := 102) (v := -1) dX12_span_102 rfl ?_
        refine s_iceq (pc := 103) (tgt := 113) dX12_span_103 rfl (fun h103 => ?_) (fun h103 => absurd h103 (by decide))
        refine s_iload (pc := 113) (i := 11) dX12_span_113 rfl ?_
        refine s_goto (pc := 115) (tgt := 120) dX12_span_115 rfl ?_
        refine s_istore (pc := 120) (i := 7) dX12_span_120 (Nat.le_of_ble_eq_true rfl) ?_
        dsimp only [List.set, List.filter]
        refine s_iload (pc := 122) (i := 11) dX12_span_122 rfl ?_
        refine s_iload (pc := 124) (i := 8) dX12_span_124 rfl ?_
        refine s_icle (pc := 126) (tgt := 134) dX12_span_126 rfl (fun h126 => ?_) (fun h126 => ?_)
        · have h126 : ((spR D cs S q m x i).2.1) ≤ (mst (fun i => (spR D cs S q m x i).2.1) i) := (nI_leI (a := (spR D cs S q m x i).2.1) (b := mst (fun i => (spR D cs S q m x i).2.1) i) (by omega) (by omega)).mp h126
          refine s_iload (pc := 134) (i := 8) dX12_span_134 rfl ?_
          refine s_istore (pc := 136) (i := 8) dX12_span_136 (Nat.le_of_ble_eq_true rfl) ?_
          dsimp only [List.set, List.filter]
          refine s_iload (pc := 138) (i := 9) dX12_span_138 rfl ?_
          refine s_aload_n (pc := 140) (i := 0) dX12_span_140 rfl rfl ?_
          refine m_gr (pc := 141) dX12_span_141 ff_X12_62 rfl o_534 r_534_37 ?_
          refine m_bi (pc := 144) (v := 91) dX12_span_144 rfl ?_
          refine s_iload (pc := 146) (i := 6) dX12_span_146 rfl ?_
          refine s_iadd (pc := 148) dX12_span_148 ?_
          refine m_nm (v' := nI (91 + b)) (nI_add 91 b) ?_
          refine m_ia (pc := 149) dX12_span_149 a_550 (vp_in_nI (n := 91 + b) (by omega) (by decide)) ?_
          refine m_nm (v' := if (fun i => sF (spR D cs S q m x i).2.2 b) i = true then 1 else 0) (rdI (j := 91 + b) ((W2.2.2.2.2.1.1 b (by omega)).2.1) (by omega)) ?_
          refine s_iadd (pc := 150) dX12_span_150 ?_
          refine m_nm (v' := nI (bc (fun i => sF (spR D cs S q m x i).2.2 b) (i + 1))) (bc_1) ?_
          refine s_istore (pc := 151) (i := 9) dX12_span_151 (Nat.le_of_ble_eq_true rfl) ?_
          dsimp only [List.set, List.filter]
          refine m_inc (pc := 153) (v := 1) dX12_span_153 rfl rfl ?_
          dsimp only [List.set, List.filter]
          rw [nI_1]
          refine s_goto (pc := 156) (tgt := 77) dX12_span_156 rfl ?_
          have h := ih (i + 1) I2 (.int (nI (spR D cs S q m x i).2.1)) (by omega) (fN_t hF f2)
          rw [show few (fun i => (spR D cs S q m x i).2.1) (i + 1) = some (spR D cs S q m x i).2.1 from by rw [few_1, e], show mst (fun i => (spR D cs S q m x i).2.1) (i + 1) = mst (fun i => (spR D cs S q m x i).2.1) i from Nat.max_eq_left (show (spR D cs S q m x i).2.1 ≤ mst (fun i => (spR D cs S q m x i).2.1) i by omega)] at h; exact h
        · have h126 : ¬ ((spR D cs S q m x i).2.1) ≤ (mst (fun i => (spR D cs S q m x i).2.1) i) := fun z => h126 ((nI_leI (a := (spR D cs S q m x i).2.1) (b := mst (fun i => (spR D cs S q m x i).2.1) i) (by omega) (by omega)).mpr z)
          refine s_iload (pc := 129) (i := 11) dX12_span_129 rfl ?_
          refine s_goto (pc := 131) (tgt := 136) dX12_span_131 rfl ?_
          refine s_istore (pc := 136) (i := 8) dX12_span_136 (Nat.le_of_ble_eq_true rfl) ?_
          dsimp only [List.set, List.filter]
          refine s_iload (pc := 138) (i := 9) dX12_span_138 rfl ?_
          refine s_aload_n (pc := 140) (i := 0) dX12_span_140 rfl rfl ?_
          refine m_gr (pc := 141) dX12_span_141 ff_X12_62 rfl o_534 r_534_37 ?_
          refine m_bi (pc := 144) (v := 91) dX12_span_144 rfl ?_
          refine s_iload (pc := 146) (i := 6) dX12_span_146 rfl ?_
          refine s_iadd (pc := 148) dX12_span_148 ?_
          refine m_nm (v' := nI (91 + b)) (nI_add 91 b) ?_
          refine m_ia (pc := 149) dX12_span_149 a_550 (vp_in_nI (n := 91 + b) (by omega) (by decide)) ?_
          refine m_nm (v' := if (fun i => sF (spR D cs S q m x i).2.2 b) i = true then 1 else 0) (rdI (j := 91 + b) ((W2.2.2.2.2.1.1 b (by omega)).2.1) (by omega)) ?_
          refine s_iadd (pc := 150) dX12_span_150 ?_
          refine m_nm (v' := nI (bc (fun i => sF (spR D cs S q m x i).2.2 b) (i + 1))) (bc_1) ?_
          refine s_istore (pc := 151) (i := 9) dX12_span_151 (Nat.le_of_ble_eq_true rfl) ?_
          dsimp only [List.set, List.filter]
          refine m_inc (pc := 153) (v := 1) dX12_span_153 rfl rfl ?_
          dsimp only [List.set, List.filter]
          rw [nI_1]
          refine s_goto (pc := 156) (tgt := 77) dX12_span_156 rfl ?_
          have h := ih (i + 1) I2 (.int (nI (spR D cs S q m x i).2.1)) (by omega) (fN_t hF f2)
          rw [show few (fun i => (spR D cs S q m x i).2.1) (i + 1) = some (spR D cs S q m x i).2.1 from by rw [few_1, e], show mst (fun i => (spR D cs S q m x i).2.1) (i + 1) = (spR D cs S q m x i).2.1 from Nat.max_eq_right (show mst (fun i => (spR D cs S q m x i).2.1) i ≤ (spR D cs S q m x i).2.1 by omega)] at h; exact h
    | some v =>
      have hfi := few_b (f := (fun i => (spR D cs S q m x i).2.1)) hsb i v e
      refine s_iload (pc := 77) (i := 10) dX12_span_77 rfl ?_
      refine s_iload_n (pc := 79) (i := 2) dX12_span_79 rfl rfl ?_
      refine s_icge (pc := 80) (tgt := 159) dX12_span_80 rfl (fun h80 => absurd h80 (nI_ge (a := i) (b := l) (by omega) (by omega))) (fun h80 => ?_)
      refine s_aload_n (pc := 83) (i := 0) dX12_span_83 rfl rfl ?_
      refine s_iload_n (pc := 84) (i := 1) dX12_span_84 rfl rfl ?_
      refine s_iload (pc := 85) (i := 10) dX12_span_85 rfl ?_
      refine s_iadd (pc := 87) dX12_span_87 ?_
      refine s_iload_n (pc := 88) (i := 3) dX12_span_88 rfl rfl ?_
      refine s_iload (pc := 89) (i := 4) dX12_span_89 rfl ?_
      refine m_v3 (pc := 91) dX12_span_91 lk_X12_456 ok_X12_reignGoes (rcO o_534 (by decide) rfl) rfl rfl (c_X12_reignGoes hV (by omega) (by omega) (fun I2 f2 W2 R2 => kt_v ?_))
      · have S2 : Sm (I2 549) S := Sm_fr hW.2.2.2.2.1 (fun j _ => (fN_t hF f2) 549 j (by decide) (by decide) (by decide) (by omega))
        refine s_aload_n (pc := 94) (i := 0) dX12_span_94 rfl rfl ?_
        refine m_v0 (pc := 95) dX12_span_95 lk_X12_459 ok_X12_borneMore (rcO o_534 (by decide) rfl) rfl rfl (c_X12_borneMore (R := spR D cs S q m x i) W2.1.2.1 W2.2.1 S2 W2.2.2.2.2.1 R2 (kt_s ?_))
        refine s_istore (pc := 98) (i := 11) dX12_span_98 (Nat.le_of_ble_eq_true rfl) ?_
        dsimp only [List.set, List.filter]
        refine s_iload (pc := 100) (i := 7) dX12_span_100 rfl ?_
        refine m_ic (pc := 102) (v := -1) dX12_span_102 rfl ?_
        refine s_iceq (pc := 103) (tgt := 113) dX12_span_103 rfl (fun h103 => absurd h103 (nI_m1 (by omega))) (fun h103 => ?_)
        refine s_iload (pc := 106) (i := 11) dX12_span_106 rfl ?_
        refine s_iload (pc := 108) (i := 7) dX12_span_108 rfl ?_
        refine s_icge (pc := 110) (tgt := 118) dX12_span_110 rfl (fun h110 => ?_) (fun h110 => ?_)
        · have h110 : v ≤ ((spR D cs S q m x i).2.1) := (nI_leI (a := v) (b := (spR D cs S q m x i).2.1) (by omega) (by omega)).mp h110
          refine s_iload (pc := 118) (i := 7) dX12_span_118 rfl ?_
          refine s_istore (pc := 120) (i := 7) dX12_span_120 (Nat.le_of_ble_eq_true rfl) ?_
          dsimp only [List.set, List.filter]
          refine s_iload (pc := 122) (i := 11) dX12_span_122 rfl ?_
          refine s_iload (pc := 124) (i := 8) dX12_span_124 rfl ?_
          refine s_icle (pc := 126) (tgt := 134) dX12_span_126 rfl (fun h126 => ?_) (fun h126 => ?_)
          · have h126 : ((spR D cs S q m x i).2.1) ≤ (mst (fun i => (spR D cs S q m x i).2.1) i) := (nI_leI (a := (spR D cs S q m x i).2.1) (b := mst (fun i => (spR D cs S q m x i).2.1) i) (by omega) (by omega)).mp h126
            refine s_iload (pc := 134) (i := 8) dX12_span_134 rfl ?_
            refine s_istore (pc := 136) (i := 8) dX12_span_136 (Nat.le_of_ble_eq_true rfl) ?_
            dsimp only [List.set, List.filter]
            refine s_iload (pc := 138) (i := 9) dX12_span_138 rfl ?_
            refine s_aload_n (pc := 140) (i := 0) dX12_span_140 rfl rfl ?_
            refine m_gr (pc := 141) dX12_span_141 ff_X12_62 rfl o_534 r_534_37 ?_
            refine m_bi (pc := 144) (v := 91) dX12_span_144 rfl ?_
            refine s_iload (pc := 146) (i := 6) dX12_span_146 rfl ?_
            refine s_iadd (pc := 148) dX12_span_148 ?_
            refine m_nm (v' := nI (91 + b)) (nI_add 91 b) ?_
            refine m_ia (pc := 149) dX12_span_149 a_550 (vp_in_nI (n := 91 + b) (by omega) (by decide)) ?_
            refine m_nm (v' := if (fun i => sF (spR D cs S q m x i).2.2 b) i = true then 1 else 0) (rdI (j := 91 + b) ((W2.2.2.2.2.1.1 b (by omega)).2.1) (by omega)) ?_
            refine s_iadd (pc := 150) dX12_span_150 ?_
            refine m_nm (v' := nI (bc (fun i => sF (spR D cs S q m x i).2.2 b) (i + 1))) (bc_1) ?_
            refine s_istore (pc := 151) (i := 9) dX12_span_151 (Nat.le_of_ble_eq_true rfl) ?_
            dsimp only [List.set, List.filter]
            refine m_inc (pc := 153) (v := 1) dX12_span_153 rfl rfl ?_
            dsimp only [List.set, List.filter]
            rw [nI_1]
            refine s_goto (pc := 156) (tgt := 77) dX12_span_156 rfl ?_
            have h := ih (i + 1) I2 (.int (nI (spR D cs S q m x i).2.1)) (by omega) (fN_t hF f2)
            rw [show few (fun i => (spR D cs S q m x i).2.1) (i + 1) = some v from by rw [few_1, e]; exact congrArg some (Nat.min_eq_left (show v ≤ (spR D cs S q m x i).2.1 by omega)), show mst (fun i => (spR D cs S q m x i).2.1) (i + 1) = mst (fun i => (spR D cs S q m x i).2.1) i from Nat.max_eq_left (show (spR D cs S q m x i).2.1 ≤ mst (fun i => (spR D cs S q m x i).2.1) i by omega)] at h; exact h
          · have h126 : ¬ ((spR D cs S q m x i).2.1) ≤ (mst (fun i => (spR D cs S q m x i).2.1) i) := fun z => h126 ((nI_leI (a := (spR D cs S q m x i).2.1) (b := mst (fun i => (spR D cs S q m x i).2.1) i) (by omega) (by omega)).mpr z)
            refine s_iload (pc := 129) (i := 11) dX12_span_129 rfl ?_
            refine s_goto (pc := 131) (tgt := 136) dX12_span_131 rfl ?_
            refine s_istore (pc := 136) (i := 8) dX12_span_136 (Nat.le_of_ble_eq_true rfl) ?_
            dsimp only [List.set, List.filter]
            refine s_iload (pc := 138) (i := 9) dX12_span_138 rfl ?_
            refine s_aload_n (pc := 140) (i := 0) dX12_span_140 rfl rfl ?_
            refine m_gr (pc := 141) dX12_span_141 ff_X12_62 rfl o_534 r_534_37 ?_
            refine m_bi (pc := 144) (v := 91) dX12_span_144 rfl ?_
            refine s_iload (pc := 146) (i := 6) dX12_span_146 rfl ?_
            refine s_iadd (pc := 148) dX12_span_148 ?_
            refine m_nm (v' := nI (91 + b)) (nI_add 91 b) ?_
            refine m_ia (pc := 149) dX12_span_149 a_550 (vp_in_nI (n := 91 + b) (by omega) (by decide)) ?_
            refine m_nm (v' := if (fun i => sF (spR D cs S q m x i).2.2 b) i = true then 1 else 0) (rdI (j := 91 + b) ((W2.2.2.2.2.1.1 b (by omega)).2.1) (by omega)) ?_
            refine s_iadd (pc := 150) dX12_span_150 ?_
            refine m_nm (v' := nI (bc (fun i => sF (spR D cs S q m x i).2.2 b) (i + 1))) (bc_1) ?_
            refine s_istore (pc := 151) (i := 9) dX12_span_151 (Nat.le_of_ble_eq_true rfl) ?_
            dsimp only [List.set, List.filter]
            refine m_inc (pc := 153) (v := 1) dX12_span_153 rfl rfl ?_
            dsimp only [List.set, List.filter]
            rw [nI_1]
            refine s_goto (pc := 156) (tgt := 77) dX12_span_156 rfl ?_
            have h := ih (i + 1) I2 (.int (nI (spR D cs S q m x i).2.1)) (by omega) (fN_t hF f2)
            rw [show few (fun i => (spR D cs S q m x i).2.1) (i + 1) = some v from by rw [few_1, e]; exact congrArg some (Nat.min_eq_left (show v ≤ (spR D cs S q m x i).2.1 by omega)), show mst (fun i => (spR D cs S q m x i).2.1) (i + 1) = (spR D cs S q m x i).2.1 from Nat.max_eq_right (show mst (fun i => (spR D cs S q m x i).2.1) i ≤ (spR D cs S q m x i).2.1 by omega)] at h; exact h
        · have h110 : ¬ v ≤ ((spR D cs S q m x i).2.1) := fun z => h110 ((nI_leI (a := v) (b := (spR D cs S q m x i).2.1) (by omega) (by omega)).mpr z)
          refine s_iload (pc := 113) (i := 11) dX12_span_113 rfl ?_
          refine s_goto (pc := 115) (tgt := 120) dX12_span_115 rfl ?_
          refine s_istore (pc := 120) (i := 7) dX12_span_120 (Nat.le_of_ble_eq_true rfl) ?_
          dsimp only [List.set, List.filter]
          refine s_iload (pc := 122) (i := 11) dX12_span_122 rfl ?_
          refine s_iload (pc := 124) (i := 8) dX12_span_124 rfl ?_
          refine s_icle (pc := 126) (tgt := 134) dX12_span_126 rfl (fun h126 => ?_) (fun h126 => ?_)
          · have h126 : ((spR D cs S q m x i).2.1) ≤ (mst (fun i => (spR D cs S q m x i).2.1) i) := (nI_leI (a := (spR D cs S q m x i).2.1) (b := mst (fun i => (spR D cs S q m x i).2.1) i) (by omega) (by omega)).mp h126
            refine s_iload (pc := 134) (i := 8) dX12_span_134 rfl ?_
            refine s_istore (pc := 136) (i := 8) dX12_span_136 (Nat.le_of_ble_eq_true rfl) ?_
            dsimp only [List.set, List.filter]
            refine s_iload (pc := 138) (i := 9) dX12_span_138 rfl ?_
            refine s_aload_n (pc := 140) (i := 0) dX12_span_140 rfl rfl ?_
            refine m_gr (pc := 141) dX12_span_141 ff_X12_62 rfl o_534 r_534_37 ?_
            refine m_bi (pc := 144) (v := 91) dX12_span_144 rfl ?_
            refine s_iload (pc := 146) (i := 6) dX12_span_146 rfl ?_
            refine s_iadd (pc := 148) dX12_span_148 ?_
            refine m_nm (v' := nI (91 + b)) (nI_add 91 b) ?_
            refine m_ia (pc := 149) dX12_span_149 a_550 (vp_in_nI (n := 91 + b) (by omega) (by decide)) ?_
            refine m_nm (v' := if (fun i => sF (spR D cs S q m x i).2.2 b) i = true then 1 else 0) (rdI (j := 91 + b) ((W2.2.2.2.2.1.1 b (by omega)).2.1) (by omega)) ?_
            refine s_iadd (pc := 150) dX12_span_150 ?_
            refine m_nm (v' := nI (bc (fun i => sF (spR D cs S q m x i).2.2 b) (i + 1))) (bc_1) ?_
            refine s_istore (pc := 151) (i := 9) dX12_span_151 (Nat.le_of_ble_eq_true rfl) ?_
            dsimp only [List.set, List.filter]
            refine m_inc (pc := 153) (v := 1) dX12_span_153 rfl rfl ?_
            dsimp only [List.set, List.filter]
            rw [nI_1]
            refine s_goto (pc := 156) (tgt := 77) dX12_span_156 rfl ?_
            have h := ih (i + 1) I2 (.int (nI (spR D cs S q m x i).2.1)) (by omega) (fN_t hF f2)
            rw [show few (fun i => (spR D cs S q m x i).2.1) (i + 1) = some (spR D cs S q m x i).2.1 from by rw [few_1, e]; exact congrArg some (Nat.min_eq_right (show (spR D cs S q m x i).2.1 ≤ v by omega)), show mst (fun i => (spR D cs S q m x i).2.1) (i + 1) = mst (fun i => (spR D cs S q m x i).2.1) i from Nat.max_eq_left (show (spR D cs S q m x i).2.1 ≤ mst (fun i => (spR D cs S q m x i).2.1) i by omega)] at h; exact h
          · have h126 : ¬ ((spR D cs S q m x i).2.1) ≤ (mst (fun i => (spR D cs S q m x i).2.1) i) := fun z => h126 ((nI_leI (a := (spR D cs S q m x i).2.1) (b := mst (fun i => (spR D cs S q m x i).2.1) i) (by omega) (by omega)).mpr z)
            refine s_iload (pc := 129) (i := 11) dX12_span_129 rfl ?_
            refine s_goto (pc := 131) (tgt := 136) dX12_span_131 rfl ?_
            refine s_istore (pc := 136) (i := 8) dX12_span_136 (Nat.le_of_ble_eq_true rfl) ?_
            dsimp only [List.set, List.filter]
            refine s_iload (pc := 138) (i := 9) dX12_span_138 rfl ?_
            refine s_aload_n (pc := 140) (i := 0) dX12_span_140 rfl rfl ?_
            refine m_gr (pc := 141) dX12_span_141 ff_X12_62 rfl o_534 r_534_37 ?_
            refine m_bi (pc := 144) (v := 91) dX12_span_144 rfl ?_
            refine s_iload (pc := 146) (i := 6) dX12_span_146 rfl ?_
            refine s_iadd (pc := 148) dX12_span_148 ?_
            refine m_nm (v' := nI (91 + b)) (nI_add 91 b) ?_
            refine m_ia (pc := 149) dX12_span_149 a_550 (vp_in_nI (n := 91 + b) (by omega) (by decide)) ?_
            refine m_nm (v' := if (fun i => sF (spR D cs S q m x i).2.2 b) i = true then 1 else 0) (rdI (j := 91 + b) ((W2.2.2.2.2.1.1 b (by omega)).2.1) (by omega)) ?_
            refine s_iadd (pc := 150) dX12_span_150 ?_
            refine m_nm (v' := nI (bc (fun i => sF (spR D cs S q m x i).2.2 b) (i + 1))) (bc_1) ?_
            refine s_istore (pc := 151) (i := 9) dX12_span_151 (Nat.le_of_ble_eq_true rfl) ?_
            dsimp only [List.set, List.filter]
            refine m_inc (pc := 153) (v := 1) dX12_span_153 rfl rfl ?_
            dsimp only [List.set, List.filter]
            rw [nI_1]
            refine s_goto (pc := 156) (tgt := 77) dX12_span_156 rfl ?_
            have h := ih (i + 1) I2 (.int (nI (spR D cs S q m x i).2.1)) (by omega) (fN_t hF f2)
            rw [show few (fun i => (spR D cs S q m x i).2.1) (i + 1) = some (spR D cs S q m x i).2.1 from by rw [few_1, e]; exact congrArg some (Nat.min_eq_right (show (spR D cs S q m x i).2.1 ≤ v by omega)), show mst (fun i => (spR D cs S q m x i).2.1) (i + 1) = (spR D cs S q m x i).2.1 from Nat.max_eq_right (show mst (fun i => (spR D cs S q m x i).2.1) i ≤ (spR D cs S q m x i).2.1 by omega)] at h; exact h
theorem c_X12_span (hW : Wn I D cs S) {x y z u v5 v6 : Int32} (r0 : ¬ iv 1 (11) y → Q (.inl (some (.int 0))) (Z (thr I 1 1) J n w)) (r1 : iv 1 (11) y → ¬ iv 0 (17) z → Q (.inl (some (.int 0))) (Z (thr I 1 1) J n w)) (r2 : iv 1 (11) y → iv 0 (17) z → ¬ iv 1 (49) u → Q (.inl (some (.int 0))) (Z (thr I 1 1) J n w)) (r3 : iv 1 (11) y → iv 0 (17) z → iv 1 (49) u → ¬ iv 0 (3) v5 → Q (.inl (some (.int 0))) (Z (thr I 1 1) J n w)) (r4 : iv 1 (11) y → iv 0 (17) z → iv 1 (49) u → iv 0 (3) v5 → ¬ iv 0 (cb D) v6 → Q (.inl (some (.int 0))) (Z (thr I 1 1) J n w)) (hg : ∀ l, ∀ q, ∀ m, ∀ a, ∀ b, y = nI l → 1 ≤ l → l < 11 → z = nI q → q < 17 → u = nI m → 1 ≤ m → m < 49 → v5 = nI a → a < 3 → v6 = nI b → b < cb D → ∀ I', km I I' → I' 534 0 = 0 → Q (.inl (some (.int (vSp D cs S x l q m a b)))) (Z I' J n w)) : Cn g (d + 8) mX12_span [.ref 534, .int x, .int y, .int z, .int u, .int v5, .int v6] (Z I J n w) Q := by
  have hb7 := hW.2.1.1
  have hc12 := hW.2.1.2.1
  show Rn g (d + 8) mX12_span 0 [.ref 534, .int x, .int y, .int z, .int u, .int v5, .int v6, .retAddr 0, .retAddr 0, .retAddr 0, .retAddr 0, .retAddr 0] [] [] (Z I J n w) Q
  refine s_aload_n (pc := 0) (i := 0) dX12_span_0 rfl rfl ?_
  refine m_ic (pc := 1) (v := 0) dX12_span_1 rfl ?_
  refine m_pi (pc := 2) dX12_span_2 ff_X12_3 rfl rfl o_534 ?_
  refine s_aload_n (pc := 5) (i := 0) dX12_span_5 rfl rfl ?_
  refine s_iload_n (pc := 6) (i := 2) dX12_span_6 rfl rfl ?_
  refine m_ic (pc := 7) (v := 1) dX12_span_7 rfl ?_
  refine m_bi (pc := 8) (v := 10) dX12_span_8 rfl ?_
  refine m_s3 (pc := 10) dX12_span_10 lk_X12_373 ok_X12_within rfl rfl (c_win (lo := 1) (m := 11) rfl rfl (by omega) (fun l el ll hl => kt_s ?_) (fun z => kt_s ?_))
  · subst el
    refine s_ifeq (pc := 13) (tgt := 54) dX12_span_13 rfl (fun h13 => absurd h13 (by decide)) (fun h13 => ?_)
    refine s_iload_n (pc := 16) (i := 3) dX12_span_16 rfl rfl ?_
    refine s_iload (pc := 17) (i := 4) dX12_span_17 rfl ?_
    refine m_s2 (pc := 19) dX12_span_19 lk_X12_453 ok_X12_isReign rfl rfl (c_X12_isReign (fun z => kt_s ?_) (fun i1 z => kt_s ?_) (fun q m eq hq em lm hm => kt_s ?_))
    · refine s_ifeq (pc := 22) (tgt := 54) dX12_span_22 rfl (fun h22 => ?_) (fun h22 => absurd h22 (by decide))
      refine m_ic (pc := 54) (v := 0) dX12_span_54 rfl ?_
      refine m_ic (pc := 55) (v := 1) dX12_span_55 rfl ?_
      refine m_ic (pc := 56) (v := 1) dX12_span_56 rfl ?_
      refine m_v3 (pc := 57) dX12_span_57 lk_X12_192 ok_X12_may (rcO o_534 (by decide) rfl) rfl rfl (c_may0 (k := 1) (by decide) rfl up_s (by decide) (kt_s ?_))
      · refine s_ifne (pc := 60) (tgt := 65) dX12_span_60 rfl (fun h60 => absurd h60 (by decide)) (fun h60 => ?_)
        refine m_ic (pc := 63) (v := 0) dX12_span_63 rfl ?_
        refine s_ireturn (pc := 64) dX12_span_64 rfl rfl ?_
        rw [thr_0]
        exact r1 ⟨l, rfl, ll, hl⟩ z
    · refine s_ifeq (pc := 22) (tgt := 54) dX12_span_22 rfl (fun h22 => ?_) (fun h22 => absurd h22 (by decide))
      refine m_ic (pc := 54) (v := 0) dX12_span_54 rfl ?_
      refine m_ic (pc := 55) (v := 1) dX12_span_55 rfl ?_
      refine m_ic (pc := 56) (v := 1) dX12_span_56 rfl ?_
      refine m_v3 (pc := 57) dX12_span_57 lk_X12_192 ok_X12_may (rcO o_534 (by decide) rfl) rfl rfl (c_may0 (k := 1) (by decide) rfl up_s (by decide) (kt_s ?_))
      · refine s_ifne (pc := 60) (tgt := 65) dX12_span_60 rfl (fun h60 => absurd h60 (by decide)) (fun h60 => ?_)
        refine m_ic (pc := 63) (v := 0) dX12_span_63 rfl ?_
        refine s_ireturn (pc := 64) dX12_span_64 rfl rfl ?_
        rw [thr_0]
        exact r2 ⟨l, rfl, ll, hl⟩ i1 z
    · subst eq
      subst em
      refine s_ifeq (pc := 22) (tgt := 54) dX12_span_22 rfl (fun h22 => absurd h22 (by decide)) (fun h22 => ?_)
      refine s_iload (pc := 25) (i := 5) dX12_span_25 rfl ?_
      refine m_ic (pc := 27) (v := 0) dX12_span_27 rfl ?_
      refine m_ic (pc := 28) (v := 2) dX12_span_28 rfl ?_
      refine m_s3 (pc := 29) dX12_span_29 lk_X12_373 ok_X12_within rfl rfl (c_win (lo := 0) (m := 3) rfl rfl (by omega) (fun a ea la ha => kt_s ?_) (fun z => kt_s ?_))
      · subst ea
        refine s_ifeq (pc := 32) (tgt := 54) dX12_span_32 rfl (fun h32 => absurd h32 (by decide)) (fun h32 => ?_)
        refine s_iload (pc := 35) (i := 6) dX12_span_35 rfl ?_
        refine m_ic (pc := 37) (v := 0) dX12_span_37 rfl ?_
        refine s_aload_n (pc := 38) (i := 0) dX12_span_38 rfl rfl ?_
        refine m_gi (pc := 39) dX12_span_39 ff_X12_154 rfl o_534 ?_
        refine m_nm (v' := nI (cb D)) ((up_k (by decide)).trans hW.1.1) ?_
        refine m_ic (pc := 42) (v := 1) dX12_span_42 rfl ?_
        refine s_isub (pc := 43) dX12_span_43 ?_
        refine m_s3 (pc := 44) dX12_span_44 lk_X12_373 ok_X12_within rfl rfl (c_win (lo := 0) (m := cb D) rfl rfl (by omega) (fun b eb lb hb => kt_s ?_) (fun z => kt_s ?_))
        · subst eb
          refine s_ifeq (pc := 47) (tgt := 54) dX12_span_47 rfl (fun h47 => absurd h47 (by decide)) (fun h47 => ?_)
          refine m_ic (pc := 50) (v := 1) dX12_span_50 rfl ?_
          refine s_goto (pc := 51) (tgt := 55) dX12_span_51 rfl ?_
          refine m_ic (pc := 55) (v := 1) dX12_span_55 rfl ?_
          refine m_ic (pc := 56) (v := 1) dX12_span_56 rfl ?_
          refine m_v3 (pc := 57) dX12_span_57 lk_X12_192 ok_X12_may (rcO o_534 (by decide) rfl) rfl rfl (c_may1 (k := 1) (by decide) rfl up_s (by decide) (kt_s ?_))
          · refine s_ifne (pc := 60) (tgt := 65) dX12_span_60 rfl (fun h60 => ?_) (fun h60 => absurd h60 (by decide))
            refine m_ic (pc := 65) (v := -1) dX12_span_65 rfl ?_
            refine s_istore (pc := 66) (i := 7) dX12_span_66 (Nat.le_of_ble_eq_true rfl) ?_
            dsimp only [List.set, List.filter]
            refine m_ic (pc := 68) (v := 0) dX12_span_68 rfl ?_
            refine s_istore (pc := 69) (i := 8) dX12_span_69 (Nat.le_of_ble_eq_true rfl) ?_
            dsimp only [List.set, List.filter]
            refine m_ic (pc := 71) (v := 0) dX12_span_71 rfl ?_
            refine s_istore (pc := 72) (i := 9) dX12_span_72 (Nat.le_of_ble_eq_true rfl) ?_
            dsimp only [List.set, List.filter]
            refine m_ic (pc := 74) (v := 0) dX12_span_74 rfl ?_
            refine s_istore (pc := 75) (i := 10) dX12_span_75 (Nat.le_of_ble_eq_true rfl) ?_
            dsimp only [List.set, List.filter]
            exact msp_lp (Wn_0 hW) (by omega) ll hq hm ha hb (fun I' f => hg l q m a b rfl ll hl rfl hq rfl lm hm rfl ha rfl hb I' (km_t th_k (km_N f)) ((f 534 0 (by decide) (by decide) (by decide) (by decide)).trans up_s)) l 0 _ _ (by omega) fN_r
        · refine s_ifeq (pc := 47) (tgt := 54) dX12_span_47 rfl (fun h47 => ?_) (fun h47 => absurd h47 (by decide))
          refine m_ic (pc := 54) (v := 0) dX12_span_54 rfl ?_
          refine m_ic (pc := 55) (v := 1) dX12_span_55 rfl ?_
          refine m_ic (pc := 56) (v := 1) dX12_span_56 rfl ?_
          refine m_v3 (pc := 57) dX12_span_57 lk_X12_192 ok_X12_may (rcO o_534 (by decide) rfl) rfl rfl (c_may0 (k := 1) (by decide) rfl up_s (by decide) (kt_s ?_))
          · refine s_ifne (pc := 60) (tgt := 65) dX12_span_60 rfl (fun h60 => absurd h60 (by decide)) (fun h60 => ?_)
            refine m_ic (pc := 63) (v := 0) dX12_span_63 rfl ?_
            refine s_ireturn (pc := 64) dX12_span_64 rfl rfl ?_
            rw [thr_0]
            exact r4 ⟨l, rfl, ll, hl⟩ ⟨q, rfl, Nat.zero_le _, hq⟩ ⟨m, rfl, lm, hm⟩ ⟨a, rfl, Nat.zero_le _, ha⟩ z
      · refine s_ifeq (pc := 32) (tgt := 54) dX12_span_32 rfl (fun h32 => ?_) (fun h32 => absurd h32 (by decide))
        refine m_ic (pc := 54) (v := 0) dX12_span_54 rfl ?_
        refine m_ic (pc := 55) (v := 1) dX12_span_55 rfl ?_
        refine m_ic (pc := 56) (v := 1) dX12_span_56 rfl ?_
        refine m_v3 (pc := 57) dX12_span_57 lk_X12_192 ok_X12_may (rcO o_534 (by decide) rfl) rfl rfl (c_may0 (k := 1) (by decide) rfl up_s (by decide) (kt_s ?_))
        · refine s_ifne (pc := 60) (tgt := 65) dX12_span_60 rfl (fun h60 => absurd h60 (by decide)) (fun h60 => ?_)
          refine m_ic (pc := 63) (v := 0) dX12_span_63 rfl ?_
          refine s_ireturn (pc := 64) dX12_span_64 rfl rfl ?_
          rw [thr_0]
          exact r3 ⟨l, rfl, ll, hl⟩ ⟨q, rfl, Nat.zero_le _, hq⟩ ⟨m, rfl, lm, hm⟩ z
  · refine s_ifeq (pc := 13) (tgt := 54) dX12_span_13 rfl (fun h13 => ?_) (fun h13 => absurd h13 (by decide))
    refine m_ic (pc := 54) (v := 0) dX12_span_54 rfl ?_
    refine m_ic (pc := 55) (v := 1) dX12_span_55 rfl ?_
    refine m_ic (pc := 56) (v := 1) dX12_span_56 rfl ?_
    refine m_v3 (pc := 57) dX12_span_57 lk_X12_192 ok_X12_may (rcO o_534 (by decide) rfl) rfl rfl (c_may0 (k := 1) (by decide) rfl up_s (by decide) (kt_s ?_))
    · refine s_ifne (pc := 60) (tgt := 65) dX12_span_60 rfl (fun h60 => absurd h60 (by decide)) (fun h60 => ?_)
      refine m_ic (pc := 63) (v := 0) dX12_span_63 rfl ?_
      refine s_ireturn (pc := 64) dX12_span_64 rfl rfl ?_
      rw [thr_0]
      exact r0  z
end S
