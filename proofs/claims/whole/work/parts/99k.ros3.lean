section S
variable {g : aG} {d : Nat} {I : Nat → Nat → Int32} {J : Nat → Nat → Int64} {n w : Nat} {Q : aO → aS → Prop}
variable {N M : Nat} {v : Nat → Nat → Nat} {r r0 : Nat → Int} {m : Option Nat} {s u k i : Nat} {a o : Nat → Nat}
def gvS (N M : Nat) (v : Nat → Nat → Nat) (r0 : Nat → Int) (I : Nat → Nat → Int32) : Prop := I 4 4 = nI N ∧ I 517 7 = nI M ∧ (∀ i b, i < M → b < N → I 519 (i * 7 + b) = nI (v i b)) ∧ ∀ i k, i + k = M → I 520 i = nI (lfF N v r0 k i)
def gvD (N M i : Nat) (r : Nat → Int) (a : Nat → Nat) (m : Option Nat) (o : Nat → Nat) (I : Nat → Nat → Int32) : Prop := (∀ b, b < N → I 521 b = iR (r b)) ∧ (∀ j, j < i → I 522 j = nI (a j)) ∧ I 517 8 = ob m ∧ ∀ z, m = some z → ∀ j, j < M → I 523 j = nI (o j)
def fgv (I I' : Nat → Nat → Int32) : Prop := ∀ x j, x ≠ 521 → x ≠ 522 → x ≠ 523 → ¬ (x = 517 ∧ j = 8) → I' x j = I x j
def gvB (N M : Nat) (v : Nat → Nat → Nat) (r r0 : Nat → Int) : Prop := N ≤ 7 ∧ M ≤ 6 ∧ (∀ i b, i < M → v i b ≤ 135) ∧ ∀ b, -1000 ≤ r b ∧ r b ≤ r0 b ∧ r0 b ≤ 1000
theorem fgv_r : fgv I I := fun _ _ _ _ _ _ => rfl
theorem fgv_t {I' I'' : Nat → Nat → Int32} (h : fgv I I') (h2 : fgv I' I'') : fgv I I'' := fun x j a b c e => (h2 x j a b c e).trans (h x j a b c e)
theorem fgv_u {I' : Nat → Nat → Int32} {y t : Nat} {x : Int32} (h : fgv I I') (hy : y = 521 ∨ y = 522) : fgv I (up I' y t x) := fun z j a b c e => (up_a (by omega)).trans (h z j a b c e)
theorem gvS_f {I' : Nat → Nat → Int32} (h : gvS N M v r0 I) (hf : fgv I I') : gvS N M v r0 I' := ⟨(hf 4 4 (by decide) (by decide) (by decide) (by omega)).trans h.1, (hf 517 7 (by decide) (by decide) (by decide) (by omega)).trans h.2.1, fun i b hi hb => (hf 519 _ (by decide) (by decide) (by decide) (by omega)).trans (h.2.2.1 i b hi hb), fun i k hi => (hf 520 _ (by decide) (by decide) (by decide) (by omega)).trans (h.2.2.2 i k hi)⟩
theorem lfF_b : ∀ k i, lfF N v r0 k i ≤ k * 99999
  | 0, _ => Nat.zero_le _
  | k + 1, i => by
    have h1 := lfF_b k (i + 1)
    have h2 : lsF N v r0 i ≤ 99999 := mnF_le N
    rw [lfF, Nat.succ_mul]; omega
theorem rdc_s {b x : Nat} : rdc r b x b = r b - x := if_pos rfl
theorem rdc_n {b x j : Nat} (h : j ≠ b) : rdc r b x j = r j := if_neg h
theorem gvD_c (h : gvD N M u r a m o I) (x : Nat) : gvD N M (u + 1) (rdc r i x) (fun j => if j = u then i else a j) m o (up (up I 521 i (iR (r i - x))) 522 u (nI i)) := by
  refine ⟨fun b hb => ?_, fun j hj => ?_, ?_, fun z hz j hj => ?_⟩
  · rw [up_a (by decide)]
    by_cases e : b = i
    · subst e; rw [up_s, rdc_s]
    · rw [up_k e, rdc_n e]; exact h.1 b hb
  · by_cases e : j = u
    · subst e; rw [up_s]; simp
    · rw [up_k e, up_a (by decide)]; show _ = nI (if j = u then i else a j); rw [if_neg e]; exact h.2.1 j (by omega)
  · rw [up_a (by decide), up_a (by decide)]; exact h.2.2.1
  · rw [up_a (by decide), up_a (by decide)]; exact h.2.2.2 z hz j hj
theorem gvD_b {x : Nat} (h : gvD N M (u + 1) (rdc r i x) (fun j => if j = u then i else a j) m o I) : gvD N M u r a m o (up I 521 i (iR (r i))) := by
  refine ⟨fun b hb => ?_, fun j hj => ?_, ?_, fun z hz j hj => ?_⟩
  · by_cases e : b = i
    · subst e; rw [up_s]
    · rw [up_k e, h.1 b hb, rdc_n e]
  · rw [up_a (by decide), h.2.1 j (by omega)]
    show nI (if j = u then i else a j) = _
    rw [if_neg (by omega)]
  · rw [up_a (by decide)]; exact h.2.2.1
  · rw [up_a (by decide)]; exact h.2.2.2 z hz j hj
theorem gvB_r (h : gvB N M v r r0) (hr : (v u i : Int) ≤ r i) : gvB N M v (rdc r i (v u i)) r0 := by
  refine ⟨h.1, h.2.1, h.2.2.1, fun b => ?_⟩
  have := h.2.2.2 b
  unfold rdc
  by_cases e : b = i
  · subst e; rw [if_pos rfl]; omega
  · rw [if_neg e]; exact this
theorem iR_bk (x : Int) (c : Nat) : iR (x - c) + nI c = iR x := by rw [iR_add]; congr 1; omega
theorem btr_l (h : ∀ z, m = some z → s + 0 < z) : btr m s 0 = true := by
  cases m with
  | none => exact btr_n.mpr (by omega)
  | some z => exact btr_s.mpr ⟨by omega, h z rfl⟩
theorem gv_lp (hC : ∀ {Q : aO → aS → Prop} {I : Nat → Nat → Int32} (i s : Nat) (r : Nat → Int) (a : Nat → Nat) (m : Option Nat) (o : Nat → Nat), i + k = M → gvS N M v r0 I → gvD N M i r a m o I → gvB N M v r r0 → s ≤ 135 * i → (∀ z, m = some z → z ≤ 200000 ∧ s + lfF N v r0 k i < z) → (∀ I', fgv I I' → gvD N M i r a (nmF m s (roL N v k i r)) (nbF m s (roL N v k i r) (fun j => if j < i then a j else roA N v k i r j) o) I' → Q (.inl none) (Z I' J n w)) → Cn g (d + 1 + k) mX8_give [.ref 517, .int (nI i), .int (nI s)] (Z I J n w) Q) (hS : gvS N M v r0 I) (hB : gvB N M v r r0) (hs : s ≤ 135 * u) (hu : u + (k + 1) = M) (hm : ∀ z, m = some z → z ≤ 200000) (hq : ∀ I', fgv I I' → gvD N M u r a (nmF m s (roL N v (k + 1) u r)) (nbF m s (roL N v (k + 1) u r) (fun j => if j < u then a j else roA N v (k + 1) u r j) o) I' → Q (.inl none) (Z I' J n w)) : ∀ f i I1 (v4 : Value) (v5 : Value), i + f = N → fgv I I1 → gvD N M u r a (nmF m s (mnF (cnF N v k u r) i)) (nbF m s (mnF (cnF N v k u r) i) (yF N v k u r a i) o) I1 → Rn g (d + 1 + k + 1) mX8_give 31 [.ref 517, .int (nI u), .int (nI s), .int (nI i), v4, v5] [] [] (Z I1 J n w) Q := by
  intro f
  induction f with
  | zero =>
    intro i I1 v4 v5 hi hF hM
    have e : N = i := by omega
    subst e
    have hN7 := hB.1
    have hM6 := hB.2.1
    refine s_iload_n (pc := 31) (i := 3) dX8_give_31 rfl rfl ?_
    refine s_aload_n (pc := 32) (i := 0) dX8_give_32 rfl rfl ?_
    refine m_gr (pc := 33) dX8_give_33 ff_X8_30 rfl o_517 r_517_0 ?_
    refine m_gr (pc := 36) dX8_give_36 ff_X8_41 rfl o_31 r_31_0 ?_
    refine m_gi (pc := 39) dX8_give_39 ff_X8_51 rfl o_4 ?_
    refine m_nm (v' := nI N) ((hF 4 4 (by decide) (by decide) (by decide) (by omega)).trans hS.1) ?_
    refine s_icge (pc := 42) (tgt := 155) dX8_give_42 rfl (fun h42 => ?_) (fun h42 => absurd (nI_le (a := N) (b := N) (by omega) (by omega)) h42)
    refine s_return (pc := 155) dX8_give_155 rfl ?_
    exact hq I1 hF (by rw [← yF_N]; exact hM)
  | succ f ih =>
    intro i I1 v4 v5 hi hF hM
    have hN7 := hB.1
    have hM6 := hB.2.1
    have hv1 := hB.2.2.1 u i (by omega)
    have hri := hB.2.2.2 i
    have hlf := lfF_b (N := N) (v := v) (r0 := r0) k (u + 1)
    refine s_iload_n (pc := 31) (i := 3) dX8_give_31 rfl rfl ?_
    refine s_aload_n (pc := 32) (i := 0) dX8_give_32 rfl rfl ?_
    refine m_gr (pc := 33) dX8_give_33 ff_X8_30 rfl o_517 r_517_0 ?_
    refine m_gr (pc := 36) dX8_give_36 ff_X8_41 rfl o_31 r_31_0 ?_
    refine m_gi (pc := 39) dX8_give_39 ff_X8_51 rfl o_4 ?_
    refine m_nm (v' := nI N) ((hF 4 4 (by decide) (by decide) (by decide) (by omega)).trans hS.1) ?_
    refine s_icge (pc := 42) (tgt := 155) dX8_give_42 rfl (fun h42 => absurd h42 (nI_ge (a := i) (b := N) (by omega) (by omega))) (fun h42 => ?_)
    refine s_aload_n (pc := 45) (i := 0) dX8_give_45 rfl rfl ?_
    refine m_gr (pc := 46) dX8_give_46 ff_X8_15 rfl o_517 r_517_2 ?_
    refine s_iload_n (pc := 49) (i := 1) dX8_give_49 rfl rfl ?_
    refine m_bi (pc := 50) (v := 7) dX8_give_50 rfl ?_
    refine s_imul (pc := 52) dX8_give_52 ?_
    refine m_nm (v' := nI (u * 7)) (pk_mul u 7) ?_
    refine s_iload_n (pc := 53) (i := 3) dX8_give_53 rfl rfl ?_
    refine s_iadd (pc := 54) dX8_give_54 ?_
    refine m_nm (v' := nI ((u * 7) + i)) (nI_add (u * 7) i) ?_
    refine m_ia (pc := 55) dX8_give_55 a_519 (vp_in_nI (n := (u * 7) + i) (by omega) (by decide)) ?_
    refine m_nm (v' := nI (v u i)) (rdI (j := (u * 7) + i) ((hF 519 _ (by decide) (by decide) (by decide) (by omega)).trans (hS.2.2.1 u i (by omega) (by omega))) (by omega)) ?_
    refine s_istore (pc := 56) (i := 4) dX8_give_56 (Nat.le_of_ble_eq_true rfl) ?_
    dsimp only [List.set, List.filter]
    rcases eo : (nmF m s (mnF (cnF N v k u r) i)) with _ | zo
    · skip
      refine s_aload_n (pc := 58) (i := 0) dX8_give_58 rfl rfl ?_
      refine m_gi (pc := 59) dX8_give_59 ff_X8_38 rfl o_517 ?_
      refine m_nm (v' := -1) (hM.2.2.1.trans (by rw [eo]; rfl)) ?_
      refine m_ic (pc := 62) (v := -1) dX8_give_62 rfl ?_
      refine s_iceq (pc := 63) (tgt := 86) dX8_give_63 rfl (fun h63 => ?_) (fun h63 => absurd h63 (by decide))
      refine m_ic (pc := 86) (v := 1) dX8_give_86 rfl ?_
      refine s_goto (pc := 87) (tgt := 91) dX8_give_87 rfl ?_
      refine s_istore (pc := 91) (i := 5) dX8_give_91 (Nat.le_of_ble_eq_true rfl) ?_
      dsimp only [List.set, List.filter]
      refine s_iload (pc := 93) (i := 5) dX8_give_93 rfl ?_
      refine s_ifeq (pc := 95) (tgt := 149) dX8_give_95 rfl (fun h95 => absurd h95 (by decide)) (fun h95 => ?_)
      refine s_iload (pc := 98) (i := 4) dX8_give_98 rfl ?_
      refine s_aload_n (pc := 100) (i := 0) dX8_give_100 rfl rfl ?_
      refine m_gr (pc := 101) dX8_give_101 ff_X8_21 rfl o_517 r_517_4 ?_
      refine s_iload_n (pc := 104) (i := 3) dX8_give_104 rfl rfl ?_
      refine m_ia (pc := 105) dX8_give_105 a_521 (vp_in_nI (n := i) (by omega) (by decide)) ?_
      refine m_nm (v' := iR (r i)) (rdI (j := i) (hM.1 i (by omega)) (by omega)) ?_
      refine s_icgt (pc := 106) (tgt := 149) dX8_give_106 rfl (fun h106 => ?_) (fun h106 => ?_)
      · have hr : ¬ (v u i : Int) ≤ r i := by have := (iR_lt (x := r i) (a := v u i) (by omega) (by omega) (by omega)).mp h106; omega
        refine m_inc (pc := 149) (v := 1) dX8_give_149 rfl rfl ?_
        dsimp only [List.set, List.filter]
        rw [nI_1]
        refine s_goto (pc := 152) (tgt := 31) dX8_give_152 rfl ?_
        obtain ⟨e1, e2⟩ := gv_no (N := N) (a := a) (k := k) hr
        exact ih (i + 1) I1 _ _ (by omega) hF (by rw [e1, e2]; exact hM)
      · have hr : (v u i : Int) ≤ r i := by
          by_cases z : (v u i : Int) ≤ r i
          · exact z
          · exact absurd ((iR_lt (x := r i) (a := v u i) (by omega) (by omega) (by omega)).mpr (by omega)) h106
        refine s_aload_n (pc := 109) (i := 0) dX8_give_109 rfl rfl ?_
        refine m_gr (pc := 110) dX8_give_110 ff_X8_21 rfl o_517 r_517_4 ?_
        refine s_iload_n (pc := 113) (i := 3) dX8_give_113 rfl rfl ?_
        refine s_dup2 (pc := 114) dX8_give_114 rfl rfl ?_
        refine m_ia (pc := 115) dX8_give_115 a_521 (vp_in_nI (n := i) (by omega) (by decide)) ?_
        refine m_nm (v' := iR (r i)) (rdI (j := i) (hM.1 i (by omega)) (by omega)) ?_
        refine s_iload (pc := 116) (i := 4) dX8_give_116 rfl ?_
        refine s_isub (pc := 118) dX8_give_118 ?_
        refine m_nm (v' := iR (r i - v u i)) (iR_sub _ _) ?_
        refine m_is (pc := 119) dX8_give_119 a_521 (vp_in_nI (n := i) (by omega) (by decide)) ?_
        rw [nI_clamp (n := i) (by omega)]
        refine s_aload_n (pc := 120) (i := 0) dX8_give_120 rfl rfl ?_
        refine m_gr (pc := 121) dX8_give_121 ff_X8_24 rfl o_517 r_517_5 ?_
        refine s_iload_n (pc := 124) (i := 1) dX8_give_124 rfl rfl ?_
        refine s_iload_n (pc := 125) (i := 3) dX8_give_125 rfl rfl ?_
        refine m_is (pc := 126) dX8_give_126 a_522 (vp_in_nI (n := u) (by omega) (by decide)) ?_
        rw [nI_clamp (n := u) (by omega)]
        refine s_aload_n (pc := 127) (i := 0) dX8_give_127 rfl rfl ?_
        refine s_iload_n (pc := 128) (i := 1) dX8_give_128 rfl rfl ?_
        refine m_ic (pc := 129) (v := 1) dX8_give_129 rfl ?_
        refine s_iadd (pc := 130) dX8_give_130 ?_
        refine m_nm (v' := nI (u + 1)) (nI_add u 1) ?_
        refine s_iload_n (pc := 131) (i := 2) dX8_give_131 rfl rfl ?_
        refine s_iload (pc := 132) (i := 4) dX8_give_132 rfl ?_
        refine s_iadd (pc := 134) dX8_give_134 ?_
        refine m_nm (v' := nI (s + (v u i))) (nI_add s (v u i)) ?_
        refine m_v2 (pc := 135) dX8_give_135 lk_X8_70 ok_X8_give (rcO o_517 (by decide) rfl) rfl rfl (hC (u + 1) (s + v u i) (rdc r i (v u i)) (fun j => if j = u then i else a j) _ _ (by omega) (gvS_f hS (fgv_u (fgv_u hF (by decide)) (by decide))) (gvD_c hM _) (gvB_r hB hr) (by omega) (fun z hz => by rw [eo] at hz; cases hz) (fun I2 f2 h2 => kt_v ?_))
        refine s_aload_n (pc := 138) (i := 0) dX8_give_138 rfl rfl ?_
        refine m_gr (pc := 139) dX8_give_139 ff_X8_21 rfl o_517 r_517_4 ?_
        refine s_iload_n (pc := 142) (i := 3) dX8_give_142 rfl rfl ?_
        refine s_dup2 (pc := 143) dX8_give_143 rfl rfl ?_
        refine m_ia (pc := 144) dX8_give_144 a_521 (vp_in_nI (n := i) (by omega) (by decide)) ?_
        refine m_nm (v' := iR (r i - v u i)) (rdI (j := i) ((h2.1 i (by omega)).trans (congrArg iR rdc_s)) (by omega)) ?_
        refine s_iload (pc := 145) (i := 4) dX8_give_145 rfl ?_
        refine s_iadd (pc := 147) dX8_give_147 ?_
        refine m_nm (v' := iR (r i)) (iR_bk _ _) ?_
        refine m_is (pc := 148) dX8_give_148 a_521 (vp_in_nI (n := i) (by omega) (by decide)) ?_
        rw [nI_clamp (n := i) (by omega)]
        refine m_inc (pc := 149) (v := 1) dX8_give_149 rfl rfl ?_
        dsimp only [List.set, List.filter]
        rw [nI_1]
        refine s_goto (pc := 152) (tgt := 31) dX8_give_152 rfl ?_
        have st := gv_st (N := N) (m := m) (s := s) (a := a) (o := o) hu hB.2.2.1 (by omega) hr
        refine ih (i + 1) _ _ _ (by omega) (fgv_u (fgv_t (fgv_u (fgv_u hF (by decide)) (by decide)) f2) (by decide)) ?_
        rw [← st.1, ← st.2]; exact gvD_b h2
    · have hz := nm_le (B := 200000) eo hm (by omega)
      refine s_aload_n (pc := 58) (i := 0) dX8_give_58 rfl rfl ?_
      refine m_gi (pc := 59) dX8_give_59 ff_X8_38 rfl o_517 ?_
      refine m_nm (v' := nI zo) (hM.2.2.1.trans (by rw [eo]; rfl)) ?_
      refine m_ic (pc := 62) (v := -1) dX8_give_62 rfl ?_
      refine s_iceq (pc := 63) (tgt := 86) dX8_give_63 rfl (fun h63 => absurd h63 (nI_m1 (by omega))) (fun h63 => ?_)
      refine s_iload_n (pc := 66) (i := 2) dX8_give_66 rfl rfl ?_
      refine s_iload (pc := 67) (i := 4) dX8_give_67 rfl ?_
      refine s_iadd (pc := 69) dX8_give_69 ?_
      refine m_nm (v' := nI (s + (v u i))) (nI_add s (v u i)) ?_
      refine s_aload_n (pc := 70) (i := 0) dX8_give_70 rfl rfl ?_
      refine m_gr (pc := 71) dX8_give_71 ff_X8_18 rfl o_517 r_517_3 ?_
      refine s_iload_n (pc := 74) (i := 1) dX8_give_74 rfl rfl ?_
      refine m_ic (pc := 75) (v := 1) dX8_give_75 rfl ?_
      refine s_iadd (pc := 76) dX8_give_76 ?_
      refine m_nm (v' := nI (u + 1)) (nI_add u 1) ?_
      refine m_ia (pc := 77) dX8_give_77 a_520 (vp_in_nI (n := u + 1) (by omega) (by decide)) ?_
      refine m_nm (v' := nI (lfF N v r0 k (u + 1))) (rdI (j := u + 1) ((hF 520 _ (by decide) (by decide) (by decide) (by omega)).trans (hS.2.2.2 (u + 1) k (by omega))) (by omega)) ?_
      refine s_iadd (pc := 78) dX8_give_78 ?_
      refine m_nm (v' := nI ((s + (v u i)) + (lfF N v r0 k (u + 1)))) (nI_add (s + (v u i)) (lfF N v r0 k (u + 1))) ?_
      refine s_aload_n (pc := 79) (i := 0) dX8_give_79 rfl rfl ?_
      refine m_gi (pc := 80) dX8_give_80 ff_X8_38 rfl o_517 ?_
      refine m_nm (v' := nI zo) (hM.2.2.1.trans (by rw [eo]; rfl)) ?_
      refine s_icge (pc := 83) (tgt := 90) dX8_give_83 rfl (fun h83 => ?_) (fun h83 => ?_)
      · have h83 : zo ≤ ((s + (v u i)) + (lfF N v r0 k (u + 1))) := (nI_leI (a := zo) (b := (s + (v u i)) + (lfF N v r0 k (u + 1))) (by omega) (by omega)).mp h83
        refine m_ic (pc := 90) (v := 0) dX8_give_90 rfl ?_
        refine s_istore (pc := 91) (i := 5) dX8_give_91 (Nat.le_of_ble_eq_true rfl) ?_
        dsimp only [List.set, List.filter]
        refine s_iload (pc := 93) (i := 5) dX8_give_93 rfl ?_
        refine s_ifeq (pc := 95) (tgt := 149) dX8_give_95 rfl (fun h95 => ?_) (fun h95 => absurd h95 (by decide))
        refine m_inc (pc := 149) (v := 1) dX8_give_149 rfl rfl ?_
        dsimp only [List.set, List.filter]
        rw [nI_1]
        refine s_goto (pc := 152) (tgt := 31) dX8_give_152 rfl ?_
        by_cases hr : (v u i : Int) ≤ r i
        · obtain ⟨e1, e2⟩ := gv_cut (N := N) (a := a) (o := o) hu hB.2.2.1 (by omega) hr (fun b => (hB.2.2.2 b).2.1) eo h83
          exact ih (i + 1) I1 _ _ (by omega) hF (by rw [← e1, ← e2]; exact hM)
        · obtain ⟨e1, e2⟩ := gv_no (N := N) (a := a) (k := k) hr
          exact ih (i + 1) I1 _ _ (by omega) hF (by rw [e1, e2]; exact hM)
      · have h83 : ¬ zo ≤ ((s + (v u i)) + (lfF N v r0 k (u + 1))) := fun z => h83 ((nI_leI (a := zo) (b := (s + (v u i)) + (lfF N v r0 k (u + 1))) (by omega) (by omega)).mpr z)
        refine m_ic (pc := 86) (v := 1) dX8_give_86 rfl ?_
        refine s_goto (pc := 87) (tgt := 91) dX8_give_87 rfl ?_
        refine s_istore (pc := 91) (i := 5) dX8_give_91 (Nat.le_of_ble_eq_true rfl) ?_
        dsimp only [List.set, List.filter]
        refine s_iload (pc := 93) (i := 5) dX8_give_93 rfl ?_
        refine s_ifeq (pc := 95) (tgt := 149) dX8_give_95 rfl (fun h95 => absurd h95 (by decide)) (fun h95 => ?_)
        refine s_iload (pc := 98) (i := 4) dX8_give_98 rfl ?_
        refine s_aload_n (pc := 100) (i := 0) dX8_give_100 rfl rfl ?_
        refine m_gr (pc := 101) dX8_give_101 ff_X8_21 rfl o_517 r_517_4 ?_
        refine s_iload_n (pc := 104) (i := 3) dX8_give_104 rfl rfl ?_
        refine m_ia (pc := 105) dX8_give_105 a_521 (vp_in_nI (n := i) (by omega) (by decide)) ?_
        refine m_nm (v' := iR (r i)) (rdI (j := i) (hM.1 i (by omega)) (by omega)) ?_
        refine s_icgt (pc := 106) (tgt := 149) dX8_give_106 rfl (fun h106 => ?_) (fun h106 => ?_)
        · have hr : ¬ (v u i : Int) ≤ r i := by have := (iR_lt (x := r i) (a := v u i) (by omega) (by omega) (by omega)).mp h106; omega
          refine m_inc (pc := 149) (v := 1) dX8_give_149 rfl rfl ?_
          dsimp only [List.set, List.filter]
          rw [nI_1]
          refine s_goto (pc := 152) (tgt := 31) dX8_give_152 rfl ?_
          obtain ⟨e1, e2⟩ := gv_no (N := N) (a := a) (k := k) hr
          exact ih (i + 1) I1 _ _ (by omega) hF (by rw [e1, e2]; exact hM)
        · have hr : (v u i : Int) ≤ r i := by
            by_cases z : (v u i : Int) ≤ r i
            · exact z
            · exact absurd ((iR_lt (x := r i) (a := v u i) (by omega) (by omega) (by omega)).mpr (by omega)) h106
          refine s_aload_n (pc := 109) (i := 0) dX8_give_109 rfl rfl ?_
          refine m_gr (pc := 110) dX8_give_110 ff_X8_21 rfl o_517 r_517_4 ?_
          refine s_iload_n (pc := 113) (i := 3) dX8_give_113 rfl rfl ?_
          refine s_dup2 (pc := 114) dX8_give_114 rfl rfl ?_
          refine m_ia (pc := 115) dX8_give_115 a_521 (vp_in_nI (n := i) (by omega) (by decide)) ?_
          refine m_nm (v' := iR (r i)) (rdI (j := i) (hM.1 i (by omega)) (by omega)) ?_
          refine s_iload (pc := 116) (i := 4) dX8_give_116 rfl ?_
          refine s_isub (pc := 118) dX8_give_118 ?_
          refine m_nm (v' := iR (r i - v u i)) (iR_sub _ _) ?_
          refine m_is (pc := 119) dX8_give_119 a_521 (vp_in_nI (n := i) (by omega) (by decide)) ?_
          rw [nI_clamp (n := i) (by omega)]
          refine s_aload_n (pc := 120) (i := 0) dX8_give_120 rfl rfl ?_
          refine m_gr (pc := 121) dX8_give_121 ff_X8_24 rfl o_517 r_517_5 ?_
          refine s_iload_n (pc := 124) (i := 1) dX8_give_124 rfl rfl ?_
          refine s_iload_n (pc := 125) (i := 3) dX8_give_125 rfl rfl ?_
          refine m_is (pc := 126) dX8_give_126 a_522 (vp_in_nI (n := u) (by omega) (by decide)) ?_
          rw [nI_clamp (n := u) (by omega)]
          refine s_aload_n (pc := 127) (i := 0) dX8_give_127 rfl rfl ?_
          refine s_iload_n (pc := 128) (i := 1) dX8_give_128 rfl rfl ?_
          refine m_ic (pc := 129) (v := 1) dX8_give_129 rfl ?_
          refine s_iadd (pc := 130) dX8_give_130 ?_
          refine m_nm (v' := nI (u + 1)) (nI_add u 1) ?_
          refine s_iload_n (pc := 131) (i := 2) dX8_give_131 rfl rfl ?_
          refine s_iload (pc := 132) (i := 4) dX8_give_132 rfl ?_
          refine s_iadd (pc := 134) dX8_give_134 ?_
          refine m_nm (v' := nI (s + (v u i))) (nI_add s (v u i)) ?_
          refine m_v2 (pc := 135) dX8_give_135 lk_X8_70 ok_X8_give (rcO o_517 (by decide) rfl) rfl rfl (hC (u + 1) (s + v u i) (rdc r i (v u i)) (fun j => if j = u then i else a j) _ _ (by omega) (gvS_f hS (fgv_u (fgv_u hF (by decide)) (by decide))) (gvD_c hM _) (gvB_r hB hr) (by omega) (fun z1 hz1 => by rw [eo] at hz1; cases hz1; exact ⟨hz, by omega⟩) (fun I2 f2 h2 => kt_v ?_))
          refine s_aload_n (pc := 138) (i := 0) dX8_give_138 rfl rfl ?_
          refine m_gr (pc := 139) dX8_give_139 ff_X8_21 rfl o_517 r_517_4 ?_
          refine s_iload_n (pc := 142) (i := 3) dX8_give_142 rfl rfl ?_
          refine s_dup2 (pc := 143) dX8_give_143 rfl rfl ?_
          refine m_ia (pc := 144) dX8_give_144 a_521 (vp_in_nI (n := i) (by omega) (by decide)) ?_
          refine m_nm (v' := iR (r i - v u i)) (rdI (j := i) ((h2.1 i (by omega)).trans (congrArg iR rdc_s)) (by omega)) ?_
          refine s_iload (pc := 145) (i := 4) dX8_give_145 rfl ?_
          refine s_iadd (pc := 147) dX8_give_147 ?_
          refine m_nm (v' := iR (r i)) (iR_bk _ _) ?_
          refine m_is (pc := 148) dX8_give_148 a_521 (vp_in_nI (n := i) (by omega) (by decide)) ?_
          rw [nI_clamp (n := i) (by omega)]
          refine m_inc (pc := 149) (v := 1) dX8_give_149 rfl rfl ?_
          dsimp only [List.set, List.filter]
          rw [nI_1]
          refine s_goto (pc := 152) (tgt := 31) dX8_give_152 rfl ?_
          have st := gv_st (N := N) (m := m) (s := s) (a := a) (o := o) hu hB.2.2.1 (by omega) hr
          refine ih (i + 1) _ _ _ (by omega) (fgv_u (fgv_t (fgv_u (fgv_u hF (by decide)) (by decide)) f2) (by decide)) ?_
          rw [← st.1, ← st.2]; exact gvD_b h2
theorem c_X8_give : ∀ k, ∀ {Q : aO → aS → Prop} {I : Nat → Nat → Int32} (i s : Nat) (r : Nat → Int) (a : Nat → Nat) (m : Option Nat) (o : Nat → Nat), i + k = M → gvS N M v r0 I → gvD N M i r a m o I → gvB N M v r r0 → s ≤ 135 * i → (∀ z, m = some z → z ≤ 200000 ∧ s + lfF N v r0 k i < z) → (∀ I', fgv I I' → gvD N M i r a (nmF m s (roL N v k i r)) (nbF m s (roL N v k i r) (fun j => if j < i then a j else roA N v k i r j) o) I' → Q (.inl none) (Z I' J n w)) → Cn g (d + 1 + k) mX8_give [.ref 517, .int (nI i), .int (nI s)] (Z I J n w) Q := by
  intro k
  induction k with
  | zero =>
    intro Q I i s r a m o h hS hD hB hs hp hq
    have hM6 := hB.2.1
    show Rn g (d + 1) mX8_give 0 [.ref 517, .int (nI i), .int (nI s), .retAddr 0, .retAddr 0, .retAddr 0] [] [] (Z I J n w) Q
    refine s_iload_n (pc := 0) (i := 1) dX8_give_0 rfl rfl ?_
    refine s_aload_n (pc := 1) (i := 0) dX8_give_1 rfl rfl ?_
    refine m_gi (pc := 2) dX8_give_2 ff_X8_34 rfl o_517 ?_
    refine m_nm (v' := nI M) (hS.2.1) ?_
    refine s_iclt (pc := 5) (tgt := 29) dX8_give_5 rfl (fun h5 => absurd h5 (nI_nlt (a := i) (b := M) (by omega) (by omega))) (fun h5 => ?_)
    refine s_aload_n (pc := 8) (i := 0) dX8_give_8 rfl rfl ?_
    refine s_iload_n (pc := 9) (i := 2) dX8_give_9 rfl rfl ?_
    refine m_pi (pc := 10) dX8_give_10 ff_X8_38 rfl rfl o_517 ?_
    refine s_aload_n (pc := 13) (i := 0) dX8_give_13 rfl rfl ?_
    refine m_gr (pc := 14) dX8_give_14 ff_X8_24 rfl o_517 r_517_5 ?_
    refine m_ic (pc := 17) (v := 0) dX8_give_17 rfl ?_
    refine s_aload_n (pc := 18) (i := 0) dX8_give_18 rfl rfl ?_
    refine m_gr (pc := 19) dX8_give_19 ff_X8_27 rfl o_517 r_517_6 ?_
    refine m_ic (pc := 22) (v := 0) dX8_give_22 rfl ?_
    refine m_bi (pc := 23) (v := 6) dX8_give_23 rfl ?_
    refine m_cp (pc := 25) dX8_give_25 ml_X8_78 a_522 a_523 (by omega) (by decide) rfl (by decide) (by decide) (Nat.le_of_ble_eq_true rfl) ?_
    refine s_return (pc := 28) dX8_give_28 rfl ?_
    have e0 : i = M := by omega
    have bt0 := btr_l (m := m) (s := s) (fun z hz => (hp z hz).2)
    refine hq _ (fun x j b1 b2 b3 b4 => ?_) ⟨fun b hb => ?_, fun j hj => ?_, ?_, fun z hz j hj => ?_⟩
    · unfold cpI; rw [if_neg (fun z => b3 z.1)]; exact up_n3 (by omega)
    · unfold cpI; rw [if_neg (by omega), up_a (by decide)]; exact hD.1 b hb
    · unfold cpI; rw [if_neg (by omega), up_a (by decide)]; exact hD.2.1 j hj
    · unfold cpI; rw [if_neg (by omega), up_s]; show _ = ob (nmF m s 0); rw [nmF, if_pos bt0]; rfl
    · unfold cpI; rw [if_pos ⟨rfl, (show j < 6 by omega)⟩, up_a (by decide), hD.2.1 j (by omega)]
      show _ = nI (nbF m s 0 _ o j)
      rw [nbF, if_pos bt0, if_pos (by omega)]
  | succ k ih =>
    intro Q I i s r a m o h hS hD hB hs hp hq
    have hM6 := hB.2.1
    show Rn g (d + 1 + k + 1) mX8_give 0 [.ref 517, .int (nI i), .int (nI s), .retAddr 0, .retAddr 0, .retAddr 0] [] [] (Z I J n w) Q
    refine s_iload_n (pc := 0) (i := 1) dX8_give_0 rfl rfl ?_
    refine s_aload_n (pc := 1) (i := 0) dX8_give_1 rfl rfl ?_
    refine m_gi (pc := 2) dX8_give_2 ff_X8_34 rfl o_517 ?_
    refine m_nm (v' := nI M) (hS.2.1) ?_
    refine s_iclt (pc := 5) (tgt := 29) dX8_give_5 rfl (fun h5 => ?_) (fun h5 => absurd (nI_lt (a := i) (b := M) (by omega) (by omega)) h5)
    refine m_ic (pc := 29) (v := 0) dX8_give_29 rfl ?_
    refine s_istore_n (pc := 30) (i := 3) dX8_give_30 rfl (Nat.le_of_ble_eq_true rfl) ?_
    dsimp only [List.set, List.filter]
    exact gv_lp ih hS hB hs h (fun z hz => (hp z hz).1) hq N 0 I _ _ (by omega) fgv_r (by show gvD N M i r a (nmF m s 99999) (nbF m s 99999 _ o) I; rw [nm_0, nb_0]; exact hD)
theorem c_give0 (hM6 : M ≤ 6) (hS : gvS N M v r0 I) (hD : gvD N M 0 r0 a none o I) (hB : gvB N M v r0 r0) (hq : ∀ I', fgv I I' → gvD N M 0 r0 a (nmF none 0 (roL N v M 0 r0)) (nbF none 0 (roL N v M 0 r0) (fun j => if j < 0 then a j else roA N v M 0 r0 j) o) I' → Q (.inl none) (Z I' J n w)) : Cn g (d + 7) mX8_give [.ref 517, .int (nI 0), .int (nI 0)] (Z I J n w) Q := by
  have h := c_X8_give (d := d + (6 - M)) (g := g) (N := N) (v := v) (r0 := r0) (J := J) (n := n) (w := w) M 0 0 r0 a none o (Nat.zero_add M) hS hD hB (Nat.zero_le _) (fun z hz => by cases hz) hq
  rw [show d + (6 - M) + 1 + M = d + 7 by omega] at h
  exact h
end S
