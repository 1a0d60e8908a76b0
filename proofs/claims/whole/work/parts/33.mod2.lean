section S
variable {g : aG} {d : Nat} {I : Nat → Nat → Int32} {J : Nat → Nat → Int64} {n w : Nat} {Q : aO → aS → Prop}
variable {t : Nat → Nat} {N a : Nat} {bad bk op : Int32} {σ : aS}
/-- a number as the model reads it -/
def mv (t : Nat → Nat) (p : Nat) : Nat → Nat
  | 0 => 0
  | k + 1 => if 9999 < mv t p k then 10000 else 10 * mv t p k + (t (p + k) - 48)
theorem mv_le (t : Nat → Nat) (p : Nat) (h : ∀ i, t (p + i) - 48 ≤ 9 ∨ True) : True := trivial
theorem mv_dv {t : Nat → Nat} {p : Nat} : ∀ k, (∀ i, i < k → t (p + i) - 48 ≤ 9) → mv t p k ≤ 99999 ∧ (mv t p k ≤ 9999 → mv t p k = dv t p k) ∧ (9999 < mv t p k → 9999 < dv t p k)
  | 0, _ => ⟨by simp [mv], fun _ => rfl, fun h => by simp [mv] at h⟩
  | k + 1, h => by
    obtain ⟨h1, h2, h3⟩ := mv_dv k (fun i hi => h i (by omega))
    have hk := h k (by omega)
    unfold mv dv
    split
    · rename_i hh
      have := h3 hh
      exact ⟨by omega, fun q => by omega, fun _ => by omega⟩
    · rename_i hh
      have e := h2 (by omega)
      rw [e]
      rw [e] at hh
      exact ⟨by omega, fun _ => rfl, fun q => q⟩
theorem mv_lt {k m p : Nat} (h : ∀ i, i < k → t (p + i) - 48 ≤ 9) (hm : m ≤ 10000) : mv t p k < m ↔ dv t p k < m := by
  obtain ⟨h1, h2, h3⟩ := mv_dv k h
  by_cases q : mv t p k ≤ 9999
  · rw [h2 q]
  · have := h3 (by omega); omega
theorem dig_n : ∀ c, dg c = true → 48 ≤ c ∧ c ≤ 57 := fun c h => by simpa [dg] using h
theorem dE_dig {i s : Nat} (h : s ≤ i) (h2 : i < dE t N s) : 48 ≤ t i ∧ t i ≤ 57 := dig_n _ (rn_yes (fun i => dg (t i)) _ _ i h h2)
theorem rdn_lp (hm : mx I t N) {lo hi c : Int32} {s : Nat} : ∀ f a, a ≤ N → N - a = f → s ≤ a → (∀ i, i < a - s → t (s + i) - 48 ≤ 9) → Rn g (d + 1) mX12_readNumber 114 [.ref 534, .int lo, .int hi, .int c, .int (nI s), .int (nI (mv t s (dE t N a - s)))] [] [] (Z (mp I (dE t N a) bad bk op) J n w) Q →
    Rn g (d + 1) mX12_readNumber 41 [.ref 534, .int lo, .int hi, .int c, .int (nI s), .int (nI (mv t s (a - s)))] [] [] (Z (mp I a bad bk op) J n w) Q := by
  have hN := hm.1
  have e9 : (9999 : Int32) = nI 9999 := rfl
  intro f
  induction f with
  | zero =>
    intro a ha hf h0 hdd kk
    rw [dE_end (by omega)] at kk
    refine s_aload_n (pc := 41) (i := 0) dX12_readNumber_41 rfl rfl ?_
    refine m_gi (pc := 42) dX12_readNumber_42 ff_X12_108 rfl o_534 ?_
    refine m_nm (v' := nI a) rfl ?_
    refine s_aload_n (pc := 45) (i := 0) dX12_readNumber_45 rfl rfl ?_
    refine m_gi (pc := 46) dX12_readNumber_46 ff_X12_111 rfl o_534 ?_
    refine m_nm (v' := nI N) (mx_N hm) ?_
    refine s_icge (pc := 49) (tgt := 114) dX12_readNumber_49 rfl (fun h49 => ?_) (fun h49 => absurd (nI_le (by omega) (by omega)) h49)
    exact kk
  | succ f ih =>
    intro a ha hf h0 hdd kk
    have hc := mx_c hm (i := a) (by omega)
    have hmv := (mv_dv (a - s) hdd).1
    have em : mv t s (a + 1 - s) = if 9999 < mv t s (a - s) then 10000 else 10 * mv t s (a - s) + (t a - 48) := by rw [show a + 1 - s = (a - s) + 1 by omega, mv, show s + (a - s) = a by omega]
    refine s_aload_n (pc := 41) (i := 0) dX12_readNumber_41 rfl rfl ?_
    refine m_gi (pc := 42) dX12_readNumber_42 ff_X12_108 rfl o_534 ?_
    refine m_nm (v' := nI a) rfl ?_
    refine s_aload_n (pc := 45) (i := 0) dX12_readNumber_45 rfl rfl ?_
    refine m_gi (pc := 46) dX12_readNumber_46 ff_X12_111 rfl o_534 ?_
    refine m_nm (v' := nI N) (mx_N hm) ?_
    refine s_icge (pc := 49) (tgt := 114) dX12_readNumber_49 rfl (fun h49 => absurd h49 (nI_ge (by omega) (by omega))) (fun h49 => ?_)
    refine s_aload_n (pc := 52) (i := 0) dX12_readNumber_52 rfl rfl ?_
    refine m_gr (pc := 53) dX12_readNumber_53 ff_X12_20 rfl o_534 r_534_9 ?_
    refine s_aload_n (pc := 56) (i := 0) dX12_readNumber_56 rfl rfl ?_
    refine m_gi (pc := 57) dX12_readNumber_57 ff_X12_108 rfl o_534 ?_
    refine m_nm (v' := nI a) rfl ?_
    refine m_ia (pc := 60) dX12_readNumber_60 a_536 (vp_in_nI (n := a) (by omega) (by decide)) ?_
    refine m_nm (v' := nI (t (a))) (mx_r hm (by omega)) ?_
    refine m_s1 (pc := 61) dX12_readNumber_61 lk_X12_135 ok_X12_isDigit rfl rfl (c_X12_isDigit hc (fun h => kt_s ?_) (fun h => kt_s ?_))
    · have hd2 := dig_n _ h
      rw [dE_one (by omega) h] at kk
      refine s_ifeq (pc := 64) (tgt := 114) dX12_readNumber_64 rfl (fun h64 => absurd h64 (by decide)) (fun h64 => ?_)
      refine s_iload (pc := 67) (i := 5) dX12_readNumber_67 rfl ?_
      refine m_si (pc := 69) (v := 9999) dX12_readNumber_69 rfl ?_
      refine s_icle (pc := 72) (tgt := 81) dX12_readNumber_72 rfl (fun h72 => ?_) (fun h72 => ?_)
      · rw [e9, nI_leI (by omega) (by omega)] at h72
        refine m_bi (pc := 81) (v := 10) dX12_readNumber_81 rfl ?_
        refine s_iload (pc := 83) (i := 5) dX12_readNumber_83 rfl ?_
        refine s_imul (pc := 85) dX12_readNumber_85 ?_
        refine s_aload_n (pc := 86) (i := 0) dX12_readNumber_86 rfl rfl ?_
        refine m_gr (pc := 87) dX12_readNumber_87 ff_X12_20 rfl o_534 r_534_9 ?_
        refine s_aload_n (pc := 90) (i := 0) dX12_readNumber_90 rfl rfl ?_
        refine m_gi (pc := 91) dX12_readNumber_91 ff_X12_108 rfl o_534 ?_
        refine m_nm (v' := nI a) rfl ?_
        refine m_ia (pc := 94) dX12_readNumber_94 a_536 (vp_in_nI (n := a) (by omega) (by decide)) ?_
        refine m_nm (v' := nI (t (a))) (mx_r hm (by omega)) ?_
        refine s_iadd (pc := 95) dX12_readNumber_95 ?_
        refine m_bi (pc := 96) (v := 48) dX12_readNumber_96 rfl ?_
        refine s_isub (pc := 98) dX12_readNumber_98 ?_
        refine m_nm (v' := nI (mv t s (a + 1 - s))) (by rw [num_i (by omega), em, if_neg (by omega)]) ?_
        refine s_istore (pc := 99) (i := 5) dX12_readNumber_99 (Nat.le_of_ble_eq_true rfl) ?_
        dsimp only [List.set, List.filter]
        refine s_aload_n (pc := 101) (i := 0) dX12_readNumber_101 rfl rfl ?_
        refine s_dup (pc := 102) dX12_readNumber_102 rfl ?_
        refine m_gi (pc := 103) dX12_readNumber_103 ff_X12_108 rfl o_534 ?_
        refine m_nm (v' := nI a) rfl ?_
        refine m_ic (pc := 106) (v := 1) dX12_readNumber_106 rfl ?_
        refine s_iadd (pc := 107) dX12_readNumber_107 ?_
        refine m_nm (v' := nI (a + 1)) (nI_1 a) ?_
        refine m_pi (pc := 108) dX12_readNumber_108 ff_X12_108 rfl rfl o_534 ?_
        refine Rs_cg mp_a ?_
        refine s_goto (pc := 111) (tgt := 41) dX12_readNumber_111 rfl ?_
        refine ih (a + 1) (by omega) (by omega) (by omega) (fun i hi => ?_) kk
        by_cases q : i = a - s
        · rw [q, show s + (a - s) = a by omega]; omega
        · exact hdd i (by omega)
      · rw [e9, nI_leI (by omega) (by omega)] at h72
        refine m_si (pc := 75) (v := 10000) dX12_readNumber_75 rfl ?_
        refine m_nm (v' := nI (mv t s (a + 1 - s))) (by rw [em, if_pos (by omega)]; rfl) ?_
        refine s_goto (pc := 78) (tgt := 99) dX12_readNumber_78 rfl ?_
        refine s_istore (pc := 99) (i := 5) dX12_readNumber_99 (Nat.le_of_ble_eq_true rfl) ?_
        dsimp only [List.set, List.filter]
        refine s_aload_n (pc := 101) (i := 0) dX12_readNumber_101 rfl rfl ?_
        refine s_dup (pc := 102) dX12_readNumber_102 rfl ?_
        refine m_gi (pc := 103) dX12_readNumber_103 ff_X12_108 rfl o_534 ?_
        refine m_nm (v' := nI a) rfl ?_
        refine m_ic (pc := 106) (v := 1) dX12_readNumber_106 rfl ?_
        refine s_iadd (pc := 107) dX12_readNumber_107 ?_
        refine m_nm (v' := nI (a + 1)) (nI_1 a) ?_
        refine m_pi (pc := 108) dX12_readNumber_108 ff_X12_108 rfl rfl o_534 ?_
        refine Rs_cg mp_a ?_
        refine s_goto (pc := 111) (tgt := 41) dX12_readNumber_111 rfl ?_
        refine ih (a + 1) (by omega) (by omega) (by omega) (fun i hi => ?_) kk
        by_cases q : i = a - s
        · rw [q, show s + (a - s) = a by omega]; omega
        · exact hdd i (by omega)
    · rw [dE_zero h] at kk
      refine s_ifeq (pc := 64) (tgt := 114) dX12_readNumber_64 rfl (fun h64 => ?_) (fun h64 => absurd h64 (by decide))
      exact kk
theorem c_X12_readNumber {lo hi : Int32} {lo1 hi1 : Nat} (hm : mx I t N) (ha : a ≤ N) (hb : bad = -1) (hlo : ∀ v, v ≤ 99999 → (nI v < lo ↔ v < lo1)) (hhi : ∀ v, v ≤ 99999 → (nI v ≤ hi ↔ v < hi1)) (hmm : lo1 ≤ 10000 ∧ hi1 ≤ 10000)
    (h1 : (sk t N a = N ∨ dg (t (sk t N a)) = false) → Q (.inl (some (.int 0))) (Z (mp I (sk t N a) (nI (sk t N a)) 1 op) J n w)) (h2 : sk t N a < N → dg (t (sk t N a)) = true → (dv t (sk t N a) (dE t N (sk t N a) - sk t N a) < lo1 ∨ hi1 ≤ dv t (sk t N a) (dE t N (sk t N a) - sk t N a)) → Q (.inl (some (.int 0))) (Z (mp I (dE t N (sk t N a)) (nI (sk t N a)) 2 op) J n w))
    (h3 : sk t N a < N → dg (t (sk t N a)) = true → lo1 ≤ dv t (sk t N a) (dE t N (sk t N a) - sk t N a) → dv t (sk t N a) (dE t N (sk t N a) - sk t N a) < hi1 → Q (.inl (some (.int (nI (dv t (sk t N a) (dE t N (sk t N a) - sk t N a)))))) (Z (mp I (dE t N (sk t N a)) bad bk op) J n w)) : Cn g (d + 1) mX12_readNumber [.ref 534, .int lo, .int hi] (Z (mp I a bad bk op) J n w) Q := by
  have hN := hm.1
  have hs := sk_le (t := t) ha
  have hvl := hv_lt (a := sk t N a) hm
  show Rn g (d + 1) mX12_readNumber 0 [.ref 534, .int lo, .int hi, .retAddr 0, .retAddr 0, .retAddr 0] [] [] (Z (mp I a bad bk op) J n w) Q
  refine s_aload_n (pc := 0) (i := 0) dX12_readNumber_0 rfl rfl ?_
  refine m_v0 (pc := 1) dX12_readNumber_1 lk_X12_131 ok_X12_fine (rcO o_534 (by decide) rfl) rfl rfl (c_X12_fine (fun h => kt_s ?_) (fun h => absurd hb h))
  · refine s_ifne (pc := 4) (tgt := 9) dX12_readNumber_4 rfl (fun h4 => ?_) (fun h4 => absurd h4 (by decide))
    refine s_aload_n (pc := 9) (i := 0) dX12_readNumber_9 rfl rfl ?_
    refine m_v0 (pc := 10) dX12_readNumber_10 lk_X12_114 ok_X12_here (rcO o_534 (by decide) rfl) rfl rfl (c_X12_here hm ha (kt_s ?_))
    refine s_istore_n (pc := 13) (i := 3) dX12_readNumber_13 rfl (Nat.le_of_ble_eq_true rfl) ?_
    dsimp only [List.set, List.filter]
    refine s_aload_n (pc := 14) (i := 0) dX12_readNumber_14 rfl rfl ?_
    refine m_gi (pc := 15) dX12_readNumber_15 ff_X12_108 rfl o_534 ?_
    refine m_nm (v' := nI (sk t N a)) rfl ?_
    refine s_istore (pc := 18) (i := 4) dX12_readNumber_18 (Nat.le_of_ble_eq_true rfl) ?_
    dsimp only [List.set, List.filter]
    refine m_ic (pc := 20) (v := 0) dX12_readNumber_20 rfl ?_
    refine s_istore (pc := 21) (i := 5) dX12_readNumber_21 (Nat.le_of_ble_eq_true rfl) ?_
    dsimp only [List.set, List.filter]
    refine s_iload_n (pc := 23) (i := 3) dX12_readNumber_23 rfl rfl ?_
    refine m_s1 (pc := 24) dX12_readNumber_24 lk_X12_135 ok_X12_isDigit rfl rfl (c_X12_isDigit hvl (fun h => kt_s ?_) (fun h => kt_s ?_))
    · refine s_ifne (pc := 27) (tgt := 41) dX12_readNumber_27 rfl (fun h27 => ?_) (fun h27 => absurd h27 (by decide))
      have hs2 : sk t N a < N := by
        unfold hv at h
        split at h
        · assumption
        · simp [dg] at h
      have h5 : dg (t (sk t N a)) = true := by
        unfold hv at h
        rw [if_pos hs2] at h
        exact h
      have e0 : (0 : Int32) = nI (mv t (sk t N a) (sk t N a - sk t N a)) := by rw [Nat.sub_self]; rfl
      rw [e0]
      refine rdn_lp hm (N - sk t N a) (sk t N a) hs rfl (Nat.le_refl _) (fun i hi => by omega) ?_
      have hdl := dE_le (t := t) hs
      have hdg := dE_ge (t := t) (N := N) (a := sk t N a)
      have hdd : ∀ i, i < dE t N (sk t N a) - sk t N a → t (sk t N a + i) - 48 ≤ 9 := fun i hi => by have := dE_dig (t := t) (N := N) (s := sk t N a) (i := sk t N a + i) (by omega) (by omega); omega
      have hcp := (mv_dv _ hdd).1
      refine s_iload (pc := 114) (i := 5) dX12_readNumber_114 rfl ?_
      refine s_iload_n (pc := 116) (i := 1) dX12_readNumber_116 rfl rfl ?_
      refine s_iclt (pc := 117) (tgt := 126) dX12_readNumber_117 rfl (fun h117 => ?_) (fun h117 => ?_)
      · refine s_aload_n (pc := 126) (i := 0) dX12_readNumber_126 rfl rfl ?_
        refine m_ic (pc := 127) (v := 2) dX12_readNumber_127 rfl ?_
        refine s_iload (pc := 128) (i := 4) dX12_readNumber_128 rfl ?_
        refine m_v2 (pc := 130) dX12_readNumber_130 lk_X12_138 ok_X12_wrong (rcO o_534 (by decide) rfl) rfl rfl (c_X12_wrong hb (kt_v ?_))
        refine m_ic (pc := 133) (v := 0) dX12_readNumber_133 rfl ?_
        refine s_ireturn (pc := 134) dX12_readNumber_134 rfl rfl ?_
        first | exact h2 hs2 h5 (Or.inl ((mv_lt hdd hmm.1).mp ((hlo _ hcp).mp h117))) | exact h2 hs2 h5 (Or.inr (Nat.not_lt.mp (fun q => h123 ((hhi _ hcp).mpr ((mv_lt hdd hmm.2).mpr q)))))
      · refine s_iload (pc := 120) (i := 5) dX12_readNumber_120 rfl ?_
        refine s_iload_n (pc := 122) (i := 2) dX12_readNumber_122 rfl rfl ?_
        refine s_icle (pc := 123) (tgt := 135) dX12_readNumber_123 rfl (fun h123 => ?_) (fun h123 => ?_)
        · refine s_iload (pc := 135) (i := 5) dX12_readNumber_135 rfl ?_
          refine s_ireturn (pc := 137) dX12_readNumber_137 rfl rfl ?_
          have q1 := (mv_lt hdd hmm.2).mp ((hhi _ hcp).mp h123)
          have q2 := mt (mv_lt hdd hmm.1).mpr (mt (hlo _ hcp).mpr h117)
          rw [(mv_dv _ hdd).2.1 (by have := (hhi _ hcp).mp h123; omega)]
          exact h3 hs2 h5 (by omega) q1
        · refine s_aload_n (pc := 126) (i := 0) dX12_readNumber_126 rfl rfl ?_
          refine m_ic (pc := 127) (v := 2) dX12_readNumber_127 rfl ?_
          refine s_iload (pc := 128) (i := 4) dX12_readNumber_128 rfl ?_
          refine m_v2 (pc := 130) dX12_readNumber_130 lk_X12_138 ok_X12_wrong (rcO o_534 (by decide) rfl) rfl rfl (c_X12_wrong hb (kt_v ?_))
          refine m_ic (pc := 133) (v := 0) dX12_readNumber_133 rfl ?_
          refine s_ireturn (pc := 134) dX12_readNumber_134 rfl rfl ?_
          first | exact h2 hs2 h5 (Or.inl ((mv_lt hdd hmm.1).mp ((hlo _ hcp).mp h117))) | exact h2 hs2 h5 (Or.inr (Nat.not_lt.mp (fun q => h123 ((hhi _ hcp).mpr ((mv_lt hdd hmm.2).mpr q)))))
    · refine s_ifne (pc := 27) (tgt := 41) dX12_readNumber_27 rfl (fun h27 => absurd h27 (by decide)) (fun h27 => ?_)
      refine s_aload_n (pc := 30) (i := 0) dX12_readNumber_30 rfl rfl ?_
      refine m_ic (pc := 31) (v := 1) dX12_readNumber_31 rfl ?_
      refine s_aload_n (pc := 32) (i := 0) dX12_readNumber_32 rfl rfl ?_
      refine m_gi (pc := 33) dX12_readNumber_33 ff_X12_108 rfl o_534 ?_
      refine m_nm (v' := nI (sk t N a)) rfl ?_
      refine m_v2 (pc := 36) dX12_readNumber_36 lk_X12_138 ok_X12_wrong (rcO o_534 (by decide) rfl) rfl rfl (c_X12_wrong hb (kt_v ?_))
      refine m_ic (pc := 39) (v := 0) dX12_readNumber_39 rfl ?_
      refine s_ireturn (pc := 40) dX12_readNumber_40 rfl rfl ?_
      refine h1 ?_
      unfold hv at h
      split at h
      · exact Or.inr h
      · exact Or.inl (by omega)
theorem c_X12_readNumber_n {lo hi : Int32} (hb : bad ≠ -1) (hq : Q (.inl (some (.int 0))) (Z (mp I a bad bk op) J n w)) : Cn g (d + 1) mX12_readNumber [.ref 534, .int lo, .int hi] (Z (mp I a bad bk op) J n w) Q := by
  show Rn g (d + 1) mX12_readNumber 0 [.ref 534, .int lo, .int hi, .retAddr 0, .retAddr 0, .retAddr 0] [] [] (Z (mp I a bad bk op) J n w) Q
  refine s_aload_n (pc := 0) (i := 0) dX12_readNumber_0 rfl rfl ?_
  refine m_v0 (pc := 1) dX12_readNumber_1 lk_X12_131 ok_X12_fine (rcO o_534 (by decide) rfl) rfl rfl (c_X12_fine (fun h => absurd h hb) (fun h => kt_s ?_))
  · refine s_ifne (pc := 4) (tgt := 9) dX12_readNumber_4 rfl (fun h4 => absurd h4 (by decide)) (fun h4 => ?_)
    refine m_ic (pc := 7) (v := 0) dX12_readNumber_7 rfl ?_
    refine s_ireturn (pc := 8) dX12_readNumber_8 rfl rfl ?_
    exact hq
/-- a word as a number, five bits a letter -/
def wcd (t : Nat → Nat) (p : Nat) : Nat → Nat
  | 0 => 0
  | k + 1 => 32 * wcd t p k + (t (p + k) - 96)
theorem wcd_lt {t : Nat → Nat} {p : Nat} : ∀ k, (∀ i, i < k → t (p + i) - 96 < 32) → wcd t p k < 32 ^ k
  | 0, _ => by simp [wcd]
  | k + 1, h => by have h1 := wcd_lt k (fun i hi => h i (by omega)); have h2 := h k (by omega); rw [wcd, Nat.pow_succ]; omega
theorem wcd_b {t : Nat → Nat} {p k : Nat} (hk : k ≤ 6) (h : ∀ i, i < k → t (p + i) - 96 < 32) : wcd t p k < 2 ^ 30 := by
  have h1 := wcd_lt k h
  have h2 : 32 ^ k ≤ 32 ^ 6 := Nat.pow_le_pow_right (by omega) hk
  have h3 : 32 ^ 6 = 2 ^ 30 := by decide
  omega
theorem sm_n : ∀ c, sm c = true → 97 ≤ c ∧ c ≤ 122 := fun c h => by simpa [sm] using h
theorem wE_sm {i s : Nat} (h : s ≤ i) (h2 : i < wE t N s) : 97 ≤ t i ∧ t i ≤ 122 := sm_n _ (rn_yes (fun i => sm (t i)) _ _ i h h2)
theorem shl5 {x c : Nat} (hx : x < 2 ^ 25) (hc : 96 ≤ c) (hc2 : c - 96 < 32) : (nI x <<< ((5 : Int32) &&& 31)) ||| (nI c - 96) = nI (32 * x + (c - 96)) := by
  rw [show (96 : Int32) = nI 96 from rfl, pk_sub hc, pk_shlN (k := 5) _ (by decide +kernel) (by omega), Nat.mul_comm]
  exact fa_or_sum (k := 5) x (by omega)
/-- the word's number as the model has it: 0 of more than six letters -/
def wv (t : Nat → Nat) (s k : Nat) : Int32 := if k ≤ 6 then nI (wcd t s k) else 0
theorem wv_1 {k s : Nat} (h0 : s ≤ k) (hk : ¬ 6 ≤ k - s) (hsm : ∀ i, i < k - s → 97 ≤ t (s + i) ∧ t (s + i) ≤ 122) (h : 97 ≤ t k ∧ t k ≤ 122) : (wv t s (k - s) <<< ((5 : Int32) &&& 31)) ||| (nI (t k) - 96) = wv t s (k + 1 - s) := by
  have h1 := wcd_lt (t := t) (p := s) (k - s) (fun i hi => by have := hsm i hi; omega)
  have h6 : 32 ^ (k - s) ≤ 32 ^ 5 := Nat.pow_le_pow_right (by omega) (by omega)
  have h7 : 32 ^ 5 = 2 ^ 25 := by decide
  unfold wv
  rw [if_pos (by omega), if_pos (by omega), shl5 (by omega) (by omega) (by omega), show k + 1 - s = (k - s) + 1 by omega, wcd, show s + (k - s) = k by omega]
theorem wh_lp (hm : mx I t N) {s : Nat} (hs : s ≤ N) (hq : Q (.inl (some (.int (wv t s (wE t N s - s))))) (Z (mp I a bad bk op) J n w)) : ∀ f k, k ≤ N → N - k = f → s ≤ k → k ≤ wE t N s → (k < wE t N s ∨ k = wE t N s) → Rn g (d + 1) mX12_wordHere 14 [.ref 534, .int (wv t s (k - s)), .int (nI (k - s)), .int (nI k)] [] [] (Z (mp I a bad bk op) J n w) Q := by
  have hN := hm.1
  have hwl := wE_le (t := t) hs
  have e6 : (6 : Int32) = nI 6 := rfl
  have fin : ∀ k, k ≤ N → s ≤ k → k = wE t N s → Rn g (d + 1) mX12_wordHere 67 [.ref 534, .int (wv t s (k - s)), .int (nI (k - s)), .int (nI k)] [] [] (Z (mp I a bad bk op) J n w) Q := by
    intro k hk1 hk2 hk3
    rw [← hk3] at hq
    refine s_iload_n (pc := 67) (i := 2) dX12_wordHere_67 rfl rfl ?_
    refine m_bi (pc := 68) (v := 6) dX12_wordHere_68 rfl ?_
    refine s_icle (pc := 70) (tgt := 77) dX12_wordHere_70 rfl (fun h70 => ?_) (fun h70 => ?_)
    · refine s_iload_n (pc := 77) (i := 1) dX12_wordHere_77 rfl rfl ?_
      refine s_ireturn (pc := 78) dX12_wordHere_78 rfl rfl ?_
      exact hq
    · rw [e6, nI_leI (by omega) (by omega)] at h70
      rw [show wv t s (k - s) = 0 by unfold wv; rw [if_neg (by omega)]] at hq
      refine m_ic (pc := 73) (v := 0) dX12_wordHere_73 rfl ?_
      refine s_goto (pc := 74) (tgt := 78) dX12_wordHere_74 rfl ?_
      refine s_ireturn (pc := 78) dX12_wordHere_78 rfl rfl ?_
      exact hq
  intro f
  induction f with
  | zero =>
    intro k hk hf h0 h1 h2
    refine s_iload_n (pc := 14) (i := 3) dX12_wordHere_14 rfl rfl ?_
    refine s_aload_n (pc := 15) (i := 0) dX12_wordHere_15 rfl rfl ?_
    refine m_gi (pc := 16) dX12_wordHere_16 ff_X12_111 rfl o_534 ?_
    refine m_nm (v' := nI N) (mx_N hm) ?_
    refine s_icge (pc := 19) (tgt := 67) dX12_wordHere_19 rfl (fun h19 => ?_) (fun h19 => absurd (nI_le (by omega) (by omega)) h19)
    exact fin k hk h0 (by omega)
  | succ f ih =>
    intro k hk hf h0 h1 h2
    have hc := mx_c hm (i := k) (by omega)
    have hsm : ∀ i, i < k - s → 97 ≤ t (s + i) ∧ t (s + i) ≤ 122 := fun i hi => wE_sm (s := s) (N := N) (by omega) (by omega)
    refine s_iload_n (pc := 14) (i := 3) dX12_wordHere_14 rfl rfl ?_
    refine s_aload_n (pc := 15) (i := 0) dX12_wordHere_15 rfl rfl ?_
    refine m_gi (pc := 16) dX12_wordHere_16 ff_X12_111 rfl o_534 ?_
    refine m_nm (v' := nI N) (mx_N hm) ?_
    refine s_icge (pc := 19) (tgt := 67) dX12_wordHere_19 rfl (fun h19 => absurd h19 (nI_ge (by omega) (by omega))) (fun h19 => ?_)
    refine s_aload_n (pc := 22) (i := 0) dX12_wordHere_22 rfl rfl ?_
    refine m_gr (pc := 23) dX12_wordHere_23 ff_X12_20 rfl o_534 r_534_9 ?_
    refine s_iload_n (pc := 26) (i := 3) dX12_wordHere_26 rfl rfl ?_
    refine m_ia (pc := 27) dX12_wordHere_27 a_536 (vp_in_nI (n := k) (by omega) (by decide)) ?_
    refine m_nm (v' := nI (t (k))) (mx_r hm (by omega)) ?_
    refine m_s1 (pc := 28) dX12_wordHere_28 lk_X12_118 ok_X12_isSmall rfl rfl (c_X12_isSmall hc (fun h => kt_s ?_) (fun h => kt_s ?_))
    · have hlt : k < wE t N s := by
        rcases h2 with h2 | h2
        · exact h2
        · exfalso
          have := rn_no (fun i => sm (t i)) (N - s) s (by unfold wE at h2; omega)
          have e : rn (fun i => sm (t i)) (N - s) s = k := h2.symm
          rw [e] at this
          rw [this] at h
          cases h
      have hsk := sm_n _ h
      refine s_ifeq (pc := 31) (tgt := 67) dX12_wordHere_31 rfl (fun h31 => absurd h31 (by decide)) (fun h31 => ?_)
      refine s_iload_n (pc := 34) (i := 2) dX12_wordHere_34 rfl rfl ?_
      refine m_bi (pc := 35) (v := 6) dX12_wordHere_35 rfl ?_
      refine s_icge (pc := 37) (tgt := 56) dX12_wordHere_37 rfl (fun h37 => ?_) (fun h37 => ?_)
      · rw [e6, nI_leI (by omega) (by omega)] at h37
        refine m_ic (pc := 56) (v := 0) dX12_wordHere_56 rfl ?_
        refine m_nm (v' := wv t s (k + 1 - s)) (by unfold wv; rw [if_neg (by omega)]) ?_
        refine s_istore_n (pc := 57) (i := 1) dX12_wordHere_57 rfl (Nat.le_of_ble_eq_true rfl) ?_
        dsimp only [List.set, List.filter]
        refine m_inc (pc := 58) (v := 1) dX12_wordHere_58 rfl rfl ?_
        dsimp only [List.set, List.filter]
        rw [nI_1, show k - s + 1 = k + 1 - s by omega]
        refine m_inc (pc := 61) (v := 1) dX12_wordHere_61 rfl rfl ?_
        dsimp only [List.set, List.filter]
        rw [nI_1]
        refine s_goto (pc := 64) (tgt := 14) dX12_wordHere_64 rfl ?_
        exact ih (k + 1) (by omega) (by omega) (by omega) (by omega) (by omega)
      · rw [e6, nI_leI (by omega) (by omega)] at h37
        refine s_iload_n (pc := 40) (i := 1) dX12_wordHere_40 rfl rfl ?_
        refine m_ic (pc := 41) (v := 5) dX12_wordHere_41 rfl ?_
        refine s_ishl (pc := 42) dX12_wordHere_42 ?_
        refine s_aload_n (pc := 43) (i := 0) dX12_wordHere_43 rfl rfl ?_
        refine m_gr (pc := 44) dX12_wordHere_44 ff_X12_20 rfl o_534 r_534_9 ?_
        refine s_iload_n (pc := 47) (i := 3) dX12_wordHere_47 rfl rfl ?_
        refine m_ia (pc := 48) dX12_wordHere_48 a_536 (vp_in_nI (n := k) (by omega) (by decide)) ?_
        refine m_nm (v' := nI (t (k))) (mx_r hm (by omega)) ?_
        refine m_bi (pc := 49) (v := 96) dX12_wordHere_49 rfl ?_
        refine s_isub (pc := 51) dX12_wordHere_51 ?_
        refine s_ior (pc := 52) dX12_wordHere_52 ?_
        refine m_nm (v' := wv t s (k + 1 - s)) (wv_1 h0 h37 hsm hsk) ?_
        refine s_goto (pc := 53) (tgt := 57) dX12_wordHere_53 rfl ?_
        refine s_istore_n (pc := 57) (i := 1) dX12_wordHere_57 rfl (Nat.le_of_ble_eq_true rfl) ?_
        dsimp only [List.set, List.filter]
        refine m_inc (pc := 58) (v := 1) dX12_wordHere_58 rfl rfl ?_
        dsimp only [List.set, List.filter]
        rw [nI_1, show k - s + 1 = k + 1 - s by omega]
        refine m_inc (pc := 61) (v := 1) dX12_wordHere_61 rfl rfl ?_
        dsimp only [List.set, List.filter]
        rw [nI_1]
        refine s_goto (pc := 64) (tgt := 14) dX12_wordHere_64 rfl ?_
        exact ih (k + 1) (by omega) (by omega) (by omega) (by omega) (by omega)
    · have heq : k = wE t N s := by
        rcases h2 with h2 | h2
        · exfalso
          have := rn_yes (fun i => sm (t i)) (N - s) s k h0 h2
          rw [h] at this
          cases this
        · exact h2
      refine s_ifeq (pc := 31) (tgt := 67) dX12_wordHere_31 rfl (fun h31 => ?_) (fun h31 => absurd h31 (by decide))
      exact fin k hk h0 heq
theorem c_X12_wordHere (hm : mx I t N) (ha : a ≤ N) (hq : Q (.inl (some (.int (wv t (sk t N a) (wE t N (sk t N a) - sk t N a))))) (Z (mp I (sk t N a) bad bk op) J n w)) : Cn g (d + 1) mX12_wordHere [.ref 534] (Z (mp I a bad bk op) J n w) Q := by
  have hN := hm.1
  show Rn g (d + 1) mX12_wordHere 0 [.ref 534, .retAddr 0, .retAddr 0, .retAddr 0] [] [] (Z (mp I a bad bk op) J n w) Q
  refine s_aload_n (pc := 0) (i := 0) dX12_wordHere_0 rfl rfl ?_
  refine m_v0 (pc := 1) dX12_wordHere_1 lk_X12_114 ok_X12_here (rcO o_534 (by decide) rfl) rfl rfl (c_X12_here hm ha (kt_s ?_))
  refine s_pop (pc := 4) dX12_wordHere_4 rfl ?_
  refine m_ic (pc := 5) (v := 0) dX12_wordHere_5 rfl ?_
  refine s_istore_n (pc := 6) (i := 1) dX12_wordHere_6 rfl (Nat.le_of_ble_eq_true rfl) ?_
  dsimp only [List.set, List.filter]
  refine m_ic (pc := 7) (v := 0) dX12_wordHere_7 rfl ?_
  refine s_istore_n (pc := 8) (i := 2) dX12_wordHere_8 rfl (Nat.le_of_ble_eq_true rfl) ?_
  dsimp only [List.set, List.filter]
  refine s_aload_n (pc := 9) (i := 0) dX12_wordHere_9 rfl rfl ?_
  refine m_gi (pc := 10) dX12_wordHere_10 ff_X12_108 rfl o_534 ?_
  refine m_nm (v' := nI (sk t N a)) rfl ?_
  refine s_istore_n (pc := 13) (i := 3) dX12_wordHere_13 rfl (Nat.le_of_ble_eq_true rfl) ?_
  dsimp only [List.set, List.filter]
  have hs := sk_le (t := t) ha
  have hwg := wE_ge (t := t) (N := N) (a := sk t N a)
  have e0 : (0 : Int32) = wv t (sk t N a) (sk t N a - sk t N a) := by rw [Nat.sub_self]; rfl
  have e1 : (0 : Int32) = nI (sk t N a - sk t N a) := by rw [Nat.sub_self]; rfl
  have h := wh_lp (g := g) (d := d) (a := sk t N a) hm hs hq (N - sk t N a) (sk t N a) hs rfl (Nat.le_refl _) hwg (by omega)
  rw [← e0, ← e1] at h
  exact h
end S
