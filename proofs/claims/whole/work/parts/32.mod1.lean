section S
variable {g : aG} {d : Nat} {I : Nat → Nat → Int32} {J : Nat → Nat → Int64} {n w : Nat} {Q : aO → aS → Prop}
variable {t : Nat → Nat} {N a : Nat} {bad bk op : Int32} {σ : aS}
/-- the model's text, and its own numbers: place, place and kind of the fault, how many are open -/
def mx (I : Nat → Nat → Int32) (t : Nat → Nat) (N : Nat) : Prop := N ≤ 600 ∧ I 534 3 = nI N ∧ ∀ i, i < N → t i < 256 ∧ I 536 i = nI (t i)
def mp (I : Nat → Nat → Int32) (a : Nat) (bad bk op : Int32) : Nat → Nat → Int32 := fun x j => if x = 534 ∧ j = 4 then nI a else if x = 534 ∧ j = 5 then bad else if x = 534 ∧ j = 6 then bk else if x = 534 ∧ j = 7 then op else I x j
theorem mp_a {a' : Nat} : up (mp I a bad bk op) 534 4 (nI a') = mp I a' bad bk op := by funext x j; unfold up mp; by_cases h : x = 534 ∧ j = 4 <;> simp [h]
theorem mp_b {v : Int32} : up (mp I a bad bk op) 534 5 v = mp I a v bk op := by funext x j; unfold up mp; by_cases h : x = 534 ∧ j = 5 <;> simp [h]
theorem mp_k {v : Int32} : up (mp I a bad bk op) 534 6 v = mp I a bad v op := by funext x j; unfold up mp; by_cases h : x = 534 ∧ j = 6 <;> simp [h]
theorem mp_o {v : Int32} : up (mp I a bad bk op) 534 7 v = mp I a bad bk v := by funext x j; unfold up mp; by_cases h : x = 534 ∧ j = 7 <;> simp [h]
theorem mp_x {x j : Nat} (h : x ≠ 534 ∨ j < 4 ∨ 7 < j) : mp I a bad bk op x j = I x j := by unfold mp; rw [if_neg (by omega), if_neg (by omega), if_neg (by omega), if_neg (by omega)]
theorem mx_N (h : mx I t N) : mp I a bad bk op 534 3 = nI N := (mp_x (Or.inr (by decide))).trans h.2.1
theorem mx_r (h : mx I t N) {i : Nat} (hi : i < N) : mp I a bad bk op 536 (nI i).toNatClampNeg = nI (t i) := by have := h.1; rw [nI_clamp (by omega), mp_x (Or.inl (by decide))]; exact (h.2.2 i hi).2
theorem mx_c (h : mx I t N) {i : Nat} (hi : i < N) : t i < 256 := (h.2.2 i hi).1
theorem c_X12_fine (ht : bad = -1 → Q (.inl (some (.int 1))) (Z (mp I a bad bk op) J n w)) (hf : bad ≠ -1 → Q (.inl (some (.int 0))) (Z (mp I a bad bk op) J n w)) : Cn g (d + 0) mX12_fine [.ref 534] (Z (mp I a bad bk op) J n w) Q := by
  show Rn g (d + 0) mX12_fine 0 [.ref 534] [] [] (Z (mp I a bad bk op) J n w) Q
  refine s_aload_n (pc := 0) (i := 0) dX12_fine_0 rfl rfl ?_
  refine m_gi (pc := 1) dX12_fine_1 ff_X12_102 rfl o_534 ?_
  refine m_nm (v' := bad) rfl ?_
  refine m_ic (pc := 4) (v := -1) dX12_fine_4 rfl ?_
  refine s_icne (pc := 5) (tgt := 12) dX12_fine_5 rfl (fun h5 => ?_) (fun h5 => ?_)
  · refine m_ic (pc := 12) (v := 0) dX12_fine_12 rfl ?_
    refine s_ireturn (pc := 13) dX12_fine_13 rfl rfl ?_
    first | exact ht h5 | exact hf h5
  · refine m_ic (pc := 8) (v := 1) dX12_fine_8 rfl ?_
    refine s_goto (pc := 9) (tgt := 13) dX12_fine_9 rfl ?_
    refine s_ireturn (pc := 13) dX12_fine_13 rfl rfl ?_
    first | exact ht h5 | exact hf h5
theorem c_X12_wrong {k v : Int32} (hb : bad = -1) (hq : Q (.inl none) (Z (mp I a v k op) J n w)) : Cn g (d + 0) mX12_wrong [.ref 534, .int k, .int v] (Z (mp I a bad bk op) J n w) Q := by
  show Rn g (d + 0) mX12_wrong 0 [.ref 534, .int k, .int v] [] [] (Z (mp I a bad bk op) J n w) Q
  refine s_aload_n (pc := 0) (i := 0) dX12_wrong_0 rfl rfl ?_
  refine m_gi (pc := 1) dX12_wrong_1 ff_X12_102 rfl o_534 ?_
  refine m_nm (v' := bad) rfl ?_
  refine m_ic (pc := 4) (v := -1) dX12_wrong_4 rfl ?_
  refine s_iceq (pc := 5) (tgt := 9) dX12_wrong_5 rfl (fun h5 => ?_) (fun h5 => absurd (hb) h5)
  refine s_aload_n (pc := 9) (i := 0) dX12_wrong_9 rfl rfl ?_
  refine s_iload_n (pc := 10) (i := 2) dX12_wrong_10 rfl rfl ?_
  refine m_pi (pc := 11) dX12_wrong_11 ff_X12_102 rfl rfl o_534 ?_
  refine Rs_cg mp_b ?_
  refine s_aload_n (pc := 14) (i := 0) dX12_wrong_14 rfl rfl ?_
  refine s_iload_n (pc := 15) (i := 1) dX12_wrong_15 rfl rfl ?_
  refine m_pi (pc := 16) dX12_wrong_16 ff_X12_105 rfl rfl o_534 ?_
  refine Rs_cg mp_k ?_
  refine s_return (pc := 19) dX12_wrong_19 rfl ?_
  exact hq
theorem c_X12_wrong_n {k v : Int32} (hb : bad ≠ -1) (hq : Q (.inl none) (Z (mp I a bad bk op) J n w)) : Cn g (d + 0) mX12_wrong [.ref 534, .int k, .int v] (Z (mp I a bad bk op) J n w) Q := by
  show Rn g (d + 0) mX12_wrong 0 [.ref 534, .int k, .int v] [] [] (Z (mp I a bad bk op) J n w) Q
  refine s_aload_n (pc := 0) (i := 0) dX12_wrong_0 rfl rfl ?_
  refine m_gi (pc := 1) dX12_wrong_1 ff_X12_102 rfl o_534 ?_
  refine m_nm (v' := bad) rfl ?_
  refine m_ic (pc := 4) (v := -1) dX12_wrong_4 rfl ?_
  refine s_iceq (pc := 5) (tgt := 9) dX12_wrong_5 rfl (fun h5 => absurd h5 (hb)) (fun h5 => ?_)
  refine s_return (pc := 8) dX12_wrong_8 rfl ?_
  exact hq
theorem c_X12_isSmall {c : Nat} (hc : c < 256) (ht : sm c = true → Q (.inl (some (.int 1))) σ) (hf : sm c = false → Q (.inl (some (.int 0))) σ) : Cn g (d + 0) mX12_isSmall [.int (nI c)] σ Q := by
  have e1 : (97 : Int32) = nI 97 := rfl
  have e2 : (122 : Int32) = nI 122 := rfl
  show Rn g (d + 0) mX12_isSmall 0 [.int (nI c)] [] [] σ Q
  refine s_iload_n (pc := 0) (i := 0) dX12_isSmall_0 rfl rfl ?_
  refine m_bi (pc := 1) (v := 97) dX12_isSmall_1 rfl ?_
  refine s_iclt (pc := 3) (tgt := 16) dX12_isSmall_3 rfl (fun h3 => ?_) (fun h3 => ?_)
  · rw [e1, nI_ltI (by omega) (by omega)] at h3
    refine m_ic (pc := 16) (v := 0) dX12_isSmall_16 rfl ?_
    refine s_ireturn (pc := 17) dX12_isSmall_17 rfl rfl ?_
    first | exact ht (by simp [sm]; omega) | exact hf (by simp [sm]; omega)
  · rw [e1, nI_ltI (by omega) (by omega)] at h3
    refine s_iload_n (pc := 6) (i := 0) dX12_isSmall_6 rfl rfl ?_
    refine m_bi (pc := 7) (v := 122) dX12_isSmall_7 rfl ?_
    refine s_icgt (pc := 9) (tgt := 16) dX12_isSmall_9 rfl (fun h9 => ?_) (fun h9 => ?_)
    · rw [e2, nI_ltI (by omega) (by omega)] at h9
      refine m_ic (pc := 16) (v := 0) dX12_isSmall_16 rfl ?_
      refine s_ireturn (pc := 17) dX12_isSmall_17 rfl rfl ?_
      first | exact ht (by simp [sm]; omega) | exact hf (by simp [sm]; omega)
    · rw [e2, nI_ltI (by omega) (by omega)] at h9
      refine m_ic (pc := 12) (v := 1) dX12_isSmall_12 rfl ?_
      refine s_goto (pc := 13) (tgt := 17) dX12_isSmall_13 rfl ?_
      refine s_ireturn (pc := 17) dX12_isSmall_17 rfl rfl ?_
      first | exact ht (by simp [sm]; omega) | exact hf (by simp [sm]; omega)
theorem c_X12_isDigit {c : Nat} (hc : c < 256) (ht : dg c = true → Q (.inl (some (.int 1))) σ) (hf : dg c = false → Q (.inl (some (.int 0))) σ) : Cn g (d + 0) mX12_isDigit [.int (nI c)] σ Q := by
  have e1 : (48 : Int32) = nI 48 := rfl
  have e2 : (57 : Int32) = nI 57 := rfl
  show Rn g (d + 0) mX12_isDigit 0 [.int (nI c)] [] [] σ Q
  refine s_iload_n (pc := 0) (i := 0) dX12_isDigit_0 rfl rfl ?_
  refine m_bi (pc := 1) (v := 48) dX12_isDigit_1 rfl ?_
  refine s_iclt (pc := 3) (tgt := 16) dX12_isDigit_3 rfl (fun h3 => ?_) (fun h3 => ?_)
  · rw [e1, nI_ltI (by omega) (by omega)] at h3
    refine m_ic (pc := 16) (v := 0) dX12_isDigit_16 rfl ?_
    refine s_ireturn (pc := 17) dX12_isDigit_17 rfl rfl ?_
    first | exact ht (by simp [dg]; omega) | exact hf (by simp [dg]; omega)
  · rw [e1, nI_ltI (by omega) (by omega)] at h3
    refine s_iload_n (pc := 6) (i := 0) dX12_isDigit_6 rfl rfl ?_
    refine m_bi (pc := 7) (v := 57) dX12_isDigit_7 rfl ?_
    refine s_icgt (pc := 9) (tgt := 16) dX12_isDigit_9 rfl (fun h9 => ?_) (fun h9 => ?_)
    · rw [e2, nI_ltI (by omega) (by omega)] at h9
      refine m_ic (pc := 16) (v := 0) dX12_isDigit_16 rfl ?_
      refine s_ireturn (pc := 17) dX12_isDigit_17 rfl rfl ?_
      first | exact ht (by simp [dg]; omega) | exact hf (by simp [dg]; omega)
    · rw [e2, nI_ltI (by omega) (by omega)] at h9
      refine m_ic (pc := 12) (v := 1) dX12_isDigit_12 rfl ?_
      refine s_goto (pc := 13) (tgt := 17) dX12_isDigit_13 rfl ?_
      refine s_ireturn (pc := 17) dX12_isDigit_17 rfl rfl ?_
      first | exact ht (by simp [dg]; omega) | exact hf (by simp [dg]; omega)
/-- what stands at a place: its byte, or 0 -/
def hv (t : Nat → Nat) (N a : Nat) : Nat := if a < N then t a else 0
theorem hv_lt (h : mx I t N) : hv t N a < 256 := by unfold hv; split; exact mx_c h (by assumption); omega
theorem here_lp (hm : mx I t N) : ∀ f a, a ≤ N → N - a = f → Q (.inl (some (.int (nI (hv t N (sk t N a)))))) (Z (mp I (sk t N a) bad bk op) J n w) → Rn g (d + 0) mX12_here 0 [.ref 534] [] [] (Z (mp I a bad bk op) J n w) Q := by
  have hN := hm.1
  intro f
  induction f with
  | zero =>
    intro a ha hf hq
    rw [sk_end (by omega)] at hq
    refine s_aload_n (pc := 0) (i := 0) dX12_here_0 rfl rfl ?_
    refine m_gi (pc := 1) dX12_here_1 ff_X12_108 rfl o_534 ?_
    refine m_nm (v' := nI a) rfl ?_
    refine s_aload_n (pc := 4) (i := 0) dX12_here_4 rfl rfl ?_
    refine m_gi (pc := 5) dX12_here_5 ff_X12_111 rfl o_534 ?_
    refine m_nm (v' := nI N) (mx_N hm) ?_
    refine s_icge (pc := 8) (tgt := 38) dX12_here_8 rfl (fun h8 => ?_) (fun h8 => absurd (nI_le (by omega) (by omega)) h8)
    refine s_aload_n (pc := 38) (i := 0) dX12_here_38 rfl rfl ?_
    refine m_gi (pc := 39) dX12_here_39 ff_X12_108 rfl o_534 ?_
    refine m_nm (v' := nI a) rfl ?_
    refine s_aload_n (pc := 42) (i := 0) dX12_here_42 rfl rfl ?_
    refine m_gi (pc := 43) dX12_here_43 ff_X12_111 rfl o_534 ?_
    refine m_nm (v' := nI N) (mx_N hm) ?_
    refine s_icge (pc := 46) (tgt := 61) dX12_here_46 rfl (fun h46 => ?_) (fun h46 => absurd (nI_le (by omega) (by omega)) h46)
    refine m_ic (pc := 61) (v := 0) dX12_here_61 rfl ?_
    refine s_ireturn (pc := 62) dX12_here_62 rfl rfl ?_
    rw [show hv t N a = 0 by unfold hv; rw [if_neg (by omega)]] at hq
    exact hq
  | succ f ih =>
    intro a ha hf hq
    have hc := mx_c hm (i := a) (by omega)
    refine s_aload_n (pc := 0) (i := 0) dX12_here_0 rfl rfl ?_
    refine m_gi (pc := 1) dX12_here_1 ff_X12_108 rfl o_534 ?_
    refine m_nm (v' := nI a) rfl ?_
    refine s_aload_n (pc := 4) (i := 0) dX12_here_4 rfl rfl ?_
    refine m_gi (pc := 5) dX12_here_5 ff_X12_111 rfl o_534 ?_
    refine m_nm (v' := nI N) (mx_N hm) ?_
    refine s_icge (pc := 8) (tgt := 38) dX12_here_8 rfl (fun h8 => absurd h8 (nI_ge (by omega) (by omega))) (fun h8 => ?_)
    refine s_aload_n (pc := 11) (i := 0) dX12_here_11 rfl rfl ?_
    refine m_gr (pc := 12) dX12_here_12 ff_X12_20 rfl o_534 r_534_9 ?_
    refine s_aload_n (pc := 15) (i := 0) dX12_here_15 rfl rfl ?_
    refine m_gi (pc := 16) dX12_here_16 ff_X12_108 rfl o_534 ?_
    refine m_nm (v' := nI a) rfl ?_
    refine m_ia (pc := 19) dX12_here_19 a_536 (vp_in_nI (n := a) (by omega) (by decide)) ?_
    refine m_nm (v' := nI (t (a))) (mx_r hm (by omega)) ?_
    refine m_bi (pc := 20) (v := 32) dX12_here_20 rfl ?_
    refine s_icne (pc := 22) (tgt := 38) dX12_here_22 rfl (fun h22 => ?_) (fun h22 => ?_)
    · have e : t a ≠ 32 := fun e => h22 (by rw [e]; rfl)
      rw [sk_zero e, show hv t N a = t a by unfold hv; rw [if_pos (by omega)]] at hq
      refine s_aload_n (pc := 38) (i := 0) dX12_here_38 rfl rfl ?_
      refine m_gi (pc := 39) dX12_here_39 ff_X12_108 rfl o_534 ?_
      refine m_nm (v' := nI a) rfl ?_
      refine s_aload_n (pc := 42) (i := 0) dX12_here_42 rfl rfl ?_
      refine m_gi (pc := 43) dX12_here_43 ff_X12_111 rfl o_534 ?_
      refine m_nm (v' := nI N) (mx_N hm) ?_
      refine s_icge (pc := 46) (tgt := 61) dX12_here_46 rfl (fun h46 => absurd h46 (nI_ge (by omega) (by omega))) (fun h46 => ?_)
      refine s_aload_n (pc := 49) (i := 0) dX12_here_49 rfl rfl ?_
      refine m_gr (pc := 50) dX12_here_50 ff_X12_20 rfl o_534 r_534_9 ?_
      refine s_aload_n (pc := 53) (i := 0) dX12_here_53 rfl rfl ?_
      refine m_gi (pc := 54) dX12_here_54 ff_X12_108 rfl o_534 ?_
      refine m_nm (v' := nI a) rfl ?_
      refine m_ia (pc := 57) dX12_here_57 a_536 (vp_in_nI (n := a) (by omega) (by decide)) ?_
      refine m_nm (v' := nI (t (a))) (mx_r hm (by omega)) ?_
      refine s_goto (pc := 58) (tgt := 62) dX12_here_58 rfl ?_
      refine s_ireturn (pc := 62) dX12_here_62 rfl rfl ?_
      exact hq
    · have e : t a = 32 := (nI_eq (b := 32) (by omega) (by omega)).mp h22
      rw [sk_one (by omega) e] at hq
      refine s_aload_n (pc := 25) (i := 0) dX12_here_25 rfl rfl ?_
      refine s_dup (pc := 26) dX12_here_26 rfl ?_
      refine m_gi (pc := 27) dX12_here_27 ff_X12_108 rfl o_534 ?_
      refine m_nm (v' := nI a) rfl ?_
      refine m_ic (pc := 30) (v := 1) dX12_here_30 rfl ?_
      refine s_iadd (pc := 31) dX12_here_31 ?_
      refine m_nm (v' := nI (a + 1)) (nI_1 a) ?_
      refine m_pi (pc := 32) dX12_here_32 ff_X12_108 rfl rfl o_534 ?_
      refine Rs_cg mp_a ?_
      refine s_goto (pc := 35) (tgt := 0) dX12_here_35 rfl ?_
      exact ih (a + 1) (by omega) (by omega) hq
theorem c_X12_here (hm : mx I t N) (ha : a ≤ N) (hq : Q (.inl (some (.int (nI (hv t N (sk t N a)))))) (Z (mp I (sk t N a) bad bk op) J n w)) : Cn g (d + 0) mX12_here [.ref 534] (Z (mp I a bad bk op) J n w) Q := here_lp hm (N - a) a ha rfl hq
theorem c_X12_isMore (hm : mx I t N) (ha : a ≤ N) (ht : sk t N a < N → Q (.inl (some (.int 1))) (Z (mp I (sk t N a) bad bk op) J n w)) (hf : sk t N a = N → Q (.inl (some (.int 0))) (Z (mp I (sk t N a) bad bk op) J n w)) : Cn g (d + 1) mX12_isMore [.ref 534] (Z (mp I a bad bk op) J n w) Q := by
  have hN := hm.1
  have hs := sk_le (t := t) ha
  show Rn g (d + 1) mX12_isMore 0 [.ref 534] [] [] (Z (mp I a bad bk op) J n w) Q
  refine s_aload_n (pc := 0) (i := 0) dX12_isMore_0 rfl rfl ?_
  refine m_v0 (pc := 1) dX12_isMore_1 lk_X12_114 ok_X12_here (rcO o_534 (by decide) rfl) rfl rfl (c_X12_here hm ha (kt_s ?_))
  refine s_pop (pc := 4) dX12_isMore_4 rfl ?_
  refine s_aload_n (pc := 5) (i := 0) dX12_isMore_5 rfl rfl ?_
  refine m_gi (pc := 6) dX12_isMore_6 ff_X12_108 rfl o_534 ?_
  refine m_nm (v' := nI (sk t N a)) rfl ?_
  refine s_aload_n (pc := 9) (i := 0) dX12_isMore_9 rfl rfl ?_
  refine m_gi (pc := 10) dX12_isMore_10 ff_X12_111 rfl o_534 ?_
  refine m_nm (v' := nI N) (mx_N hm) ?_
  refine s_icge (pc := 13) (tgt := 20) dX12_isMore_13 rfl (fun h13 => ?_) (fun h13 => ?_)
  · refine m_ic (pc := 20) (v := 0) dX12_isMore_20 rfl ?_
    refine s_ireturn (pc := 21) dX12_isMore_21 rfl rfl ?_
    first | exact hf (by have := (nI_leI (a := N) (b := sk t N a) (by omega) (by omega)).mp h13; omega) | exact ht (by have := mt (nI_leI (a := N) (b := sk t N a) (by omega) (by omega)).mpr h13; omega)
  · refine m_ic (pc := 16) (v := 1) dX12_isMore_16 rfl ?_
    refine s_goto (pc := 17) (tgt := 21) dX12_isMore_17 rfl ?_
    refine s_ireturn (pc := 21) dX12_isMore_21 rfl rfl ?_
    first | exact hf (by have := (nI_leI (a := N) (b := sk t N a) (by omega) (by omega)).mp h13; omega) | exact ht (by have := mt (nI_leI (a := N) (b := sk t N a) (by omega) (by omega)).mpr h13; omega)
theorem pass_lp (hm : mx I t N) : ∀ f a, a ≤ N → N - a = f → Q (.inl none) (Z (mp I (wE t N a) bad bk op) J n w) → Rn g (d + 1) mX12_pass 0 [.ref 534] [] [] (Z (mp I a bad bk op) J n w) Q := by
  have hN := hm.1
  intro f
  induction f with
  | zero =>
    intro a ha hf hq
    rw [wE_end (by omega)] at hq
    refine s_aload_n (pc := 0) (i := 0) dX12_pass_0 rfl rfl ?_
    refine m_gi (pc := 1) dX12_pass_1 ff_X12_108 rfl o_534 ?_
    refine m_nm (v' := nI a) rfl ?_
    refine s_aload_n (pc := 4) (i := 0) dX12_pass_4 rfl rfl ?_
    refine m_gi (pc := 5) dX12_pass_5 ff_X12_111 rfl o_534 ?_
    refine m_nm (v' := nI N) (mx_N hm) ?_
    refine s_icge (pc := 8) (tgt := 39) dX12_pass_8 rfl (fun h8 => ?_) (fun h8 => absurd (nI_le (by omega) (by omega)) h8)
    refine s_return (pc := 39) dX12_pass_39 rfl ?_
    exact hq
  | succ f ih =>
    intro a ha hf hq
    have hc := mx_c hm (i := a) (by omega)
    refine s_aload_n (pc := 0) (i := 0) dX12_pass_0 rfl rfl ?_
    refine m_gi (pc := 1) dX12_pass_1 ff_X12_108 rfl o_534 ?_
    refine m_nm (v' := nI a) rfl ?_
    refine s_aload_n (pc := 4) (i := 0) dX12_pass_4 rfl rfl ?_
    refine m_gi (pc := 5) dX12_pass_5 ff_X12_111 rfl o_534 ?_
    refine m_nm (v' := nI N) (mx_N hm) ?_
    refine s_icge (pc := 8) (tgt := 39) dX12_pass_8 rfl (fun h8 => absurd h8 (nI_ge (by omega) (by omega))) (fun h8 => ?_)
    refine s_aload_n (pc := 11) (i := 0) dX12_pass_11 rfl rfl ?_
    refine m_gr (pc := 12) dX12_pass_12 ff_X12_20 rfl o_534 r_534_9 ?_
    refine s_aload_n (pc := 15) (i := 0) dX12_pass_15 rfl rfl ?_
    refine m_gi (pc := 16) dX12_pass_16 ff_X12_108 rfl o_534 ?_
    refine m_nm (v' := nI a) rfl ?_
    refine m_ia (pc := 19) dX12_pass_19 a_536 (vp_in_nI (n := a) (by omega) (by decide)) ?_
    refine m_nm (v' := nI (t (a))) (mx_r hm (by omega)) ?_
    refine m_s1 (pc := 20) dX12_pass_20 lk_X12_118 ok_X12_isSmall rfl rfl (c_X12_isSmall hc (fun h => kt_s ?_) (fun h => kt_s ?_))
    · rw [wE_one (by omega) h] at hq
      refine s_ifeq (pc := 23) (tgt := 39) dX12_pass_23 rfl (fun h23 => absurd h23 (by decide)) (fun h23 => ?_)
      refine s_aload_n (pc := 26) (i := 0) dX12_pass_26 rfl rfl ?_
      refine s_dup (pc := 27) dX12_pass_27 rfl ?_
      refine m_gi (pc := 28) dX12_pass_28 ff_X12_108 rfl o_534 ?_
      refine m_nm (v' := nI a) rfl ?_
      refine m_ic (pc := 31) (v := 1) dX12_pass_31 rfl ?_
      refine s_iadd (pc := 32) dX12_pass_32 ?_
      refine m_nm (v' := nI (a + 1)) (nI_1 a) ?_
      refine m_pi (pc := 33) dX12_pass_33 ff_X12_108 rfl rfl o_534 ?_
      refine Rs_cg mp_a ?_
      refine s_goto (pc := 36) (tgt := 0) dX12_pass_36 rfl ?_
      exact ih (a + 1) (by omega) (by omega) hq
    · rw [wE_zero h] at hq
      refine s_ifeq (pc := 23) (tgt := 39) dX12_pass_23 rfl (fun h23 => ?_) (fun h23 => absurd h23 (by decide))
      refine s_return (pc := 39) dX12_pass_39 rfl ?_
      exact hq
theorem c_X12_pass (hm : mx I t N) (ha : a ≤ N) (hq : Q (.inl none) (Z (mp I (wE t N a) bad bk op) J n w)) : Cn g (d + 1) mX12_pass [.ref 534] (Z (mp I a bad bk op) J n w) Q := pass_lp hm (N - a) a ha rfl hq
theorem nI_m1 {k : Nat} (h : k < 2 ^ 31) : ¬ nI k = -1 := fun e => absurd (show nI k < 0 by rw [e]; decide) (nI_pos h)
theorem c_X12_sign {c : Nat} (hm : mx I t N) (ha : a ≤ N) (hc : c < 256) (hc0 : 0 < c) (hb : bad = -1) (ht : sk t N a < N → t (sk t N a) = c → Q (.inl none) (Z (mp I (sk t N a + 1) bad bk op) J n w)) (hf : (sk t N a = N ∨ t (sk t N a) ≠ c) → Q (.inl none) (Z (mp I (sk t N a) (nI (sk t N a)) 1 op) J n w)) : Cn g (d + 1) mX12_sign [.ref 534, .int (nI c)] (Z (mp I a bad bk op) J n w) Q := by
  have hN := hm.1
  have hs := sk_le (t := t) ha
  have hvl := hv_lt (a := sk t N a) hm
  show Rn g (d + 1) mX12_sign 0 [.ref 534, .int (nI c)] [] [] (Z (mp I a bad bk op) J n w) Q
  refine s_aload_n (pc := 0) (i := 0) dX12_sign_0 rfl rfl ?_
  refine m_v0 (pc := 1) dX12_sign_1 lk_X12_131 ok_X12_fine (rcO o_534 (by decide) rfl) rfl rfl (c_X12_fine (fun h => kt_s ?_) (fun h => absurd hb h))
  · refine s_ifeq (pc := 4) (tgt := 24) dX12_sign_4 rfl (fun h4 => absurd h4 (by decide)) (fun h4 => ?_)
    refine s_aload_n (pc := 7) (i := 0) dX12_sign_7 rfl rfl ?_
    refine m_v0 (pc := 8) dX12_sign_8 lk_X12_114 ok_X12_here (rcO o_534 (by decide) rfl) rfl rfl (c_X12_here hm ha (kt_s ?_))
    refine s_iload_n (pc := 11) (i := 1) dX12_sign_11 rfl rfl ?_
    refine s_iceq (pc := 12) (tgt := 24) dX12_sign_12 rfl (fun h12 => ?_) (fun h12 => ?_)
    · have e := (nI_eq (by omega) (by omega)).mp h12
      have e2 : sk t N a < N ∧ t (sk t N a) = c := by
        unfold hv at e
        split at e
        · exact ⟨by assumption, e⟩
        · omega
      refine s_aload_n (pc := 24) (i := 0) dX12_sign_24 rfl rfl ?_
      refine m_v0 (pc := 25) dX12_sign_25 lk_X12_131 ok_X12_fine (rcO o_534 (by decide) rfl) rfl rfl (c_X12_fine (fun h => kt_s ?_) (fun h => kt_s ?_))
      · refine s_ifeq (pc := 28) (tgt := 41) dX12_sign_28 rfl (fun h28 => absurd h28 (by decide)) (fun h28 => ?_)
        refine s_aload_n (pc := 31) (i := 0) dX12_sign_31 rfl rfl ?_
        refine s_dup (pc := 32) dX12_sign_32 rfl ?_
        refine m_gi (pc := 33) dX12_sign_33 ff_X12_108 rfl o_534 ?_
        refine m_nm (v' := nI (sk t N a)) rfl ?_
        refine m_ic (pc := 36) (v := 1) dX12_sign_36 rfl ?_
        refine s_iadd (pc := 37) dX12_sign_37 ?_
        refine m_nm (v' := nI (sk t N a + 1)) (nI_1 _) ?_
        refine m_pi (pc := 38) dX12_sign_38 ff_X12_108 rfl rfl o_534 ?_
        refine Rs_cg mp_a ?_
        refine s_return (pc := 41) dX12_sign_41 rfl ?_
        first | exact ht e2.1 e2.2 | exact absurd hb h | exact absurd h (nI_m1 (by omega)) | exact hf e2
      · refine s_ifeq (pc := 28) (tgt := 41) dX12_sign_28 rfl (fun h28 => ?_) (fun h28 => absurd h28 (by decide))
        refine s_return (pc := 41) dX12_sign_41 rfl ?_
        first | exact ht e2.1 e2.2 | exact absurd hb h | exact absurd h (nI_m1 (by omega)) | exact hf e2
    · have e2 : sk t N a = N ∨ t (sk t N a) ≠ c := by
        by_cases q : sk t N a < N
        · refine Or.inr (fun q2 => h12 ?_)
          unfold hv
          rw [if_pos q, q2]
        · exact Or.inl (by omega)
      refine s_aload_n (pc := 15) (i := 0) dX12_sign_15 rfl rfl ?_
      refine m_ic (pc := 16) (v := 1) dX12_sign_16 rfl ?_
      refine s_aload_n (pc := 17) (i := 0) dX12_sign_17 rfl rfl ?_
      refine m_gi (pc := 18) dX12_sign_18 ff_X12_108 rfl o_534 ?_
      refine m_nm (v' := nI (sk t N a)) rfl ?_
      refine m_v2 (pc := 21) dX12_sign_21 lk_X12_138 ok_X12_wrong (rcO o_534 (by decide) rfl) rfl rfl (c_X12_wrong hb (kt_v ?_))
      refine s_aload_n (pc := 24) (i := 0) dX12_sign_24 rfl rfl ?_
      refine m_v0 (pc := 25) dX12_sign_25 lk_X12_131 ok_X12_fine (rcO o_534 (by decide) rfl) rfl rfl (c_X12_fine (fun h => kt_s ?_) (fun h => kt_s ?_))
      · refine s_ifeq (pc := 28) (tgt := 41) dX12_sign_28 rfl (fun h28 => absurd h28 (by decide)) (fun h28 => ?_)
        refine s_aload_n (pc := 31) (i := 0) dX12_sign_31 rfl rfl ?_
        refine s_dup (pc := 32) dX12_sign_32 rfl ?_
        refine m_gi (pc := 33) dX12_sign_33 ff_X12_108 rfl o_534 ?_
        refine m_nm (v' := nI (sk t N a)) rfl ?_
        refine m_ic (pc := 36) (v := 1) dX12_sign_36 rfl ?_
        refine s_iadd (pc := 37) dX12_sign_37 ?_
        refine m_nm (v' := nI (sk t N a + 1)) (nI_1 _) ?_
        refine m_pi (pc := 38) dX12_sign_38 ff_X12_108 rfl rfl o_534 ?_
        refine Rs_cg mp_a ?_
        refine s_return (pc := 41) dX12_sign_41 rfl ?_
        first | exact ht e2.1 e2.2 | exact absurd hb h | exact absurd h (nI_m1 (by omega)) | exact hf e2
      · refine s_ifeq (pc := 28) (tgt := 41) dX12_sign_28 rfl (fun h28 => ?_) (fun h28 => absurd h28 (by decide))
        refine s_return (pc := 41) dX12_sign_41 rfl ?_
        first | exact ht e2.1 e2.2 | exact absurd hb h | exact absurd h (nI_m1 (by omega)) | exact hf e2
theorem c_X12_sign_n {c : Int32} (hb : bad ≠ -1) (hq : Q (.inl none) (Z (mp I a bad bk op) J n w)) : Cn g (d + 1) mX12_sign [.ref 534, .int c] (Z (mp I a bad bk op) J n w) Q := by
  show Rn g (d + 1) mX12_sign 0 [.ref 534, .int c] [] [] (Z (mp I a bad bk op) J n w) Q
  refine s_aload_n (pc := 0) (i := 0) dX12_sign_0 rfl rfl ?_
  refine m_v0 (pc := 1) dX12_sign_1 lk_X12_131 ok_X12_fine (rcO o_534 (by decide) rfl) rfl rfl (c_X12_fine (fun h => absurd h hb) (fun h => kt_s ?_))
  · refine s_ifeq (pc := 4) (tgt := 24) dX12_sign_4 rfl (fun h4 => ?_) (fun h4 => absurd h4 (by decide))
    refine s_aload_n (pc := 24) (i := 0) dX12_sign_24 rfl rfl ?_
    refine m_v0 (pc := 25) dX12_sign_25 lk_X12_131 ok_X12_fine (rcO o_534 (by decide) rfl) rfl rfl (c_X12_fine (fun h => absurd h hb) (fun h => kt_s ?_))
    · refine s_ifeq (pc := 28) (tgt := 41) dX12_sign_28 rfl (fun h28 => ?_) (fun h28 => absurd h28 (by decide))
      refine s_return (pc := 41) dX12_sign_41 rfl ?_
      exact hq
end S
