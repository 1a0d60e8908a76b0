section S
variable {g : aG} {d : Nat} {I : Nat → Nat → Int32} {J : Nat → Nat → Int64} {n w : Nat} {Q : aO → aS → Prop}
variable {t : Nat → Nat} {N a wf wt : Nat} {fk fp : Int32} {σ : aS}
def sl (j : Nat) : Nat := (stx.getD j "").length
def sc (j i : Nat) : Nat := ((stx.getD j "").toList.getD i 'a').toNat
theorem sl_b : ∀ j, j < 18 → 1 ≤ sl j ∧ sl j ≤ 7 := by decide +kernel
theorem sc_b : ∀ j, j < 18 → ∀ i, i < sl j → 97 ≤ sc j i ∧ sc j i ≤ 122 := by decide +kernel
theorem and255 : ∀ c, c < 128 → nI c &&& 255 = nI c ∧ ((nI c).toUInt32 % 65536).toInt32 = nI c := by decide +kernel
theorem c_J0_coder_7d493 {j : Nat} (hj : j < 18) (hq : Q (.inl (some (.int 0))) σ) : Cn g (d + 0) mJ0_coder_7d493 [.ref (1000000 + 2 * j)] σ Q := by
  show Rn g (d + 0) mJ0_coder_7d493 0 [.ref (1000000 + 2 * j)] [] [] σ Q
  refine s_compact (pc := 0) dJ0_coder_7d493_0 fl_J0_38 ?_
  refine s_ifeq (pc := 3) (tgt := 13) dJ0_coder_7d493_3 rfl (fun h3 => absurd h3 (by decide)) (fun h3 => ?_)
  refine s_aload_n (pc := 6) (i := 0) dJ0_coder_7d493_6 rfl rfl ?_
  refine s_strC (pc := 7) dJ0_coder_7d493_7 fl_J0_15 (hj) ?_
  refine s_goto (pc := 10) (tgt := 14) dJ0_coder_7d493_10 rfl ?_
  refine s_ireturn (pc := 14) dJ0_coder_7d493_14 rfl rfl ?_
  exact hq
theorem c_J0_isLatin1_aae02 {j : Nat} (hj : j < 18) (hq : Q (.inl (some (.int 1))) σ) : Cn g (d + 0) mJ0_isLatin1_aae02 [.ref (1000000 + 2 * j)] σ Q := by
  show Rn g (d + 0) mJ0_isLatin1_aae02 0 [.ref (1000000 + 2 * j)] [] [] σ Q
  refine s_compact (pc := 0) dJ0_isLatin1_aae02_0 fl_J0_38 ?_
  refine s_ifeq (pc := 3) (tgt := 17) dJ0_isLatin1_aae02_3 rfl (fun h3 => absurd h3 (by decide)) (fun h3 => ?_)
  refine s_aload_n (pc := 6) (i := 0) dJ0_isLatin1_aae02_6 rfl rfl ?_
  refine s_strC (pc := 7) dJ0_isLatin1_aae02_7 fl_J0_15 (hj) ?_
  refine s_ifne (pc := 10) (tgt := 17) dJ0_isLatin1_aae02_10 rfl (fun h10 => absurd h10 (by decide)) (fun h10 => ?_)
  refine m_ic (pc := 13) (v := 1) dJ0_isLatin1_aae02_13 rfl ?_
  refine s_goto (pc := 14) (tgt := 18) dJ0_isLatin1_aae02_14 rfl ?_
  refine s_ireturn (pc := 18) dJ0_isLatin1_aae02_18 rfl rfl ?_
  exact hq
theorem c_J0_length_8abf5 {j : Nat} (hj : j < 18) (hq : Q (.inl (some (.int (nI (sl j))))) σ) : Cn g (d + 1) mJ0_length_8abf5 [.ref (1000000 + 2 * j)] σ Q := by
  show Rn g (d + 1) mJ0_length_8abf5 0 [.ref (1000000 + 2 * j)] [] [] σ Q
  refine s_aload_n (pc := 0) (i := 0) dJ0_length_8abf5_0 rfl rfl ?_
  refine s_strV (pc := 1) dJ0_length_8abf5_1 fl_J0_9 (hj) ?_
  refine s_strL (pc := 4) dJ0_length_8abf5_4 (hj) ?_
  refine s_aload_n (pc := 5) (i := 0) dJ0_length_8abf5_5 rfl rfl ?_
  refine m_v0 (pc := 6) dJ0_length_8abf5_6 lk_J0_335 ok_J0_coder_7d493 (rcS (hj)) rfl rfl (c_J0_coder_7d493 hj (kt_s ?_))
  · refine s_ishr (pc := 9) dJ0_length_8abf5_9 ?_
    refine m_nm (v' := nI (sl j)) (sb_shr0 _) ?_
    refine s_ireturn (pc := 10) dJ0_length_8abf5_10 rfl rfl ?_
    exact hq
theorem c_J3_checkIndex_8e157_n {i L : Int32} (q1 : ¬ i < 0) (q2 : i < L) (hq : Q (.inl (some (.int i))) σ) : Cn g (d + 0) mJ3_checkIndex_8e157 [.int i, .int L, .null] σ Q := by
  show Rn g (d + 0) mJ3_checkIndex_8e157 0 [.int i, .int L, .null] [] [] σ Q
  refine s_iload_n (pc := 0) (i := 0) dJ3_checkIndex_8e157_0 rfl rfl ?_
  refine s_iflt (pc := 1) (tgt := 9) dJ3_checkIndex_8e157_1 rfl (fun h1 => absurd h1 (q1)) (fun h1 => ?_)
  refine s_iload_n (pc := 4) (i := 0) dJ3_checkIndex_8e157_4 rfl rfl ?_
  refine s_iload_n (pc := 5) (i := 1) dJ3_checkIndex_8e157_5 rfl rfl ?_
  refine s_iclt (pc := 6) (tgt := 16) dJ3_checkIndex_8e157_6 rfl (fun h6 => ?_) (fun h6 => absurd (q2) h6)
  refine s_iload_n (pc := 16) (i := 0) dJ3_checkIndex_8e157_16 rfl rfl ?_
  refine s_ireturn (pc := 17) dJ3_checkIndex_8e157_17 rfl rfl ?_
  exact hq
theorem c_J3_checkIndex_8e157_r {i L : Int32} (q1 : ¬ i < 0) (q2 : i < L) (hq : Q (.inl (some (.int i))) σ) : Cn g (d + 0) mJ3_checkIndex_8e157 [.int i, .int L, .ref 1000200] σ Q := by
  show Rn g (d + 0) mJ3_checkIndex_8e157 0 [.int i, .int L, .ref 1000200] [] [] σ Q
  refine s_iload_n (pc := 0) (i := 0) dJ3_checkIndex_8e157_0 rfl rfl ?_
  refine s_iflt (pc := 1) (tgt := 9) dJ3_checkIndex_8e157_1 rfl (fun h1 => absurd h1 (q1)) (fun h1 => ?_)
  refine s_iload_n (pc := 4) (i := 0) dJ3_checkIndex_8e157_4 rfl rfl ?_
  refine s_iload_n (pc := 5) (i := 1) dJ3_checkIndex_8e157_5 rfl rfl ?_
  refine s_iclt (pc := 6) (tgt := 16) dJ3_checkIndex_8e157_6 rfl (fun h6 => ?_) (fun h6 => absurd (q2) h6)
  refine s_iload_n (pc := 16) (i := 0) dJ3_checkIndex_8e157_16 rfl rfl ?_
  refine s_ireturn (pc := 17) dJ3_checkIndex_8e157_17 rfl rfl ?_
  exact hq
theorem c_J0_checkIndex_df160 {i L : Int32} (h1 : ¬ i < 0) (h2 : i < L) (hq : Q (.inl none) σ) : Cn g (d + 1) mJ0_checkIndex_df160 [.int i, .int L] σ Q := by
  show Rn g (d + 1) mJ0_checkIndex_df160 0 [.int i, .int L] [] [] σ Q
  refine s_iload_n (pc := 0) (i := 0) dJ0_checkIndex_df160_0 rfl rfl ?_
  refine s_iload_n (pc := 1) (i := 1) dJ0_checkIndex_df160_1 rfl rfl ?_
  refine s_sioobe (pc := 2) dJ0_checkIndex_df160_2 fl_J0_1053 (fun v hv => ?_)
  rcases hv with rfl | rfl
  · refine m_s3 (pc := 5) dJ0_checkIndex_df160_5 lk_J0_1059 ok_J3_checkIndex_8e157 rfl rfl (c_J3_checkIndex_8e157_n h1 h2 (kt_s ?_))
    refine s_pop (pc := 8) dJ0_checkIndex_df160_8 rfl ?_
    exact s_return (pc := 9) dJ0_checkIndex_df160_9 rfl hq
  · refine m_s3 (pc := 5) dJ0_checkIndex_df160_5 lk_J0_1059 ok_J3_checkIndex_8e157 rfl rfl (c_J3_checkIndex_8e157_r h1 h2 (kt_s ?_))
    refine s_pop (pc := 8) dJ0_checkIndex_df160_8 rfl ?_
    exact s_return (pc := 9) dJ0_checkIndex_df160_9 rfl hq
theorem c_J1_charAt_3b067 {j i : Nat} (hj : j < 18) (hi : i < sl j) (hq : Q (.inl (some (.int (nI (sc j i))))) σ) : Cn g (d + 2) mJ1_charAt_3b067 [.ref (1000000 + 2 * j + 1), .int (nI i)] σ Q := by
  have hb := sl_b j hj
  have hc := sc_b j hj i hi
  show Rn g (d + 2) mJ1_charAt_3b067 0 [.ref (1000000 + 2 * j + 1), .int (nI i)] [] [] σ Q
  refine s_iload_n (pc := 0) (i := 1) dJ1_charAt_3b067_0 rfl rfl ?_
  refine s_aload_n (pc := 1) (i := 0) dJ1_charAt_3b067_1 rfl rfl ?_
  refine s_strL (pc := 2) dJ1_charAt_3b067_2 (hj) ?_
  refine m_s2 (pc := 3) dJ1_charAt_3b067_3 lk_J1_9 ok_J0_checkIndex_df160 rfl rfl (c_J0_checkIndex_df160 (nI_pos (by omega)) (show nI i < nI (sl j) from nI_lt hi (by omega)) (kt_v ?_))
  refine s_aload_n (pc := 6) (i := 0) dJ1_charAt_3b067_6 rfl rfl ?_
  refine s_iload_n (pc := 7) (i := 1) dJ1_charAt_3b067_7 rfl rfl ?_
  refine s_strB (pc := 8) dJ1_charAt_3b067_8 (hj) (vp_in_nI hi (show sl j < 2147483648 by omega)) ?_
  refine m_nm (v' := nI (sc j i)) (by rw [nI_clamp (by omega)]; rfl) ?_
  refine m_si (pc := 9) (v := 255) dJ1_charAt_3b067_9 rfl ?_
  refine s_iand (pc := 12) dJ1_charAt_3b067_12 ?_
  refine m_nm (v' := nI (sc j i)) ((and255 _ (by omega)).1) ?_
  refine s_i2c (pc := 13) dJ1_charAt_3b067_13 ?_
  refine m_nm (v' := nI (sc j i)) ((and255 _ (by omega)).2) ?_
  refine s_ireturn (pc := 14) dJ1_charAt_3b067_14 rfl (pk_charN (by omega)).1 ?_
  exact hq
theorem c_J0_charAt_5068e {j i : Nat} (hj : j < 18) (hi : i < sl j) (hq : Q (.inl (some (.int (nI (sc j i))))) σ) : Cn g (d + 3) mJ0_charAt_5068e [.ref (1000000 + 2 * j), .int (nI i)] σ Q := by
  have hb := sl_b j hj
  have hc := sc_b j hj i hi
  show Rn g (d + 3) mJ0_charAt_5068e 0 [.ref (1000000 + 2 * j), .int (nI i)] [] [] σ Q
  refine s_aload_n (pc := 0) (i := 0) dJ0_charAt_5068e_0 rfl rfl ?_
  refine m_v0 (pc := 1) dJ0_charAt_5068e_1 lk_J0_492 ok_J0_isLatin1_aae02 (rcS (hj)) rfl rfl (c_J0_isLatin1_aae02 hj (kt_s ?_))
  · refine s_ifeq (pc := 4) (tgt := 16) dJ0_charAt_5068e_4 rfl (fun h4 => absurd h4 (by decide)) (fun h4 => ?_)
    refine s_aload_n (pc := 7) (i := 0) dJ0_charAt_5068e_7 rfl rfl ?_
    refine s_strV (pc := 8) dJ0_charAt_5068e_8 fl_J0_9 (hj) ?_
    refine s_iload_n (pc := 11) (i := 1) dJ0_charAt_5068e_11 rfl rfl ?_
    refine m_s2 (pc := 12) dJ0_charAt_5068e_12 lk_J0_495 ok_J1_charAt_3b067 rfl rfl (c_J1_charAt_3b067 hj hi (kt_s ?_))
    refine s_ireturn (pc := 15) dJ0_charAt_5068e_15 rfl (pk_charN (by omega)).1 ?_
    exact hq
/-- the end of the small letters; of the digits -/
def wE (t : Nat → Nat) (N a : Nat) : Nat := rn (fun i => sm (t i)) (N - a) a
def dE (t : Nat → Nat) (N a : Nat) : Nat := rn (fun i => dg (t i)) (N - a) a
theorem wE_le (h : a ≤ N) : wE t N a ≤ N := by have := rn_le (fun i => sm (t i)) (N - a) a; unfold wE; omega
theorem wE_ge : a ≤ wE t N a := rn_ge _ _ _
theorem dE_le (h : a ≤ N) : dE t N a ≤ N := by have := rn_le (fun i => dg (t i)) (N - a) a; unfold dE; omega
theorem dE_ge : a ≤ dE t N a := rn_ge _ _ _
theorem wE_end (h : N ≤ a) : wE t N a = a := by unfold wE; rw [show N - a = 0 by omega]; rfl
theorem wE_one (h : a < N) (e : sm (t a) = true) : wE t N a = wE t N (a + 1) := by unfold wE; rw [show N - a = (N - (a + 1)) + 1 by omega]; exact rn_step (p := fun i => sm (t i)) e
theorem wE_zero (e : sm (t a) = false) : wE t N a = a := rn_stop e
theorem dE_end (h : N ≤ a) : dE t N a = a := by unfold dE; rw [show N - a = 0 by omega]; rfl
theorem dE_one (h : a < N) (e : dg (t a) = true) : dE t N a = dE t N (a + 1) := by unfold dE; rw [show N - a = (N - (a + 1)) + 1 by omega]; exact rn_step (p := fun i => dg (t i)) e
theorem dE_zero (e : dg (t a) = false) : dE t N a = a := rn_stop e
theorem tw_lp (hx : tx I t N) : ∀ f a, a ≤ N → N - a = f → Q (.inl none) (Z (tp I (sk t N (wE t N a)) wf (wE t N a) fk fp) J n w) → Rn g (d + 1) mX10_takeWord 8 [.ref 2] [] [] (Z (tp I a wf wt fk fp) J n w) Q := by
  have hN := hx.1
  intro f
  induction f with
  | zero =>
    intro a ha hf hq
    rw [wE_end (by omega)] at hq
    refine s_aload_n (pc := 8) (i := 0) dX10_takeWord_8 rfl rfl ?_
    refine m_gi (pc := 9) dX10_takeWord_9 ff_X10_25 rfl o_2 ?_
    refine m_nm (v' := nI a) rfl ?_
    refine s_aload_n (pc := 12) (i := 0) dX10_takeWord_12 rfl rfl ?_
    refine m_gi (pc := 13) dX10_takeWord_13 ff_X10_22 rfl o_2 ?_
    refine m_nm (v' := nI N) (tx_N hx) ?_
    refine s_icge (pc := 16) (tgt := 60) dX10_takeWord_16 rfl (fun h16 => ?_) (fun h16 => absurd (nI_le (by omega) (by omega)) h16)
    refine s_aload_n (pc := 60) (i := 0) dX10_takeWord_60 rfl rfl ?_
    refine s_aload_n (pc := 61) (i := 0) dX10_takeWord_61 rfl rfl ?_
    refine m_gi (pc := 62) dX10_takeWord_62 ff_X10_25 rfl o_2 ?_
    refine m_nm (v' := nI a) rfl ?_
    refine m_pi (pc := 65) dX10_takeWord_65 ff_X10_56 rfl rfl o_2 ?_
    refine Rs_cg tp_t ?_
    refine s_aload_n (pc := 68) (i := 0) dX10_takeWord_68 rfl rfl ?_
    refine m_v0 (pc := 69) dX10_takeWord_69 lk_X10_31 ok_X10_skipBlanks (rcO o_2 (by decide) rfl) rfl rfl (c_X10_skipBlanks hx (by omega) (kt_v ?_))
    refine s_return (pc := 72) dX10_takeWord_72 rfl ?_
    exact hq
  | succ f ih =>
    intro a ha hf hq
    have hc := tx_c hx (i := a) (by omega)
    refine s_aload_n (pc := 8) (i := 0) dX10_takeWord_8 rfl rfl ?_
    refine m_gi (pc := 9) dX10_takeWord_9 ff_X10_25 rfl o_2 ?_
    refine m_nm (v' := nI a) rfl ?_
    refine s_aload_n (pc := 12) (i := 0) dX10_takeWord_12 rfl rfl ?_
    refine m_gi (pc := 13) dX10_takeWord_13 ff_X10_22 rfl o_2 ?_
    refine m_nm (v' := nI N) (tx_N hx) ?_
    refine s_icge (pc := 16) (tgt := 60) dX10_takeWord_16 rfl (fun h16 => absurd h16 (nI_ge (by omega) (by omega))) (fun h16 => ?_)
    refine s_aload_n (pc := 19) (i := 0) dX10_takeWord_19 rfl rfl ?_
    refine m_gr (pc := 20) dX10_takeWord_20 ff_X10_9 rfl o_2 r_2_0 ?_
    refine s_aload_n (pc := 23) (i := 0) dX10_takeWord_23 rfl rfl ?_
    refine m_gi (pc := 24) dX10_takeWord_24 ff_X10_25 rfl o_2 ?_
    refine m_nm (v' := nI a) rfl ?_
    refine m_ba (pc := 27) dX10_takeWord_27 a_3 (vp_in_nI (n := a) (by omega) (by decide)) ?_
    refine m_nm (v' := sb_b (t (a))) (tx_r hx (by omega)) ?_
    refine m_bi (pc := 28) (v := 97) dX10_takeWord_28 rfl ?_
    refine s_iclt (pc := 30) (tgt := 60) dX10_takeWord_30 rfl (fun h30 => ?_) (fun h30 => ?_)
    · rw [wE_zero (Bool.eq_false_iff.mpr (fun e => ((sm_1 _ hc).mpr e).1 h30))] at hq
      refine s_aload_n (pc := 60) (i := 0) dX10_takeWord_60 rfl rfl ?_
      refine s_aload_n (pc := 61) (i := 0) dX10_takeWord_61 rfl rfl ?_
      refine m_gi (pc := 62) dX10_takeWord_62 ff_X10_25 rfl o_2 ?_
      refine m_nm (v' := nI a) rfl ?_
      refine m_pi (pc := 65) dX10_takeWord_65 ff_X10_56 rfl rfl o_2 ?_
      refine Rs_cg tp_t ?_
      refine s_aload_n (pc := 68) (i := 0) dX10_takeWord_68 rfl rfl ?_
      refine m_v0 (pc := 69) dX10_takeWord_69 lk_X10_31 ok_X10_skipBlanks (rcO o_2 (by decide) rfl) rfl rfl (c_X10_skipBlanks hx (by omega) (kt_v ?_))
      refine s_return (pc := 72) dX10_takeWord_72 rfl ?_
      exact hq
    · refine s_aload_n (pc := 33) (i := 0) dX10_takeWord_33 rfl rfl ?_
      refine m_gr (pc := 34) dX10_takeWord_34 ff_X10_9 rfl o_2 r_2_0 ?_
      refine s_aload_n (pc := 37) (i := 0) dX10_takeWord_37 rfl rfl ?_
      refine m_gi (pc := 38) dX10_takeWord_38 ff_X10_25 rfl o_2 ?_
      refine m_nm (v' := nI a) rfl ?_
      refine m_ba (pc := 41) dX10_takeWord_41 a_3 (vp_in_nI (n := a) (by omega) (by decide)) ?_
      refine m_nm (v' := sb_b (t (a))) (tx_r hx (by omega)) ?_
      refine m_bi (pc := 42) (v := 122) dX10_takeWord_42 rfl ?_
      refine s_icgt (pc := 44) (tgt := 60) dX10_takeWord_44 rfl (fun h44 => ?_) (fun h44 => ?_)
      · rw [wE_zero (Bool.eq_false_iff.mpr (fun e => ((sm_1 _ hc).mpr e).2 h44))] at hq
        refine s_aload_n (pc := 60) (i := 0) dX10_takeWord_60 rfl rfl ?_
        refine s_aload_n (pc := 61) (i := 0) dX10_takeWord_61 rfl rfl ?_
        refine m_gi (pc := 62) dX10_takeWord_62 ff_X10_25 rfl o_2 ?_
        refine m_nm (v' := nI a) rfl ?_
        refine m_pi (pc := 65) dX10_takeWord_65 ff_X10_56 rfl rfl o_2 ?_
        refine Rs_cg tp_t ?_
        refine s_aload_n (pc := 68) (i := 0) dX10_takeWord_68 rfl rfl ?_
        refine m_v0 (pc := 69) dX10_takeWord_69 lk_X10_31 ok_X10_skipBlanks (rcO o_2 (by decide) rfl) rfl rfl (c_X10_skipBlanks hx (by omega) (kt_v ?_))
        refine s_return (pc := 72) dX10_takeWord_72 rfl ?_
        exact hq
      · rw [wE_one (by omega) ((sm_1 _ hc).mp ⟨h30, h44⟩)] at hq
        refine s_aload_n (pc := 47) (i := 0) dX10_takeWord_47 rfl rfl ?_
        refine s_dup (pc := 48) dX10_takeWord_48 rfl ?_
        refine m_gi (pc := 49) dX10_takeWord_49 ff_X10_25 rfl o_2 ?_
        refine m_nm (v' := nI a) rfl ?_
        refine m_ic (pc := 52) (v := 1) dX10_takeWord_52 rfl ?_
        refine s_iadd (pc := 53) dX10_takeWord_53 ?_
        refine m_nm (v' := nI (a + 1)) (nI_1 a) ?_
        refine m_pi (pc := 54) dX10_takeWord_54 ff_X10_25 rfl rfl o_2 ?_
        refine Rs_cg tp_a ?_
        refine s_goto (pc := 57) (tgt := 8) dX10_takeWord_57 rfl ?_
        exact ih (a + 1) (by omega) (by omega) hq
theorem c_X10_takeWord (hx : tx I t N) (ha : a ≤ N) (hq : Q (.inl none) (Z (tp I (sk t N (wE t N a)) a (wE t N a) fk fp) J n w)) : Cn g (d + 1) mX10_takeWord [.ref 2] (Z (tp I a wf wt fk fp) J n w) Q := by
  have hN := hx.1
  show Rn g (d + 1) mX10_takeWord 0 [.ref 2] [] [] (Z (tp I a wf wt fk fp) J n w) Q
  refine s_aload_n (pc := 0) (i := 0) dX10_takeWord_0 rfl rfl ?_
  refine s_aload_n (pc := 1) (i := 0) dX10_takeWord_1 rfl rfl ?_
  refine m_gi (pc := 2) dX10_takeWord_2 ff_X10_25 rfl o_2 ?_
  refine m_nm (v' := nI a) rfl ?_
  refine m_pi (pc := 5) dX10_takeWord_5 ff_X10_53 rfl rfl o_2 ?_
  refine Rs_cg tp_f ?_
  exact tw_lp hx (N - a) a ha rfl hq
/-- the word between two places is text j -/
def wm (t : Nat → Nat) (wf wt j : Nat) : Prop := wt - wf = sl j ∧ ∀ i, i < sl j → t (wf + i) = sc j i
theorem iw_lp (hx : tx I t N) {j : Nat} (hj : j < 18) (h1 : wf ≤ wt) (h2 : wt ≤ N) (h3 : wt - wf = sl j) (ht : wm t wf wt j → Q (.inl (some (.int 1))) (Z (tp I a wf wt fk fp) J n w)) (hf : ¬ wm t wf wt j → Q (.inl (some (.int 0))) (Z (tp I a wf wt fk fp) J n w)) :
    ∀ f i, i ≤ sl j → sl j - i = f → (∀ k, k < i → t (wf + k) = sc j k) → Rn g (d + 4) mX10_isWord 20 [.ref 2, .ref (1000000 + 2 * j), .int (nI i)] [] [] (Z (tp I a wf wt fk fp) J n w) Q := by
  have hN := hx.1
  have hb := sl_b j hj
  intro f
  induction f with
  | zero =>
    intro i hi hfi hk
    have hi2 : i = sl j := by omega
    refine s_iload_n (pc := 20) (i := 2) dX10_isWord_20 rfl rfl ?_
    refine s_aload_n (pc := 21) (i := 1) dX10_isWord_21 rfl rfl ?_
    refine m_v0 (pc := 22) dX10_isWord_22 lk_X10_59 ok_J0_length_8abf5 (rcS (hj)) rfl rfl (c_J0_length_8abf5 hj (kt_s ?_))
    refine s_icge (pc := 25) (tgt := 55) dX10_isWord_25 rfl (fun h25 => ?_) (fun h25 => absurd (nI_le (by omega) (by omega)) h25)
    refine m_ic (pc := 55) (v := 1) dX10_isWord_55 rfl ?_
    refine s_ireturn (pc := 56) dX10_isWord_56 rfl rfl ?_
    exact ht ⟨h3, fun k hk2 => hk k (by omega)⟩
  | succ f ih =>
    intro i hi hfi hk
    have hc := sc_b j hj i (by omega)
    have hb2 := tx_c hx (i := wf + i) (by omega)
    refine s_iload_n (pc := 20) (i := 2) dX10_isWord_20 rfl rfl ?_
    refine s_aload_n (pc := 21) (i := 1) dX10_isWord_21 rfl rfl ?_
    refine m_v0 (pc := 22) dX10_isWord_22 lk_X10_59 ok_J0_length_8abf5 (rcS (hj)) rfl rfl (c_J0_length_8abf5 hj (kt_s ?_))
    refine s_icge (pc := 25) (tgt := 55) dX10_isWord_25 rfl (fun h25 => absurd h25 (nI_ge (by omega) (by omega))) (fun h25 => ?_)
    refine s_aload_n (pc := 28) (i := 0) dX10_isWord_28 rfl rfl ?_
    refine m_gr (pc := 29) dX10_isWord_29 ff_X10_9 rfl o_2 r_2_0 ?_
    refine s_aload_n (pc := 32) (i := 0) dX10_isWord_32 rfl rfl ?_
    refine m_gi (pc := 33) dX10_isWord_33 ff_X10_53 rfl o_2 ?_
    refine m_nm (v' := nI wf) rfl ?_
    refine s_iload_n (pc := 36) (i := 2) dX10_isWord_36 rfl rfl ?_
    refine s_iadd (pc := 37) dX10_isWord_37 ?_
    refine m_nm (v' := nI (wf + i)) (nI_add _ _) ?_
    refine m_ba (pc := 38) dX10_isWord_38 a_3 (vp_in_nI (n := wf + i) (by omega) (by decide)) ?_
    refine m_nm (v' := sb_b (t (wf + i))) (tx_r hx (by omega)) ?_
    refine s_aload_n (pc := 39) (i := 1) dX10_isWord_39 rfl rfl ?_
    refine s_iload_n (pc := 40) (i := 2) dX10_isWord_40 rfl rfl ?_
    refine m_v1 (pc := 41) dX10_isWord_41 lk_X10_65 ok_J0_charAt_5068e (rcS (hj)) rfl rfl (c_J0_charAt_5068e hj (by omega) (kt_s ?_))
    refine s_iceq (pc := 44) (tgt := 49) dX10_isWord_44 rfl (fun h44 => ?_) (fun h44 => ?_)
    · have e : t (wf + i) = sc j i := (sb_eq _ (by omega) _ hb2).mp h44
      refine m_inc (pc := 49) (v := 1) dX10_isWord_49 rfl rfl ?_
      dsimp only [List.set, List.filter]
      rw [nI_1]
      refine s_goto (pc := 52) (tgt := 20) dX10_isWord_52 rfl ?_
      exact ih (i + 1) (by omega) (by omega) (fun k hk2 => by
        by_cases e2 : k = i
        · subst e2; exact e
        · exact hk k (by omega))
    · refine m_ic (pc := 47) (v := 0) dX10_isWord_47 rfl ?_
      refine s_ireturn (pc := 48) dX10_isWord_48 rfl rfl ?_
      exact hf (fun hw => h44 ((sb_eq _ (by omega) _ hb2).mpr (hw.2 i (by omega))))
theorem c_X10_isWord {j : Nat} (hx : tx I t N) (hj : j < 18) (h1 : wf ≤ wt) (h2 : wt ≤ N) (ht : wm t wf wt j → Q (.inl (some (.int 1))) (Z (tp I a wf wt fk fp) J n w)) (hf : ¬ wm t wf wt j → Q (.inl (some (.int 0))) (Z (tp I a wf wt fk fp) J n w)) : Cn g (d + 4) mX10_isWord [.ref 2, .ref (1000000 + 2 * j)] (Z (tp I a wf wt fk fp) J n w) Q := by
  have hN := hx.1
  have hb := sl_b j hj
  show Rn g (d + 4) mX10_isWord 0 [.ref 2, .ref (1000000 + 2 * j), .retAddr 0] [] [] (Z (tp I a wf wt fk fp) J n w) Q
  refine s_aload_n (pc := 0) (i := 0) dX10_isWord_0 rfl rfl ?_
  refine m_gi (pc := 1) dX10_isWord_1 ff_X10_56 rfl o_2 ?_
  refine m_nm (v' := nI wt) rfl ?_
  refine s_aload_n (pc := 4) (i := 0) dX10_isWord_4 rfl rfl ?_
  refine m_gi (pc := 5) dX10_isWord_5 ff_X10_53 rfl o_2 ?_
  refine m_nm (v' := nI wf) rfl ?_
  refine s_isub (pc := 8) dX10_isWord_8 ?_
  refine m_nm (v' := nI (wt - wf)) (pk_sub h1) ?_
  refine s_aload_n (pc := 9) (i := 1) dX10_isWord_9 rfl rfl ?_
  refine m_v0 (pc := 10) dX10_isWord_10 lk_X10_59 ok_J0_length_8abf5 (rcS (hj)) rfl rfl (c_J0_length_8abf5 hj (kt_s ?_))
  refine s_iceq (pc := 13) (tgt := 18) dX10_isWord_13 rfl (fun h13 => ?_) (fun h13 => ?_)
  · have h3 : wt - wf = sl j := (nI_eq (by omega) (by omega)).mp h13
    refine m_ic (pc := 18) (v := 0) dX10_isWord_18 rfl ?_
    refine s_istore_n (pc := 19) (i := 2) dX10_isWord_19 rfl (Nat.le_of_ble_eq_true rfl) ?_
    dsimp only [List.set, List.filter]
    exact iw_lp hx hj h1 h2 h3 ht hf (sl j) 0 (by omega) (by omega) (fun k hk => by omega)
  · refine m_ic (pc := 16) (v := 0) dX10_isWord_16 rfl ?_
    refine s_ireturn (pc := 17) dX10_isWord_17 rfl rfl ?_
    exact hf (fun hw => h13 (by rw [hw.1]))
/-- the number that k digits from place p on tell -/
def dv (t : Nat → Nat) (p : Nat) : Nat → Nat
  | 0 => 0
  | k + 1 => 10 * dv t p k + (t (p + k) - 48)
def cap (v : Nat) : Nat := if v < 99999 then v else 99999
theorem cap_le (v : Nat) : cap v ≤ 99999 := by unfold cap; split <;> omega
theorem cap_step (v e : Nat) (h : e ≤ 9) : cap (10 * cap v + e) = cap (10 * v + e) := by
  unfold cap; (repeat' split) <;> omega
theorem cap_lt {v m : Nat} (h : m ≤ 99999) : cap v < m ↔ v < m := by unfold cap; split <;> omega
theorem dig_i : ∀ c, c < 256 → dg c = true → sb_b c = nI c ∧ 48 ≤ c ∧ c ≤ 57 := by decide +kernel
theorem num_i {v c : Nat} (h : 48 ≤ c) : (10 : Int32) * nI v + nI c - 48 = nI (10 * v + (c - 48)) := by
  rw [show (10 : Int32) = nI 10 from rfl, show (48 : Int32) = nI 48 from rfl, pk_mul, nI_add, pk_sub (by omega)]
  congr 1; omega
theorem min_i {v : Nat} (h : v < 2 ^ 31) : (if nI v < (99999 : Int32) then nI v else 99999) = nI (cap v) := by
  rw [show (99999 : Int32) = nI 99999 from rfl]
  unfold cap
  by_cases hv : v < 99999
  · rw [if_pos (nI_lt hv (by omega)), if_pos hv]
  · rw [if_neg (nI_nlt (by omega) h), if_neg hv]
theorem nn_lp (hx : tx I t N) {lo hi : Int32} {a0 : Nat} {v5 : Value} : ∀ f a, a ≤ N → N - a = f → a0 ≤ a → Rn g (d + 1) mX10_needNumber 64 [.ref 2, .int lo, .int hi, .int (nI a0), .int (nI (cap (dv t a0 (dE t N a - a0)))), v5] [] [] (Z (tp I (dE t N a) wf wt fk fp) J n w) Q →
    Rn g (d + 1) mX10_needNumber 8 [.ref 2, .int lo, .int hi, .int (nI a0), .int (nI (cap (dv t a0 (a - a0)))), v5] [] [] (Z (tp I a wf wt fk fp) J n w) Q := by
  have hN := hx.1
  intro f
  induction f with
  | zero =>
    intro a ha hf h0 kk
    rw [dE_end (by omega)] at kk
    refine s_aload_n (pc := 8) (i := 0) dX10_needNumber_8 rfl rfl ?_
    refine m_gi (pc := 9) dX10_needNumber_9 ff_X10_25 rfl o_2 ?_
    refine m_nm (v' := nI a) rfl ?_
    refine s_aload_n (pc := 12) (i := 0) dX10_needNumber_12 rfl rfl ?_
    refine m_gi (pc := 13) dX10_needNumber_13 ff_X10_22 rfl o_2 ?_
    refine m_nm (v' := nI N) (tx_N hx) ?_
    refine s_icge (pc := 16) (tgt := 64) dX10_needNumber_16 rfl (fun h16 => ?_) (fun h16 => absurd (nI_le (by omega) (by omega)) h16)
    exact kk
  | succ f ih =>
    intro a ha hf h0 kk
    refine s_aload_n (pc := 8) (i := 0) dX10_needNumber_8 rfl rfl ?_
    refine m_gi (pc := 9) dX10_needNumber_9 ff_X10_25 rfl o_2 ?_
    refine m_nm (v' := nI a) rfl ?_
    refine s_aload_n (pc := 12) (i := 0) dX10_needNumber_12 rfl rfl ?_
    refine m_gi (pc := 13) dX10_needNumber_13 ff_X10_22 rfl o_2 ?_
    refine m_nm (v' := nI N) (tx_N hx) ?_
    refine s_icge (pc := 16) (tgt := 64) dX10_needNumber_16 rfl (fun h16 => absurd h16 (nI_ge (by omega) (by omega))) (fun h16 => ?_)
    refine s_aload_n (pc := 19) (i := 0) dX10_needNumber_19 rfl rfl ?_
    refine m_v0 (pc := 20) dX10_needNumber_20 lk_X10_42 ok_X10_isAtDigit (rcO o_2 (by decide) rfl) rfl rfl (c_X10_isAtDigit hx ha (fun h1 h2 => kt_s ?_) (fun h1 => kt_s ?_))
    · obtain ⟨q1, q2, q3⟩ := dig_i _ (tx_c hx h1) h2
      rw [dE_one (by omega) h2] at kk
      refine s_ifeq (pc := 23) (tgt := 64) dX10_needNumber_23 rfl (fun h23 => absurd h23 (by decide)) (fun h23 => ?_)
      refine s_ldc (pc := 26) dX10_needNumber_26 ct_X10_46 ?_
      refine m_bi (pc := 28) (v := 10) dX10_needNumber_28 rfl ?_
      refine s_iload (pc := 30) (i := 4) dX10_needNumber_30 rfl ?_
      refine s_imul (pc := 32) dX10_needNumber_32 ?_
      refine s_aload_n (pc := 33) (i := 0) dX10_needNumber_33 rfl rfl ?_
      refine m_gr (pc := 34) dX10_needNumber_34 ff_X10_9 rfl o_2 r_2_0 ?_
      refine s_aload_n (pc := 37) (i := 0) dX10_needNumber_37 rfl rfl ?_
      refine m_gi (pc := 38) dX10_needNumber_38 ff_X10_25 rfl o_2 ?_
      refine m_nm (v' := nI a) rfl ?_
      refine m_ba (pc := 41) dX10_needNumber_41 a_3 (vp_in_nI (n := a) (by omega) (by decide)) ?_
      refine m_nm (v' := sb_b (t (a))) (tx_r hx (by omega)) ?_
      refine m_nm (v' := nI (t a)) (q1) ?_
      refine s_iadd (pc := 42) dX10_needNumber_42 ?_
      refine m_bi (pc := 43) (v := 48) dX10_needNumber_43 rfl ?_
      refine s_isub (pc := 45) dX10_needNumber_45 ?_
      refine m_nm (v' := nI (10 * cap (dv t a0 (a - a0)) + (t a - 48))) (num_i q2) ?_
      refine m_min (pc := 46) dX10_needNumber_46 ml_X10_47 (Nat.le_of_ble_eq_true rfl) ?_
      refine m_nm (v' := nI (cap (dv t a0 (a + 1 - a0)))) (by have hcp := cap_le (dv t a0 (a - a0)); rw [min_i (by omega), cap_step _ _ (by omega), show a + 1 - a0 = (a - a0) + 1 by omega, dv, show a0 + (a - a0) = a by omega]) ?_
      refine s_istore (pc := 49) (i := 4) dX10_needNumber_49 (Nat.le_of_ble_eq_true rfl) ?_
      dsimp only [List.set, List.filter]
      refine s_aload_n (pc := 51) (i := 0) dX10_needNumber_51 rfl rfl ?_
      refine s_dup (pc := 52) dX10_needNumber_52 rfl ?_
      refine m_gi (pc := 53) dX10_needNumber_53 ff_X10_25 rfl o_2 ?_
      refine m_nm (v' := nI a) rfl ?_
      refine m_ic (pc := 56) (v := 1) dX10_needNumber_56 rfl ?_
      refine s_iadd (pc := 57) dX10_needNumber_57 ?_
      refine m_nm (v' := nI (a + 1)) (nI_1 a) ?_
      refine m_pi (pc := 58) dX10_needNumber_58 ff_X10_25 rfl rfl o_2 ?_
      refine Rs_cg tp_a ?_
      refine s_goto (pc := 61) (tgt := 8) dX10_needNumber_61 rfl ?_
      exact ih (a + 1) (by omega) (by omega) (by omega) kk
    · have e : dE t N a = a := dE_zero (h1.resolve_left (by omega))
      rw [e] at kk
      refine s_ifeq (pc := 23) (tgt := 64) dX10_needNumber_23 rfl (fun h23 => ?_) (fun h23 => absurd h23 (by decide))
      exact kk
theorem nn_end {lo hi : Int32} {lo1 hi1 : Nat} (hx : tx I t N) (ha : a ≤ N) (hlo : ∀ v, v ≤ 99999 → (nI v < lo ↔ v < lo1)) (hhi : ∀ v, v ≤ 99999 → (nI v ≤ hi ↔ v < hi1)) (hm : lo1 ≤ 99999 ∧ hi1 ≤ 99999)
    (h1 : (a = N ∨ dg (t a) = false) → Q (.inl (some (.int (-1)))) (Z (tp I a wf wt 1 (nI a)) J n w)) (h2 : a < N → dg (t a) = true → (dv t a (dE t N a - a) < lo1 ∨ hi1 ≤ dv t a (dE t N a - a)) → Q (.inl (some (.int (-1)))) (Z (tp I (dE t N a) wf wt 2 (nI a)) J n w))
    (h3 : a < N → dg (t a) = true → lo1 ≤ dv t a (dE t N a - a) → dv t a (dE t N a - a) < hi1 → Q (.inl (some (.int (nI (dv t a (dE t N a - a)))))) (Z (tp I (sk t N (dE t N a)) wf wt fk fp) J n w)) {v5 : Value} : Rn g (d + 1) mX10_needNumber 64 [.ref 2, .int lo, .int hi, .int (nI a), .int (nI (cap (dv t a (dE t N a - a)))), v5] [] [] (Z (tp I (dE t N a) wf wt fk fp) J n w) Q := by
  have hN := hx.1
  have hdl := dE_le (t := t) ha
  have hdg := dE_ge (t := t) (N := N) (a := a)
  have hcp := cap_le (dv t a (dE t N a - a))
  refine s_aload_n (pc := 64) (i := 0) dX10_needNumber_64 rfl rfl ?_
  refine m_gi (pc := 65) dX10_needNumber_65 ff_X10_25 rfl o_2 ?_
  refine m_nm (v' := nI (dE t N a)) rfl ?_
  refine s_iload_n (pc := 68) (i := 3) dX10_needNumber_68 rfl rfl ?_
  refine s_icle (pc := 69) (tgt := 76) dX10_needNumber_69 rfl (fun h69 => ?_) (fun h69 => ?_)
  · have e := (nI_leI (by omega) (by omega)).mp h69
    have hz : a = N ∨ dg (t a) = false := by
      by_cases q : a = N
      · exact Or.inl q
      · refine Or.inr ?_
        have := rn_no (fun i => dg (t i)) (N - a) a (by unfold dE at e; omega)
        rw [show rn (fun i => dg (t i)) (N - a) a = a by unfold dE at e hdg; omega] at this
        exact this
    have e2 : dE t N a = a := by omega
    rw [e2]
    refine m_ic (pc := 76) (v := 0) dX10_needNumber_76 rfl ?_
    refine s_istore (pc := 77) (i := 5) dX10_needNumber_77 (Nat.le_of_ble_eq_true rfl) ?_
    dsimp only [List.set, List.filter]
    refine s_iload (pc := 79) (i := 5) dX10_needNumber_79 rfl ?_
    refine s_ifeq (pc := 81) (tgt := 96) dX10_needNumber_81 rfl (fun h81 => ?_) (fun h81 => absurd h81 (by decide))
    refine s_aload_n (pc := 96) (i := 0) dX10_needNumber_96 rfl rfl ?_
    refine s_iload (pc := 97) (i := 5) dX10_needNumber_97 rfl ?_
    refine s_ifeq (pc := 99) (tgt := 106) dX10_needNumber_99 rfl (fun h99 => ?_) (fun h99 => absurd h99 (by decide))
    refine m_ic (pc := 106) (v := 1) dX10_needNumber_106 rfl ?_
    refine s_iload_n (pc := 107) (i := 3) dX10_needNumber_107 rfl rfl ?_
    refine m_v2 (pc := 108) dX10_needNumber_108 lk_X10_38 ok_X10_fail (rcO o_2 (by decide) rfl) rfl rfl (c_X10_fail (kt_s ?_))
    refine s_pop (pc := 111) dX10_needNumber_111 rfl ?_
    refine m_ic (pc := 112) (v := -1) dX10_needNumber_112 rfl ?_
    refine s_ireturn (pc := 113) dX10_needNumber_113 rfl rfl ?_
    first | exact h1 hz | exact h2 (by omega) hz (Or.inl ((cap_lt hm.1).mp ((hlo _ hcp).mp h87))) | exact h2 (by omega) hz (Or.inr (Nat.not_lt.mp (fun q => h93 ((hhi _ hcp).mpr ((cap_lt hm.2).mpr q)))))
  · have e : a < dE t N a := by have := mt (nI_leI (a := dE t N a) (b := a) (by omega) (by omega)).mpr h69; omega
    have hz : dg (t a) = true := rn_yes (fun i => dg (t i)) (N - a) a a (Nat.le_refl _) e
    refine m_ic (pc := 72) (v := 1) dX10_needNumber_72 rfl ?_
    refine s_goto (pc := 73) (tgt := 77) dX10_needNumber_73 rfl ?_
    refine s_istore (pc := 77) (i := 5) dX10_needNumber_77 (Nat.le_of_ble_eq_true rfl) ?_
    dsimp only [List.set, List.filter]
    refine s_iload (pc := 79) (i := 5) dX10_needNumber_79 rfl ?_
    refine s_ifeq (pc := 81) (tgt := 96) dX10_needNumber_81 rfl (fun h81 => absurd h81 (by decide)) (fun h81 => ?_)
    refine s_iload (pc := 84) (i := 4) dX10_needNumber_84 rfl ?_
    refine s_iload_n (pc := 86) (i := 1) dX10_needNumber_86 rfl rfl ?_
    refine s_iclt (pc := 87) (tgt := 96) dX10_needNumber_87 rfl (fun h87 => ?_) (fun h87 => ?_)
    · refine s_aload_n (pc := 96) (i := 0) dX10_needNumber_96 rfl rfl ?_
      refine s_iload (pc := 97) (i := 5) dX10_needNumber_97 rfl ?_
      refine s_ifeq (pc := 99) (tgt := 106) dX10_needNumber_99 rfl (fun h99 => absurd h99 (by decide)) (fun h99 => ?_)
      refine m_ic (pc := 102) (v := 2) dX10_needNumber_102 rfl ?_
      refine s_goto (pc := 103) (tgt := 107) dX10_needNumber_103 rfl ?_
      refine s_iload_n (pc := 107) (i := 3) dX10_needNumber_107 rfl rfl ?_
      refine m_v2 (pc := 108) dX10_needNumber_108 lk_X10_38 ok_X10_fail (rcO o_2 (by decide) rfl) rfl rfl (c_X10_fail (kt_s ?_))
      refine s_pop (pc := 111) dX10_needNumber_111 rfl ?_
      refine m_ic (pc := 112) (v := -1) dX10_needNumber_112 rfl ?_
      refine s_ireturn (pc := 113) dX10_needNumber_113 rfl rfl ?_
      first | exact h1 hz | exact h2 (by omega) hz (Or.inl ((cap_lt hm.1).mp ((hlo _ hcp).mp h87))) | exact h2 (by omega) hz (Or.inr (Nat.not_lt.mp (fun q => h93 ((hhi _ hcp).mpr ((cap_lt hm.2).mpr q)))))
    · refine s_iload (pc := 90) (i := 4) dX10_needNumber_90 rfl ?_
      refine s_iload_n (pc := 92) (i := 2) dX10_needNumber_92 rfl rfl ?_
      refine s_icle (pc := 93) (tgt := 114) dX10_needNumber_93 rfl (fun h93 => ?_) (fun h93 => ?_)
      · refine s_aload_n (pc := 114) (i := 0) dX10_needNumber_114 rfl rfl ?_
        refine m_v0 (pc := 115) dX10_needNumber_115 lk_X10_31 ok_X10_skipBlanks (rcO o_2 (by decide) rfl) rfl rfl (c_X10_skipBlanks hx hdl (kt_v ?_))
        refine s_iload (pc := 118) (i := 4) dX10_needNumber_118 rfl ?_
        refine s_ireturn (pc := 120) dX10_needNumber_120 rfl rfl ?_
        have q1 := (cap_lt hm.2).mp ((hhi _ hcp).mp h93)
        have q2 := mt (cap_lt (v := dv t a (dE t N a - a)) hm.1).mpr (mt (hlo _ hcp).mpr h87)
        rw [show cap (dv t a (dE t N a - a)) = dv t a (dE t N a - a) by unfold cap; rw [if_pos (by omega)]]
        exact h3 (by omega) hz (by omega) q1
      · refine s_aload_n (pc := 96) (i := 0) dX10_needNumber_96 rfl rfl ?_
        refine s_iload (pc := 97) (i := 5) dX10_needNumber_97 rfl ?_
        refine s_ifeq (pc := 99) (tgt := 106) dX10_needNumber_99 rfl (fun h99 => absurd h99 (by decide)) (fun h99 => ?_)
        refine m_ic (pc := 102) (v := 2) dX10_needNumber_102 rfl ?_
        refine s_goto (pc := 103) (tgt := 107) dX10_needNumber_103 rfl ?_
        refine s_iload_n (pc := 107) (i := 3) dX10_needNumber_107 rfl rfl ?_
        refine m_v2 (pc := 108) dX10_needNumber_108 lk_X10_38 ok_X10_fail (rcO o_2 (by decide) rfl) rfl rfl (c_X10_fail (kt_s ?_))
        refine s_pop (pc := 111) dX10_needNumber_111 rfl ?_
        refine m_ic (pc := 112) (v := -1) dX10_needNumber_112 rfl ?_
        refine s_ireturn (pc := 113) dX10_needNumber_113 rfl rfl ?_
        first | exact h1 hz | exact h2 (by omega) hz (Or.inl ((cap_lt hm.1).mp ((hlo _ hcp).mp h87))) | exact h2 (by omega) hz (Or.inr (Nat.not_lt.mp (fun q => h93 ((hhi _ hcp).mpr ((cap_lt hm.2).mpr q)))))
theorem c_X10_needNumber {lo hi : Int32} {lo1 hi1 : Nat} (hx : tx I t N) (ha : a ≤ N) (hlo : ∀ v, v ≤ 99999 → (nI v < lo ↔ v < lo1)) (hhi : ∀ v, v ≤ 99999 → (nI v ≤ hi ↔ v < hi1)) (hm : lo1 ≤ 99999 ∧ hi1 ≤ 99999)
    (h1 : (a = N ∨ dg (t a) = false) → Q (.inl (some (.int (-1)))) (Z (tp I a wf wt 1 (nI a)) J n w)) (h2 : a < N → dg (t a) = true → (dv t a (dE t N a - a) < lo1 ∨ hi1 ≤ dv t a (dE t N a - a)) → Q (.inl (some (.int (-1)))) (Z (tp I (dE t N a) wf wt 2 (nI a)) J n w))
    (h3 : a < N → dg (t a) = true → lo1 ≤ dv t a (dE t N a - a) → dv t a (dE t N a - a) < hi1 → Q (.inl (some (.int (nI (dv t a (dE t N a - a)))))) (Z (tp I (sk t N (dE t N a)) wf wt fk fp) J n w)) : Cn g (d + 1) mX10_needNumber [.ref 2, .int lo, .int hi] (Z (tp I a wf wt fk fp) J n w) Q := by
  have hN := hx.1
  show Rn g (d + 1) mX10_needNumber 0 [.ref 2, .int lo, .int hi, .retAddr 0, .retAddr 0, .retAddr 0] [] [] (Z (tp I a wf wt fk fp) J n w) Q
  refine s_aload_n (pc := 0) (i := 0) dX10_needNumber_0 rfl rfl ?_
  refine m_gi (pc := 1) dX10_needNumber_1 ff_X10_25 rfl o_2 ?_
  refine m_nm (v' := nI a) rfl ?_
  refine s_istore_n (pc := 4) (i := 3) dX10_needNumber_4 rfl (Nat.le_of_ble_eq_true rfl) ?_
  dsimp only [List.set, List.filter]
  refine m_ic (pc := 5) (v := 0) dX10_needNumber_5 rfl ?_
  refine s_istore (pc := 6) (i := 4) dX10_needNumber_6 (Nat.le_of_ble_eq_true rfl) ?_
  dsimp only [List.set, List.filter]
  have e0 : (0 : Int32) = nI (cap (dv t a (a - a))) := by rw [Nat.sub_self]; rfl
  rw [e0]
  exact nn_lp hx (N - a) a ha rfl (Nat.le_refl _) (nn_end hx ha hlo hhi hm h1 h2 h3)
end S
