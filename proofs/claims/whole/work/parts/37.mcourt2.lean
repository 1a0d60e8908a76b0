section S
variable {g : aG} {d : Nat} {I : Nat → Nat → Int32} {J : Nat → Nat → Int64} {n w : Nat} {Q : aO → aS → Prop}
variable {t : Nat → Nat} {N a : Nat} {bk op : Int32} {σ : aS}
theorem c_X12_within {x lo hi : Int32} (ht : lo ≤ x → x ≤ hi → Q (.inl (some (.int 1))) σ) (hf : ¬ (lo ≤ x ∧ x ≤ hi) → Q (.inl (some (.int 0))) σ) : Cn g (d + 0) mX12_within [.int x, .int lo, .int hi] σ Q := by
  show Rn g (d + 0) mX12_within 0 [.int x, .int lo, .int hi] [] [] σ Q
  refine s_iload_n (pc := 0) (i := 0) dX12_within_0 rfl rfl ?_
  refine s_iload_n (pc := 1) (i := 1) dX12_within_1 rfl rfl ?_
  refine s_iclt (pc := 2) (tgt := 14) dX12_within_2 rfl (fun h2 => ?_) (fun h2 => ?_)
  · refine m_ic (pc := 14) (v := 0) dX12_within_14 rfl ?_
    refine s_ireturn (pc := 15) dX12_within_15 rfl rfl ?_
    first | exact ht (Int32.not_lt.mp h2) (Int32.not_lt.mp h7) | exact hf (fun z => absurd z.1 (Int32.not_le.mpr h2)) | exact hf (fun z => absurd z.2 (Int32.not_le.mpr h7))
  · refine s_iload_n (pc := 5) (i := 0) dX12_within_5 rfl rfl ?_
    refine s_iload_n (pc := 6) (i := 2) dX12_within_6 rfl rfl ?_
    refine s_icgt (pc := 7) (tgt := 14) dX12_within_7 rfl (fun h7 => ?_) (fun h7 => ?_)
    · refine m_ic (pc := 14) (v := 0) dX12_within_14 rfl ?_
      refine s_ireturn (pc := 15) dX12_within_15 rfl rfl ?_
      first | exact ht (Int32.not_lt.mp h2) (Int32.not_lt.mp h7) | exact hf (fun z => absurd z.1 (Int32.not_le.mpr h2)) | exact hf (fun z => absurd z.2 (Int32.not_le.mpr h7))
    · refine m_ic (pc := 10) (v := 1) dX12_within_10 rfl ?_
      refine s_goto (pc := 11) (tgt := 15) dX12_within_11 rfl ?_
      refine s_ireturn (pc := 15) dX12_within_15 rfl rfl ?_
      first | exact ht (Int32.not_lt.mp h2) (Int32.not_lt.mp h7) | exact hf (fun z => absurd z.1 (Int32.not_le.mpr h2)) | exact hf (fun z => absurd z.2 (Int32.not_le.mpr h7))
theorem c_X12_may {b k : Nat} {cd : Int32} (h0 : I 534 0 = 0) (hk : k < 2) (ht : b = 1 → Q (.inl (some (.int 1))) (Z I J n w)) (hf : b = 0 → cd ≠ 0 → Q (.inl (some (.int 0))) (Z (up (up I 534 0 cd) 535 k (I 535 k + 1)) J n w)) (hc : cd ≠ 0) (hb : b = 0 ∨ b = 1) : Cn g (d + 0) mX12_may [.ref 534, .int (nI b), .int cd, .int (nI k)] (Z I J n w) Q := by
  show Rn g (d + 0) mX12_may 0 [.ref 534, .int (nI b), .int cd, .int (nI k)] [] [] (Z I J n w) Q
  refine s_iload_n (pc := 0) (i := 1) dX12_may_0 rfl rfl ?_
  refine s_ifne (pc := 1) (tgt := 26) dX12_may_1 rfl (fun h1 => ?_) (fun h1 => ?_)
  · have hb1 : b = 1 := by
      rcases hb with hb | hb
      · exfalso; subst hb; exact h1 rfl
      · exact hb
    refine s_aload_n (pc := 26) (i := 0) dX12_may_26 rfl rfl ?_
    refine m_gi (pc := 27) dX12_may_27 ff_X12_3 rfl o_534 ?_
    refine s_ifne (pc := 30) (tgt := 37) dX12_may_30 rfl (fun h30 => absurd (h0) h30) (fun h30 => ?_)
    refine m_ic (pc := 33) (v := 1) dX12_may_33 rfl ?_
    refine s_goto (pc := 34) (tgt := 38) dX12_may_34 rfl ?_
    refine s_ireturn (pc := 38) dX12_may_38 rfl rfl ?_
    exact ht hb1
  · have hb0 : b = 0 := by
      rcases hb with hb | hb
      · exact hb
      · exfalso; subst hb; revert h1; decide
    refine s_aload_n (pc := 4) (i := 0) dX12_may_4 rfl rfl ?_
    refine m_gi (pc := 5) dX12_may_5 ff_X12_3 rfl o_534 ?_
    refine s_ifne (pc := 8) (tgt := 26) dX12_may_8 rfl (fun h8 => absurd (h0) h8) (fun h8 => ?_)
    refine s_aload_n (pc := 11) (i := 0) dX12_may_11 rfl rfl ?_
    refine s_iload_n (pc := 12) (i := 2) dX12_may_12 rfl rfl ?_
    refine m_pi (pc := 13) dX12_may_13 ff_X12_3 rfl rfl o_534 ?_
    refine s_aload_n (pc := 16) (i := 0) dX12_may_16 rfl rfl ?_
    refine m_gr (pc := 17) dX12_may_17 ff_X12_7 rfl o_534 r_534_1 ?_
    refine s_iload_n (pc := 20) (i := 3) dX12_may_20 rfl rfl ?_
    refine s_dup2 (pc := 21) dX12_may_21 rfl rfl ?_
    refine m_ia (pc := 22) dX12_may_22 a_535 (vp_in_nI hk (by decide)) ?_
    refine m_ic (pc := 23) (v := 1) dX12_may_23 rfl ?_
    refine s_iadd (pc := 24) dX12_may_24 ?_
    refine m_is (pc := 25) dX12_may_25 a_535 (vp_in_nI hk (by decide)) ?_
    refine s_aload_n (pc := 26) (i := 0) dX12_may_26 rfl rfl ?_
    refine m_gi (pc := 27) dX12_may_27 ff_X12_3 rfl o_534 ?_
    refine s_ifne (pc := 30) (tgt := 37) dX12_may_30 rfl (fun h30 => ?_) (fun h30 => absurd h30 (by rw [up_a (by decide), up_s]; exact hc))
    refine m_ic (pc := 37) (v := 0) dX12_may_37 rfl ?_
    refine s_ireturn (pc := 38) dX12_may_38 rfl rfl ?_
    rw [nI_clamp (by omega), up_a (by decide)]
    exact hf hb0 hc
theorem mp_be {x : Int32} : up (up (up (up (up (up I 534 2 0) 534 8 (-1)) 534 3 x) 534 4 0) 534 5 (-1)) 534 7 0 = mp (up (up (up I 534 2 0) 534 8 (-1)) 534 3 x) 0 (-1) (I 534 6) 0 := by
  funext y j; unfold up mp; dsimp only
  by_cases h : y = 534
  · subst h
    by_cases h7 : j = 7
    · subst h7; rfl
    by_cases h6 : j = 6
    · subst h6; rfl
    by_cases h5 : j = 5
    · subst h5; rfl
    by_cases h4 : j = 4
    · subst h4; rfl
    simp [h4, h5, h6, h7]
  · simp [h]
theorem c_X12_begins {x : Int32} (hq : Q (.inl none) (Z (mp (up (up (up I 534 2 0) 534 8 (-1)) 534 3 x) 0 (-1) (I 534 6) 0) J n w)) : Cn g (d + 0) mX12_begins [.ref 534, .int x] (Z I J n w) Q := by
  show Rn g (d + 0) mX12_begins 0 [.ref 534, .int x] [] [] (Z I J n w) Q
  refine s_aload_n (pc := 0) (i := 0) dX12_begins_0 rfl rfl ?_
  refine m_ic (pc := 1) (v := 0) dX12_begins_1 rfl ?_
  refine m_pi (pc := 2) dX12_begins_2 ff_X12_99 rfl rfl o_534 ?_
  refine s_aload_n (pc := 5) (i := 0) dX12_begins_5 rfl rfl ?_
  refine m_ic (pc := 6) (v := -1) dX12_begins_6 rfl ?_
  refine m_pi (pc := 7) dX12_begins_7 ff_X12_17 rfl rfl o_534 ?_
  refine s_aload_n (pc := 10) (i := 0) dX12_begins_10 rfl rfl ?_
  refine s_iload_n (pc := 11) (i := 1) dX12_begins_11 rfl rfl ?_
  refine m_pi (pc := 12) dX12_begins_12 ff_X12_111 rfl rfl o_534 ?_
  refine s_aload_n (pc := 15) (i := 0) dX12_begins_15 rfl rfl ?_
  refine m_ic (pc := 16) (v := 0) dX12_begins_16 rfl ?_
  refine m_pi (pc := 17) dX12_begins_17 ff_X12_108 rfl rfl o_534 ?_
  refine s_aload_n (pc := 20) (i := 0) dX12_begins_20 rfl rfl ?_
  refine m_ic (pc := 21) (v := -1) dX12_begins_21 rfl ?_
  refine m_pi (pc := 22) dX12_begins_22 ff_X12_102 rfl rfl o_534 ?_
  refine s_aload_n (pc := 25) (i := 0) dX12_begins_25 rfl rfl ?_
  refine m_ic (pc := 26) (v := 0) dX12_begins_26 rfl ?_
  refine m_pi (pc := 27) dX12_begins_27 ff_X12_142 rfl rfl o_534 ?_
  refine s_return (pc := 30) dX12_begins_30 rfl ?_
  rw [mp_be]; exact hq
theorem c_X12_clears (hq : ∀ I', I' = up (up (up I 534 14 0) 534 15 0) 534 16 20 → Q (.inl none) (Z (mp I' a (-1) bk op) J n w)) : Cn g (d + 0) mX12_clears [.ref 534] (Z (mp I a (-1) bk op) J n w) Q := by
  show Rn g (d + 0) mX12_clears 0 [.ref 534] [] [] (Z (mp I a (-1) bk op) J n w) Q
  refine s_aload_n (pc := 0) (i := 0) dX12_clears_0 rfl rfl ?_
  refine m_ic (pc := 1) (v := 0) dX12_clears_1 rfl ?_
  refine m_pi (pc := 2) dX12_clears_2 ff_X12_145 rfl rfl o_534 ?_
  refine s_aload_n (pc := 5) (i := 0) dX12_clears_5 rfl rfl ?_
  refine m_ic (pc := 6) (v := 0) dX12_clears_6 rfl ?_
  refine m_pi (pc := 7) dX12_clears_7 ff_X12_148 rfl rfl o_534 ?_
  refine s_aload_n (pc := 10) (i := 0) dX12_clears_10 rfl rfl ?_
  refine m_bi (pc := 11) (v := 20) dX12_clears_11 rfl ?_
  refine m_pi (pc := 13) dX12_clears_13 ff_X12_151 rfl rfl o_534 ?_
  refine s_return (pc := 16) dX12_clears_16 rfl ?_
  rw [mp_up (by decide), mp_up (by decide), mp_up (by decide)]; exact hq _ rfl
theorem c_X12_result {x : Int32} (hq : Q (.inl (some (.int x))) (Z (mp (up I 534 8 (-1)) a (-1) bk op) J n w)) : Cn g (d + 1) mX12_result [.ref 534, .int x] (Z (mp I a (-1) bk op) J n w) Q := by
  show Rn g (d + 1) mX12_result 0 [.ref 534, .int x] [] [] (Z (mp I a (-1) bk op) J n w) Q
  refine s_aload_n (pc := 0) (i := 0) dX12_result_0 rfl rfl ?_
  refine s_aload_n (pc := 1) (i := 0) dX12_result_1 rfl rfl ?_
  refine m_gi (pc := 2) dX12_result_2 ff_X12_102 rfl o_534 ?_
  refine m_nm (v' := (-1)) rfl ?_
  refine m_pi (pc := 5) dX12_result_5 ff_X12_17 rfl rfl o_534 ?_
  rw [mp_up (by decide)]
  refine s_aload_n (pc := 8) (i := 0) dX12_result_8 rfl rfl ?_
  refine m_v0 (pc := 9) dX12_result_9 lk_X12_131 ok_X12_fine (rcO o_534 (by decide) rfl) rfl rfl (c_X12_fine (fun h => kt_s ?_) (fun h => absurd rfl h))
  · refine s_ifeq (pc := 12) (tgt := 19) dX12_result_12 rfl (fun h12 => absurd h12 (by decide)) (fun h12 => ?_)
    refine s_iload_n (pc := 15) (i := 1) dX12_result_15 rfl rfl ?_
    refine s_goto (pc := 16) (tgt := 26) dX12_result_16 rfl ?_
    refine s_ireturn (pc := 26) dX12_result_26 rfl rfl ?_
    exact hq
theorem c_X12_result_n {x bad : Int32} (hb : bad ≠ -1) (hq : Q (.inl (some (.int (bk - 10)))) (Z (mp (up I 534 8 bad) a bad bk op) J n w)) : Cn g (d + 1) mX12_result [.ref 534, .int x] (Z (mp I a bad bk op) J n w) Q := by
  show Rn g (d + 1) mX12_result 0 [.ref 534, .int x] [] [] (Z (mp I a bad bk op) J n w) Q
  refine s_aload_n (pc := 0) (i := 0) dX12_result_0 rfl rfl ?_
  refine s_aload_n (pc := 1) (i := 0) dX12_result_1 rfl rfl ?_
  refine m_gi (pc := 2) dX12_result_2 ff_X12_102 rfl o_534 ?_
  refine m_nm (v' := bad) rfl ?_
  refine m_pi (pc := 5) dX12_result_5 ff_X12_17 rfl rfl o_534 ?_
  rw [mp_up (by decide)]
  refine s_aload_n (pc := 8) (i := 0) dX12_result_8 rfl rfl ?_
  refine m_v0 (pc := 9) dX12_result_9 lk_X12_131 ok_X12_fine (rcO o_534 (by decide) rfl) rfl rfl (c_X12_fine (fun h => absurd h hb) (fun h => kt_s ?_))
  · refine s_ifeq (pc := 12) (tgt := 19) dX12_result_12 rfl (fun h12 => ?_) (fun h12 => absurd h12 (by decide))
    refine s_aload_n (pc := 19) (i := 0) dX12_result_19 rfl rfl ?_
    refine m_gi (pc := 20) dX12_result_20 ff_X12_105 rfl o_534 ?_
    refine m_nm (v' := bk) rfl ?_
    refine m_bi (pc := 23) (v := 10) dX12_result_23 rfl ?_
    refine s_isub (pc := 25) dX12_result_25 ?_
    refine s_ireturn (pc := 26) dX12_result_26 rfl rfl ?_
    exact hq
theorem cp_0 {x y : Nat} : cpI I x y 0 = I := by funext u j; unfold cpI; rw [if_neg (by omega)]
theorem cp_1 {x y i : Nat} (h : x ≠ y) : up (cpI I x y i) y i (cpI I x y i x i) = cpI I x y (i + 1) := by
  funext u j; simp only [up, cpI]
  by_cases e : u = y
  · subst e
    by_cases e2 : j = i
    · subst e2; simp [h]
    · have e3 : (j < i + 1) ↔ (j < i) := by omega
      simp [e2, e3]
  · simp [e]
theorem cps_lp {x y nx ny m : Nat} (hx : isA 64 nx x) (hy : isA 64 ny y) (hne : x ≠ y) (h1 : m ≤ nx) (h2 : m ≤ ny) (hm : nx ≤ 10000 ∧ ny ≤ 10000) (hq : Q (.inl none) (Z (cpI I x y m) J n w)) : ∀ f i, i ≤ m → m - i = f → Rn g (d + 0) mX12_copies 3 [.ref 534, .ref x, .ref y, .int (nI m), .int (nI i)] [] [] (Z (cpI I x y i) J n w) Q := by
  intro f
  induction f with
  | zero =>
    intro i hi hf
    have e : i = m := by omega
    subst e
    refine s_iload (pc := 3) (i := 4) dX12_copies_3 rfl ?_
    refine s_iload_n (pc := 5) (i := 3) dX12_copies_5 rfl rfl ?_
    refine s_icge (pc := 6) (tgt := 23) dX12_copies_6 rfl (fun h6 => ?_) (fun h6 => absurd (nI_le (by omega) (by omega)) h6)
    refine s_return (pc := 23) dX12_copies_23 rfl ?_
    exact hq
  | succ f ih =>
    intro i hi hf
    refine s_iload (pc := 3) (i := 4) dX12_copies_3 rfl ?_
    refine s_iload_n (pc := 5) (i := 3) dX12_copies_5 rfl rfl ?_
    refine s_icge (pc := 6) (tgt := 23) dX12_copies_6 rfl (fun h6 => absurd h6 (nI_ge (by omega) (by omega))) (fun h6 => ?_)
    refine s_aload_n (pc := 9) (i := 2) dX12_copies_9 rfl rfl ?_
    refine s_iload (pc := 10) (i := 4) dX12_copies_10 rfl ?_
    refine s_aload_n (pc := 12) (i := 1) dX12_copies_12 rfl rfl ?_
    refine s_iload (pc := 13) (i := 4) dX12_copies_13 rfl ?_
    refine m_ia (pc := 15) dX12_copies_15 hx (vp_in_nI (by omega) (by omega)) ?_
    refine m_is (pc := 16) dX12_copies_16 hy (vp_in_nI (by omega) (by omega)) ?_
    rw [nI_clamp (by omega), cp_1 hne]
    refine m_inc (pc := 17) (v := 1) dX12_copies_17 rfl rfl ?_
    dsimp only [List.set, List.filter]
    rw [nI_1]
    refine s_goto (pc := 20) (tgt := 3) dX12_copies_20 rfl ?_
    exact ih (i + 1) (by omega) (by omega)
theorem c_X12_copies {x y nx ny m : Nat} {mi : Int32} (hmi : mi = nI m) (hx : isA 64 nx x) (hy : isA 64 ny y) (hne : x ≠ y) (h1 : m ≤ nx) (h2 : m ≤ ny) (hm : nx ≤ 10000 ∧ ny ≤ 10000) (hq : Q (.inl none) (Z (cpI I x y m) J n w)) : Cn g (d + 0) mX12_copies [.ref 534, .ref x, .ref y, .int mi] (Z I J n w) Q := by
  subst hmi
  show Rn g (d + 0) mX12_copies 0 [.ref 534, .ref x, .ref y, .int (nI m), .retAddr 0] [] [] (Z I J n w) Q
  refine m_ic (pc := 0) (v := 0) dX12_copies_0 rfl ?_
  refine s_istore (pc := 1) (i := 4) dX12_copies_1 (Nat.le_of_ble_eq_true rfl) ?_
  dsimp only [List.set, List.filter]
  have h := cps_lp (g := g) (d := d) hx hy hne h1 h2 hm hq m 0 (by omega) (by omega)
  rw [cp_0] at h
  exact h
def flI (I : Nat → Nat → Int32) (a n : Nat) (v : Int32) : Nat → Nat → Int32 := fun x j => if x = a ∧ j < n then v else I x j
def nwI (I : Nat → Nat → Int32) (n : Nat) : Nat → Nat → Int32 := fun x j => if x = 549 ∧ j < n then (if j < 84 then -1 else 0) else I x j
theorem fl_0 {x : Nat} {v : Int32} : flI I x 0 v = I := by funext u j; unfold flI; rw [if_neg (by omega)]
theorem nw_0 : nwI I 0 = I := by funext u j; unfold nwI; rw [if_neg (by omega)]
theorem fl_1 {x i : Nat} {v : Int32} : up (flI I x i v) x i v = flI I x (i + 1) v := by
  funext u j; unfold up flI
  by_cases e : u = x ∧ j = i
  · rw [if_pos e, if_pos (by omega)]
  · rw [if_neg e]
    by_cases e2 : u = x ∧ j < i
    · rw [if_pos e2, if_pos (by omega)]
    · rw [if_neg e2, if_neg (by omega)]
theorem nw_1 {i : Nat} {v : Int32} (h : v = if i < 84 then -1 else 0) : up (nwI I i) 549 i v = nwI I (i + 1) := by
  funext u j; simp only [up, nwI]
  by_cases e : u = 549
  · subst e
    by_cases e2 : j = i
    · subst e2; simp [h]
    · have e3 : (j < i + 1) ↔ (j < i) := by omega
      simp [e2, e3]
  · simp [e]
/-- the model's heap behind a new court -/
def stM (I : Nat → Nat → Int32) : Nat → Nat → Int32 := nwI (flI (up (up (up (up (up (cpI (cpI (up (up (up I 534 17 (I 534 14)) 534 18 (I 534 15)) 534 19 (I 534 16)) 537 539 14) 538 540 24) 534 26 0) 534 41 0) 534 31 0) 534 50 0) 534 32 0) 553 7 (-1)) 126
theorem set_l2 {I0 : Nat → Nat → Int32} (hq : Q (.inl none) (Z (nwI I0 126) J n w)) : ∀ f i, i ≤ 126 → 126 - i = f → Rn g (d + 1) mX12_sets 100 [.ref 534, .int (nI i)] [] [] (Z (nwI I0 i) J n w) Q := by
  have e1 : (126 : Int32) = nI 126 := rfl
  have e2 : (84 : Int32) = nI 84 := rfl
  intro f
  induction f with
  | zero =>
    intro i hi hf
    have e : i = 126 := by omega
    subst e
    refine s_iload_n (pc := 100) (i := 1) dX12_sets_100 rfl rfl ?_
    refine m_bi (pc := 101) (v := 126) dX12_sets_101 rfl ?_
    refine s_icge (pc := 103) (tgt := 129) dX12_sets_103 rfl (fun h103 => ?_) (fun h103 => absurd (nI_le (a := 126) (b := 126) (by omega) (by omega)) h103)
    refine s_return (pc := 129) dX12_sets_129 rfl ?_
    exact hq
  | succ f ih =>
    intro i hi hf
    refine s_iload_n (pc := 100) (i := 1) dX12_sets_100 rfl rfl ?_
    refine m_bi (pc := 101) (v := 126) dX12_sets_101 rfl ?_
    refine s_icge (pc := 103) (tgt := 129) dX12_sets_103 rfl (fun h103 => absurd h103 (nI_ge (a := i) (b := 126) (by omega) (by omega))) (fun h103 => ?_)
    refine s_aload_n (pc := 106) (i := 0) dX12_sets_106 rfl rfl ?_
    refine m_gr (pc := 107) dX12_sets_107 ff_X12_59 rfl o_534 r_534_36 ?_
    refine s_iload_n (pc := 110) (i := 1) dX12_sets_110 rfl rfl ?_
    refine s_iload_n (pc := 111) (i := 1) dX12_sets_111 rfl rfl ?_
    refine m_bi (pc := 112) (v := 84) dX12_sets_112 rfl ?_
    refine s_icge (pc := 114) (tgt := 121) dX12_sets_114 rfl (fun h114 => ?_) (fun h114 => ?_)
    · rw [e2, nI_leI (by omega) (by omega)] at h114
      refine m_ic (pc := 121) (v := 0) dX12_sets_121 rfl ?_
      refine m_is (pc := 122) dX12_sets_122 a_549 (vp_in_nI (by omega) (by decide)) ?_
      rw [nI_clamp (by omega), nw_1 (by rw [if_neg (by omega)])]
      refine m_inc (pc := 123) (v := 1) dX12_sets_123 rfl rfl ?_
      dsimp only [List.set, List.filter]
      rw [nI_1]
      refine s_goto (pc := 126) (tgt := 100) dX12_sets_126 rfl ?_
      exact ih (i + 1) (by omega) (by omega)
    · rw [e2, nI_leI (by omega) (by omega)] at h114
      refine m_ic (pc := 117) (v := -1) dX12_sets_117 rfl ?_
      refine s_goto (pc := 118) (tgt := 122) dX12_sets_118 rfl ?_
      refine m_is (pc := 122) dX12_sets_122 a_549 (vp_in_nI (by omega) (by decide)) ?_
      rw [nI_clamp (by omega), nw_1 (by rw [if_pos (by omega)])]
      refine m_inc (pc := 123) (v := 1) dX12_sets_123 rfl rfl ?_
      dsimp only [List.set, List.filter]
      rw [nI_1]
      refine s_goto (pc := 126) (tgt := 100) dX12_sets_126 rfl ?_
      exact ih (i + 1) (by omega) (by omega)
theorem set_l1 {I0 : Nat → Nat → Int32} (hq : Q (.inl none) (Z (nwI (flI I0 553 7 (-1)) 126) J n w)) : ∀ f i, i ≤ 7 → 7 - i = f → Rn g (d + 1) mX12_sets 79 [.ref 534, .int (nI i)] [] [] (Z (flI I0 553 i (-1)) J n w) Q := by
  have e1 : (7 : Int32) = nI 7 := rfl
  intro f
  induction f with
  | zero =>
    intro i hi hf
    have e : i = 7 := by omega
    subst e
    refine s_iload_n (pc := 79) (i := 1) dX12_sets_79 rfl rfl ?_
    refine m_bi (pc := 80) (v := 7) dX12_sets_80 rfl ?_
    refine s_icge (pc := 82) (tgt := 98) dX12_sets_82 rfl (fun h82 => ?_) (fun h82 => absurd (nI_le (a := 7) (b := 7) (by omega) (by omega)) h82)
    refine m_ic (pc := 98) (v := 0) dX12_sets_98 rfl ?_
    refine s_istore_n (pc := 99) (i := 1) dX12_sets_99 rfl (Nat.le_of_ble_eq_true rfl) ?_
    dsimp only [List.set, List.filter]
    have h := set_l2 (g := g) (d := d) hq 126 0 (by omega) (by omega)
    rw [nw_0] at h
    exact h
  | succ f ih =>
    intro i hi hf
    refine s_iload_n (pc := 79) (i := 1) dX12_sets_79 rfl rfl ?_
    refine m_bi (pc := 80) (v := 7) dX12_sets_80 rfl ?_
    refine s_icge (pc := 82) (tgt := 98) dX12_sets_82 rfl (fun h82 => absurd h82 (nI_ge (a := i) (b := 7) (by omega) (by omega))) (fun h82 => ?_)
    refine s_aload_n (pc := 85) (i := 0) dX12_sets_85 rfl rfl ?_
    refine m_gr (pc := 86) dX12_sets_86 ff_X12_71 rfl o_534 r_534_40 ?_
    refine s_iload_n (pc := 89) (i := 1) dX12_sets_89 rfl rfl ?_
    refine m_ic (pc := 90) (v := -1) dX12_sets_90 rfl ?_
    refine m_is (pc := 91) dX12_sets_91 a_553 (vp_in_nI (by omega) (by decide)) ?_
    rw [nI_clamp (by omega), fl_1]
    refine m_inc (pc := 92) (v := 1) dX12_sets_92 rfl rfl ?_
    dsimp only [List.set, List.filter]
    rw [nI_1]
    refine s_goto (pc := 95) (tgt := 79) dX12_sets_95 rfl ?_
    exact ih (i + 1) (by omega) (by omega)
theorem c_X12_sets (hq : Q (.inl none) (Z (stM I) J n w)) : Cn g (d + 1) mX12_sets [.ref 534] (Z I J n w) Q := by
  show Rn g (d + 1) mX12_sets 0 [.ref 534, .retAddr 0] [] [] (Z I J n w) Q
  refine s_aload_n (pc := 0) (i := 0) dX12_sets_0 rfl rfl ?_
  refine s_aload_n (pc := 1) (i := 0) dX12_sets_1 rfl rfl ?_
  refine m_gi (pc := 2) dX12_sets_2 ff_X12_145 rfl o_534 ?_
  refine m_pi (pc := 5) dX12_sets_5 ff_X12_154 rfl rfl o_534 ?_
  refine s_aload_n (pc := 8) (i := 0) dX12_sets_8 rfl rfl ?_
  refine s_aload_n (pc := 9) (i := 0) dX12_sets_9 rfl rfl ?_
  refine m_gi (pc := 10) dX12_sets_10 ff_X12_148 rfl o_534 ?_
  refine m_pi (pc := 13) dX12_sets_13 ff_X12_157 rfl rfl o_534 ?_
  refine s_aload_n (pc := 16) (i := 0) dX12_sets_16 rfl rfl ?_
  refine s_aload_n (pc := 17) (i := 0) dX12_sets_17 rfl rfl ?_
  refine m_gi (pc := 18) dX12_sets_18 ff_X12_151 rfl o_534 ?_
  refine m_pi (pc := 21) dX12_sets_21 ff_X12_160 rfl rfl o_534 ?_
  refine s_aload_n (pc := 24) (i := 0) dX12_sets_24 rfl rfl ?_
  refine s_aload_n (pc := 25) (i := 0) dX12_sets_25 rfl rfl ?_
  refine m_gr (pc := 26) dX12_sets_26 ff_X12_23 rfl o_534 r_534_10 ?_
  refine s_aload_n (pc := 29) (i := 0) dX12_sets_29 rfl rfl ?_
  refine m_gr (pc := 30) dX12_sets_30 ff_X12_29 rfl o_534 r_534_12 ?_
  refine m_bi (pc := 33) (v := 14) dX12_sets_33 rfl ?_
  refine m_v3 (pc := 35) dX12_sets_35 lk_X12_163 ok_X12_copies (rcO o_534 (by decide) rfl) rfl rfl (c_X12_copies (m := 14) rfl a_537 a_539 (by decide) (by decide) (by decide) (by decide) (kt_v ?_))
  refine s_aload_n (pc := 38) (i := 0) dX12_sets_38 rfl rfl ?_
  refine s_aload_n (pc := 39) (i := 0) dX12_sets_39 rfl rfl ?_
  refine m_gr (pc := 40) dX12_sets_40 ff_X12_26 rfl o_534 r_534_11 ?_
  refine s_aload_n (pc := 43) (i := 0) dX12_sets_43 rfl rfl ?_
  refine m_gr (pc := 44) dX12_sets_44 ff_X12_32 rfl o_534 r_534_13 ?_
  refine m_bi (pc := 47) (v := 24) dX12_sets_47 rfl ?_
  refine m_v3 (pc := 49) dX12_sets_49 lk_X12_163 ok_X12_copies (rcO o_534 (by decide) rfl) rfl rfl (c_X12_copies (m := 24) rfl a_538 a_540 (by decide) (by decide) (by decide) (by decide) (kt_v ?_))
  refine s_aload_n (pc := 52) (i := 0) dX12_sets_52 rfl rfl ?_
  refine m_ic (pc := 53) (v := 0) dX12_sets_53 rfl ?_
  refine m_pi (pc := 54) dX12_sets_54 ff_X12_167 rfl rfl o_534 ?_
  refine s_aload_n (pc := 57) (i := 0) dX12_sets_57 rfl rfl ?_
  refine m_ic (pc := 58) (v := 0) dX12_sets_58 rfl ?_
  refine m_pi (pc := 59) dX12_sets_59 ff_X12_170 rfl rfl o_534 ?_
  refine s_aload_n (pc := 62) (i := 0) dX12_sets_62 rfl rfl ?_
  refine m_ic (pc := 63) (v := 0) dX12_sets_63 rfl ?_
  refine m_pi (pc := 64) dX12_sets_64 ff_X12_173 rfl rfl o_534 ?_
  refine s_aload_n (pc := 67) (i := 0) dX12_sets_67 rfl rfl ?_
  refine m_ic (pc := 68) (v := 0) dX12_sets_68 rfl ?_
  refine m_pi (pc := 69) dX12_sets_69 ff_X12_176 rfl rfl o_534 ?_
  refine s_aload_n (pc := 72) (i := 0) dX12_sets_72 rfl rfl ?_
  refine m_ic (pc := 73) (v := 0) dX12_sets_73 rfl ?_
  refine m_pi (pc := 74) dX12_sets_74 ff_X12_179 rfl rfl o_534 ?_
  refine m_ic (pc := 77) (v := 0) dX12_sets_77 rfl ?_
  refine s_istore_n (pc := 78) (i := 1) dX12_sets_78 rfl (Nat.le_of_ble_eq_true rfl) ?_
  dsimp only [List.set, List.filter]
  have h := set_l1 (g := g) (d := d) (I0 := up (up (up (up (up (cpI (cpI (up (up (up I 534 17 (I 534 14)) 534 18 (I 534 15)) 534 19 (I 534 16)) 537 539 14) 538 540 24) 534 26 0) 534 41 0) 534 31 0) 534 50 0) 534 32 0) hq 7 0 (by omega) (by omega)
  rw [fl_0] at h
  exact h
end S
