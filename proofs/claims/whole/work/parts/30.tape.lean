section S
variable {g : aG} {d : Nat} {I : Nat → Nat → Int32} {J : Nat → Nat → Int64} {n w : Nat} {Q : aO → aS → Prop}
theorem up_s {a k : Nat} {v : Int32} : up I a k v a k = v := by simp [up]
theorem up_a {a k x j : Nat} {v : Int32} (h : x ≠ a) : up I a k v x j = I x j := by simp [up, h]
theorem up_k {a k x j : Nat} {v : Int32} (h : j ≠ k) : up I a k v x j = I x j := by simp [up, h]
theorem Rn_cg {y : aM} {pc : Nat} {l l' : List Value} {ll : List (Nat × Int64)} {st : List Value} {σ σ' : aS} (hl : l' = l) (hs : σ' = σ) (h : Rn g d y pc l ll st σ Q) : Rn g d y pc l' ll st σ' Q := by subst hl; subst hs; exact h
theorem Z_cg {I' : Nat → Nat → Int32} (h : I' = I) : Z I' J n w = Z I J n w := by rw [h]
theorem Q_cg {o : aO} {I' : Nat → Nat → Int32} (h : I' = I) (hq : Q o (Z I J n w)) : Q o (Z I' J n w) := by rw [h]; exact hq
theorem Rs_cg {y : aM} {pc : Nat} {l : List Value} {ll : List (Nat × Int64)} {st : List Value} {I' : Nat → Nat → Int32} (h : I' = I) (k : Rn g d y pc l ll st (Z I J n w) Q) : Rn g d y pc l ll st (Z I' J n w) Q := by subst h; exact k
theorem byte2 (x : Int32) : x.toInt8.toInt32.toInt8.toInt32 = x.toInt8.toInt32 := by
  have h : ∀ z : Int8, z.toInt32.toInt8 = z := fun z => by simp
  rw [h]
/-- the text of N bytes t on the tape -/
def tx (I : Nat → Nat → Int32) (t : Nat → Nat) (N : Nat) : Prop := N ≤ 600 ∧ I 2 2 = nI N ∧ ∀ i, i < N → t i < 256 ∧ I 3 i = sb_b (t i)
/-- the tape's own numbers: its place, the word's first and last place, kind and place of the fault -/
def tp (I : Nat → Nat → Int32) (a wf wt : Nat) (fk fp : Int32) : Nat → Nat → Int32 := fun x j => if x = 2 ∧ j = 3 then nI a else if x = 2 ∧ j = 4 then nI wf else if x = 2 ∧ j = 5 then nI wt else if x = 2 ∧ j = 6 then fk else if x = 2 ∧ j = 7 then fp else I x j
variable {t : Nat → Nat} {N a wf wt : Nat} {fk fp : Int32}
theorem tp_a {a' : Nat} : up (tp I a wf wt fk fp) 2 3 (nI a') = tp I a' wf wt fk fp := by funext x j; unfold up tp; by_cases h : x = 2 ∧ j = 3 <;> simp [h]
theorem tp_f {a' : Nat} : up (tp I a wf wt fk fp) 2 4 (nI a') = tp I a a' wt fk fp := by funext x j; unfold up tp; by_cases h : x = 2 ∧ j = 4 <;> simp [h]
theorem tp_t {a' : Nat} : up (tp I a wf wt fk fp) 2 5 (nI a') = tp I a wf a' fk fp := by funext x j; unfold up tp; by_cases h : x = 2 ∧ j = 5 <;> simp [h]
theorem tp_k {v : Int32} : up (tp I a wf wt fk fp) 2 6 v = tp I a wf wt v fp := by funext x j; unfold up tp; by_cases h : x = 2 ∧ j = 6 <;> simp [h]
theorem tp_p {v : Int32} : up (tp I a wf wt fk fp) 2 7 v = tp I a wf wt fk v := by funext x j; unfold up tp; by_cases h : x = 2 ∧ j = 7 <;> simp [h]
theorem tp_o {x j : Nat} (h : x ≠ 2 ∨ j < 3) : tp I a wf wt fk fp x j = I x j := by unfold tp; rw [if_neg (by omega), if_neg (by omega), if_neg (by omega), if_neg (by omega), if_neg (by omega)]
theorem tx_b (h : tx I t N) {i : Nat} (hi : i < N) : tp I a wf wt fk fp 3 i = sb_b (t i) := by rw [tp_o (Or.inl (by decide))]; exact (h.2.2 i hi).2
/-- how far a kind of bytes goes on -/
def rn (p : Nat → Bool) : Nat → Nat → Nat
  | 0, a => a
  | f + 1, a => if p a then rn p f (a + 1) else a
theorem rn_le (p : Nat → Bool) : ∀ f a, rn p f a ≤ a + f
  | 0, a => Nat.le_refl _
  | f + 1, a => by unfold rn; split; have := rn_le p f (a + 1); omega; omega
theorem rn_ge (p : Nat → Bool) : ∀ f a, a ≤ rn p f a
  | 0, a => Nat.le_refl _
  | f + 1, a => by unfold rn; split; have := rn_ge p f (a + 1); omega; omega
theorem rn_no (p : Nat → Bool) : ∀ f a, rn p f a < a + f → p (rn p f a) = false
  | 0, a, h => by simp [rn] at h
  | f + 1, a, h => by
    unfold rn at h ⊢
    split at h
    · rename_i hp; rw [if_pos hp]; exact rn_no p f (a + 1) (by omega)
    · rename_i hp; rw [if_neg hp]; simpa using hp
theorem rn_yes (p : Nat → Bool) : ∀ f a i, a ≤ i → i < rn p f a → p i = true
  | 0, a, i, h1, h2 => by simp [rn] at h2; omega
  | f + 1, a, i, h1, h2 => by
    unfold rn at h2
    split at h2
    · rename_i hp
      by_cases e : i = a
      · subst e; exact hp
      · exact rn_yes p f (a + 1) i (by omega) h2
    · omega
theorem rn_stop {p : Nat → Bool} {f a : Nat} (h : p a = false) : rn p f a = a := by cases f <;> simp [rn, h]
theorem rn_step {p : Nat → Bool} {f a : Nat} (h : p a = true) : rn p (f + 1) a = rn p f (a + 1) := by simp [rn, h]
/-- behind the blanks -/
def sk (t : Nat → Nat) (N a : Nat) : Nat := rn (fun i => t i == 32) (N - a) a
theorem sk_le (h : a ≤ N) : sk t N a ≤ N := by have := rn_le (fun i => t i == 32) (N - a) a; unfold sk; omega
theorem sk_ge : a ≤ sk t N a := rn_ge _ _ _
theorem sk_end (h : N ≤ a) : sk t N a = a := by unfold sk; rw [show N - a = 0 by omega]; rfl
theorem sk_no (h : sk t N a < N) : t (sk t N a) ≠ 32 := by
  have h1 : a ≤ sk t N a := sk_ge
  have := rn_no (fun i => t i == 32) (N - a) a (by unfold sk at h h1; omega)
  simpa [sk] using this
theorem sk_sk : sk t N (sk t N a) = sk t N a := by
  by_cases h : sk t N a < N
  · unfold sk; exact rn_stop (by have := sk_no h; simpa [sk] using this)
  · exact sk_end (by omega)
theorem sb32 : ∀ c, c < 256 → (sb_b c = 32 ↔ c = 32) := by decide +kernel
theorem sb_sm : ∀ c, c < 256 → (c < 128 → sb_b c = nI c) ∧ (128 ≤ c → sb_b c < 0) := by decide +kernel
theorem sb_eq (k : Nat) (hk : k < 128) (c : Nat) (hc : c < 256) : sb_b c = nI k ↔ c = k := by
  obtain ⟨h1, h2⟩ := sb_sm c hc
  by_cases h : c < 128
  · rw [h1 h, nI_eq (by omega) (by omega)]
  · constructor
    · intro e
      have := h2 (by omega)
      rw [e] at this
      exact absurd this (nI_pos (by omega))
    · intro e; omega
theorem put_it {k : Nat} {x s : Int32} (hk : I 2 1 = nI k) (hk2 : k < 600) (hs : ¬ s < 0) (kk : Rn g (d + 0) mX10_put 3 [.ref 2, .int x, .int (s + -8)] [] [] (Z (up (up I 3 k (x.toUInt32 >>> (s.toUInt32 &&& Int32.toUInt32 31)).toInt32.toInt8.toInt32) 2 1 (nI (k + 1))) J n w) Q) : Rn g (d + 0) mX10_put 3 [.ref 2, .int x, .int s] [] [] (Z I J n w) Q := by
  refine s_iload_n (pc := 3) (i := 2) dX10_put_3 rfl rfl ?_
  refine s_iflt (pc := 4) (tgt := 46) dX10_put_4 rfl (fun h4 => absurd h4 (hs)) (fun h4 => ?_)
  refine s_aload_n (pc := 7) (i := 0) dX10_put_7 rfl rfl ?_
  refine m_gi (pc := 8) dX10_put_8 ff_X10_19 rfl o_2 ?_
  refine m_si (pc := 11) (v := 600) dX10_put_11 rfl ?_
  refine s_icge (pc := 14) (tgt := 46) dX10_put_14 rfl (fun h14 => absurd h14 (by rw [hk]; exact nI_ge hk2 (by decide))) (fun h14 => ?_)
  refine s_aload_n (pc := 17) (i := 0) dX10_put_17 rfl rfl ?_
  refine m_gr (pc := 18) dX10_put_18 ff_X10_9 rfl o_2 r_2_0 ?_
  refine s_aload_n (pc := 21) (i := 0) dX10_put_21 rfl rfl ?_
  refine m_gi (pc := 22) dX10_put_22 ff_X10_19 rfl o_2 ?_
  refine s_iload_n (pc := 25) (i := 1) dX10_put_25 rfl rfl ?_
  refine s_iload_n (pc := 26) (i := 2) dX10_put_26 rfl rfl ?_
  refine s_iushr (pc := 27) dX10_put_27 ?_
  refine s_i2b (pc := 28) dX10_put_28 ?_
  refine m_bs (pc := 29) dX10_put_29 a_3 (by rw [hk]; exact vp_in_nI hk2 (by decide)) ?_
  rw [hk]
  refine s_aload_n (pc := 30) (i := 0) dX10_put_30 rfl rfl ?_
  refine s_dup (pc := 31) dX10_put_31 rfl ?_
  refine m_gi (pc := 32) dX10_put_32 ff_X10_19 rfl o_2 ?_
  refine m_ic (pc := 35) (v := 1) dX10_put_35 rfl ?_
  refine s_iadd (pc := 36) dX10_put_36 ?_
  refine m_pi (pc := 37) dX10_put_37 ff_X10_19 rfl rfl o_2 ?_
  refine m_inc (pc := 40) (v := (-8)) dX10_put_40 rfl rfl ?_
  dsimp only [List.set, List.filter]
  refine s_goto (pc := 43) (tgt := 3) dX10_put_43 rfl ?_
  refine Rn_cg rfl (Z_cg ?_) kk
  rw [nI_clamp (by omega), up_a (by decide), hk, nI_1, byte2]
theorem tx_N (h : tx I t N) : tp I a wf wt fk fp 2 2 = nI N := (tp_o (Or.inr (by decide))).trans h.2.1
theorem tx_r (h : tx I t N) {i : Nat} (hi : i < N) : tp I a wf wt fk fp 3 (nI i).toNatClampNeg = sb_b (t i) := by have := h.1; rw [nI_clamp (by omega)]; exact tx_b h hi
theorem tx_c (h : tx I t N) {i : Nat} (hi : i < N) : t i < 256 := (h.2.2 i hi).1
theorem sk_one (h : a < N) (e : t a = 32) : sk t N a = sk t N (a + 1) := by
  unfold sk
  rw [show N - a = (N - (a + 1)) + 1 by omega, rn_step (by simp [e])]
theorem sk_zero (e : t a ≠ 32) : sk t N a = a := rn_stop (by simp [e])
theorem skip_lp (hx : tx I t N) : ∀ f a, a ≤ N → N - a = f → Q (.inl none) (Z (tp I (sk t N a) wf wt fk fp) J n w) → Rn g (d + 0) mX10_skipBlanks 0 [.ref 2] [] [] (Z (tp I a wf wt fk fp) J n w) Q := by
  have hN := hx.1
  intro f
  induction f with
  | zero =>
    intro a ha hf hq
    rw [sk_end (by omega)] at hq
    refine s_aload_n (pc := 0) (i := 0) dX10_skipBlanks_0 rfl rfl ?_
    refine m_gi (pc := 1) dX10_skipBlanks_1 ff_X10_25 rfl o_2 ?_
    refine m_nm (v' := nI a) rfl ?_
    refine s_aload_n (pc := 4) (i := 0) dX10_skipBlanks_4 rfl rfl ?_
    refine m_gi (pc := 5) dX10_skipBlanks_5 ff_X10_22 rfl o_2 ?_
    refine m_nm (v' := nI N) (tx_N hx) ?_
    refine s_icge (pc := 8) (tgt := 38) dX10_skipBlanks_8 rfl (fun h8 => ?_) (fun h8 => absurd (nI_le (by omega) (by omega)) h8)
    refine s_return (pc := 38) dX10_skipBlanks_38 rfl ?_
    exact hq
  | succ f ih =>
    intro a ha hf hq
    have hc := tx_c hx (i := a) (by omega)
    refine s_aload_n (pc := 0) (i := 0) dX10_skipBlanks_0 rfl rfl ?_
    refine m_gi (pc := 1) dX10_skipBlanks_1 ff_X10_25 rfl o_2 ?_
    refine m_nm (v' := nI a) rfl ?_
    refine s_aload_n (pc := 4) (i := 0) dX10_skipBlanks_4 rfl rfl ?_
    refine m_gi (pc := 5) dX10_skipBlanks_5 ff_X10_22 rfl o_2 ?_
    refine m_nm (v' := nI N) (tx_N hx) ?_
    refine s_icge (pc := 8) (tgt := 38) dX10_skipBlanks_8 rfl (fun h8 => absurd h8 (nI_ge (by omega) (by omega))) (fun h8 => ?_)
    refine s_aload_n (pc := 11) (i := 0) dX10_skipBlanks_11 rfl rfl ?_
    refine m_gr (pc := 12) dX10_skipBlanks_12 ff_X10_9 rfl o_2 r_2_0 ?_
    refine s_aload_n (pc := 15) (i := 0) dX10_skipBlanks_15 rfl rfl ?_
    refine m_gi (pc := 16) dX10_skipBlanks_16 ff_X10_25 rfl o_2 ?_
    refine m_nm (v' := nI a) rfl ?_
    refine m_ba (pc := 19) dX10_skipBlanks_19 a_3 (vp_in_nI (n := a) (by omega) (by decide)) ?_
    refine m_nm (v' := sb_b (t (a))) (tx_r hx (by omega)) ?_
    refine m_bi (pc := 20) (v := 32) dX10_skipBlanks_20 rfl ?_
    refine s_icne (pc := 22) (tgt := 38) dX10_skipBlanks_22 rfl (fun h22 => ?_) (fun h22 => ?_)
    · have e : t a ≠ 32 := fun e => h22 ((sb32 _ hc).mpr e)
      rw [sk_zero e] at hq
      refine s_return (pc := 38) dX10_skipBlanks_38 rfl ?_
      exact hq
    · have e : t a = 32 := (sb32 _ hc).mp h22
      rw [sk_one (by omega) e] at hq
      refine s_aload_n (pc := 25) (i := 0) dX10_skipBlanks_25 rfl rfl ?_
      refine s_dup (pc := 26) dX10_skipBlanks_26 rfl ?_
      refine m_gi (pc := 27) dX10_skipBlanks_27 ff_X10_25 rfl o_2 ?_
      refine m_nm (v' := nI a) rfl ?_
      refine m_ic (pc := 30) (v := 1) dX10_skipBlanks_30 rfl ?_
      refine s_iadd (pc := 31) dX10_skipBlanks_31 ?_
      refine m_nm (v' := nI (a + 1)) (nI_1 a) ?_
      refine m_pi (pc := 32) dX10_skipBlanks_32 ff_X10_25 rfl rfl o_2 ?_
      refine Rs_cg tp_a ?_
      refine s_goto (pc := 35) (tgt := 0) dX10_skipBlanks_35 rfl ?_
      exact ih (a + 1) (by omega) (by omega) hq
theorem c_X10_skipBlanks (hx : tx I t N) (ha : a ≤ N) (hq : Q (.inl none) (Z (tp I (sk t N a) wf wt fk fp) J n w)) : Cn g (d + 0) mX10_skipBlanks [.ref 2] (Z (tp I a wf wt fk fp) J n w) Q := skip_lp hx (N - a) a ha rfl hq
theorem c_X10_fail {k v : Int32} (hq : Q (.inl (some (.int 0))) (Z (tp I a wf wt k v) J n w)) : Cn g (d + 0) mX10_fail [.ref 2, .int k, .int v] (Z (tp I a wf wt fk fp) J n w) Q := by
  show Rn g (d + 0) mX10_fail 0 [.ref 2, .int k, .int v] [] [] (Z (tp I a wf wt fk fp) J n w) Q
  refine s_aload_n (pc := 0) (i := 0) dX10_fail_0 rfl rfl ?_
  refine s_iload_n (pc := 1) (i := 1) dX10_fail_1 rfl rfl ?_
  refine m_pi (pc := 2) dX10_fail_2 ff_X10_28 rfl rfl o_2 ?_
  refine Rs_cg tp_k ?_
  refine s_aload_n (pc := 5) (i := 0) dX10_fail_5 rfl rfl ?_
  refine s_iload_n (pc := 6) (i := 2) dX10_fail_6 rfl rfl ?_
  refine m_pi (pc := 7) dX10_fail_7 ff_X10_15 rfl rfl o_2 ?_
  refine Rs_cg tp_p ?_
  refine m_ic (pc := 10) (v := 0) dX10_fail_10 rfl ?_
  refine s_ireturn (pc := 11) dX10_fail_11 rfl rfl ?_
  exact hq
theorem c_X10_failHere {k : Int32} (hq : Q (.inl (some (.int 0))) (Z (tp I a wf wt k (nI a)) J n w)) : Cn g (d + 1) mX10_failHere [.ref 2, .int k] (Z (tp I a wf wt fk fp) J n w) Q := by
  show Rn g (d + 1) mX10_failHere 0 [.ref 2, .int k] [] [] (Z (tp I a wf wt fk fp) J n w) Q
  refine s_aload_n (pc := 0) (i := 0) dX10_failHere_0 rfl rfl ?_
  refine s_iload_n (pc := 1) (i := 1) dX10_failHere_1 rfl rfl ?_
  refine s_aload_n (pc := 2) (i := 0) dX10_failHere_2 rfl rfl ?_
  refine m_gi (pc := 3) dX10_failHere_3 ff_X10_25 rfl o_2 ?_
  refine m_nm (v' := nI a) rfl ?_
  refine m_v2 (pc := 6) dX10_failHere_6 lk_X10_38 ok_X10_fail (rcO o_2 (by decide) rfl) rfl rfl (c_X10_fail (kt_s ?_))
  · refine s_ireturn (pc := 9) dX10_failHere_9 rfl rfl ?_
    exact hq
theorem c_X10_failWord {k : Int32} (hq : Q (.inl (some (.int 0))) (Z (tp I a wf wt k (nI wf)) J n w)) : Cn g (d + 1) mX10_failWord [.ref 2, .int k] (Z (tp I a wf wt fk fp) J n w) Q := by
  show Rn g (d + 1) mX10_failWord 0 [.ref 2, .int k] [] [] (Z (tp I a wf wt fk fp) J n w) Q
  refine s_aload_n (pc := 0) (i := 0) dX10_failWord_0 rfl rfl ?_
  refine s_iload_n (pc := 1) (i := 1) dX10_failWord_1 rfl rfl ?_
  refine s_aload_n (pc := 2) (i := 0) dX10_failWord_2 rfl rfl ?_
  refine m_gi (pc := 3) dX10_failWord_3 ff_X10_53 rfl o_2 ?_
  refine m_nm (v' := nI wf) rfl ?_
  refine m_v2 (pc := 6) dX10_failWord_6 lk_X10_38 ok_X10_fail (rcO o_2 (by decide) rfl) rfl rfl (c_X10_fail (kt_s ?_))
  · refine s_ireturn (pc := 9) dX10_failWord_9 rfl rfl ?_
    exact hq
theorem c_X10_faultAnswer (hq : Q (.inl (some (.int (fk - 10)))) (Z (tp I a wf wt fk fp) J n w)) : Cn g (d + 0) mX10_faultAnswer [.ref 2] (Z (tp I a wf wt fk fp) J n w) Q := by
  show Rn g (d + 0) mX10_faultAnswer 0 [.ref 2] [] [] (Z (tp I a wf wt fk fp) J n w) Q
  refine s_aload_n (pc := 0) (i := 0) dX10_faultAnswer_0 rfl rfl ?_
  refine m_gi (pc := 1) dX10_faultAnswer_1 ff_X10_28 rfl o_2 ?_
  refine m_nm (v' := fk) rfl ?_
  refine m_bi (pc := 4) (v := 10) dX10_faultAnswer_4 rfl ?_
  refine s_isub (pc := 6) dX10_faultAnswer_6 ?_
  refine s_ireturn (pc := 7) dX10_faultAnswer_7 rfl rfl ?_
  exact hq
theorem c_X10_isAtEnd (hx : tx I t N) (ha : a ≤ N) (ht : a = N → Q (.inl (some (.int 1))) (Z (tp I a wf wt fk fp) J n w)) (hf : a < N → Q (.inl (some (.int 0))) (Z (tp I a wf wt fk fp) J n w)) : Cn g (d + 0) mX10_isAtEnd [.ref 2] (Z (tp I a wf wt fk fp) J n w) Q := by
  have hN := hx.1
  show Rn g (d + 0) mX10_isAtEnd 0 [.ref 2] [] [] (Z (tp I a wf wt fk fp) J n w) Q
  refine s_aload_n (pc := 0) (i := 0) dX10_isAtEnd_0 rfl rfl ?_
  refine m_gi (pc := 1) dX10_isAtEnd_1 ff_X10_25 rfl o_2 ?_
  refine m_nm (v' := nI a) rfl ?_
  refine s_aload_n (pc := 4) (i := 0) dX10_isAtEnd_4 rfl rfl ?_
  refine m_gi (pc := 5) dX10_isAtEnd_5 ff_X10_22 rfl o_2 ?_
  refine m_nm (v' := nI N) (tx_N hx) ?_
  refine s_iclt (pc := 8) (tgt := 15) dX10_isAtEnd_8 rfl (fun h8 => ?_) (fun h8 => ?_)
  · refine m_ic (pc := 15) (v := 0) dX10_isAtEnd_15 rfl ?_
    refine s_ireturn (pc := 16) dX10_isAtEnd_16 rfl rfl ?_
    first | exact hf ((nI_ltI (by omega) (by omega)).mp h8) | exact ht (by have := mt (nI_ltI (a := a) (b := N) (by omega) (by omega)).mpr h8; omega)
  · refine m_ic (pc := 11) (v := 1) dX10_isAtEnd_11 rfl ?_
    refine s_goto (pc := 12) (tgt := 16) dX10_isAtEnd_12 rfl ?_
    refine s_ireturn (pc := 16) dX10_isAtEnd_16 rfl rfl ?_
    first | exact hf ((nI_ltI (by omega) (by omega)).mp h8) | exact ht (by have := mt (nI_ltI (a := a) (b := N) (by omega) (by omega)).mpr h8; omega)
theorem c_X10_isAt {c : Nat} (hx : tx I t N) (ha : a ≤ N) (hc : c < 128) (ht : a < N → t a = c → Q (.inl (some (.int 1))) (Z (tp I a wf wt fk fp) J n w)) (hf : (a = N ∨ t a ≠ c) → Q (.inl (some (.int 0))) (Z (tp I a wf wt fk fp) J n w)) : Cn g (d + 0) mX10_isAt [.ref 2, .int (nI c)] (Z (tp I a wf wt fk fp) J n w) Q := by
  have hN := hx.1
  show Rn g (d + 0) mX10_isAt 0 [.ref 2, .int (nI c)] [] [] (Z (tp I a wf wt fk fp) J n w) Q
  refine s_aload_n (pc := 0) (i := 0) dX10_isAt_0 rfl rfl ?_
  refine m_gi (pc := 1) dX10_isAt_1 ff_X10_25 rfl o_2 ?_
  refine m_nm (v' := nI a) rfl ?_
  refine s_aload_n (pc := 4) (i := 0) dX10_isAt_4 rfl rfl ?_
  refine m_gi (pc := 5) dX10_isAt_5 ff_X10_22 rfl o_2 ?_
  refine m_nm (v' := nI N) (tx_N hx) ?_
  refine s_icge (pc := 8) (tgt := 28) dX10_isAt_8 rfl (fun h8 => ?_) (fun h8 => ?_)
  · refine m_ic (pc := 28) (v := 0) dX10_isAt_28 rfl ?_
    refine s_ireturn (pc := 29) dX10_isAt_29 rfl rfl ?_
    first | exact hf (Or.inl (by have := (nI_leI (a := N) (b := a) (by omega) (by omega)).mp h8; omega)) | exact hf (Or.inr (fun e => h21 ((sb_eq c hc _ hb).mpr e))) | exact ht h8 ((sb_eq c hc _ hb).mp h21)
  · have h8 : a < N := by have := mt (nI_leI (a := N) (b := a) (by omega) (by omega)).mpr h8; omega
    have hb := tx_c hx h8
    refine s_aload_n (pc := 11) (i := 0) dX10_isAt_11 rfl rfl ?_
    refine m_gr (pc := 12) dX10_isAt_12 ff_X10_9 rfl o_2 r_2_0 ?_
    refine s_aload_n (pc := 15) (i := 0) dX10_isAt_15 rfl rfl ?_
    refine m_gi (pc := 16) dX10_isAt_16 ff_X10_25 rfl o_2 ?_
    refine m_nm (v' := nI a) rfl ?_
    refine m_ba (pc := 19) dX10_isAt_19 a_3 (vp_in_nI (n := a) (by omega) (by decide)) ?_
    refine m_nm (v' := sb_b (t (a))) (tx_r hx (by omega)) ?_
    refine s_iload_n (pc := 20) (i := 1) dX10_isAt_20 rfl rfl ?_
    refine s_icne (pc := 21) (tgt := 28) dX10_isAt_21 rfl (fun h21 => ?_) (fun h21 => ?_)
    · refine m_ic (pc := 28) (v := 0) dX10_isAt_28 rfl ?_
      refine s_ireturn (pc := 29) dX10_isAt_29 rfl rfl ?_
      first | exact hf (Or.inl (by have := (nI_leI (a := N) (b := a) (by omega) (by omega)).mp h8; omega)) | exact hf (Or.inr (fun e => h21 ((sb_eq c hc _ hb).mpr e))) | exact ht h8 ((sb_eq c hc _ hb).mp h21)
    · refine m_ic (pc := 24) (v := 1) dX10_isAt_24 rfl ?_
      refine s_goto (pc := 25) (tgt := 29) dX10_isAt_25 rfl ?_
      refine s_ireturn (pc := 29) dX10_isAt_29 rfl rfl ?_
      first | exact hf (Or.inl (by have := (nI_leI (a := N) (b := a) (by omega) (by omega)).mp h8; omega)) | exact hf (Or.inr (fun e => h21 ((sb_eq c hc _ hb).mpr e))) | exact ht h8 ((sb_eq c hc _ hb).mp h21)
/-- a digit; a small letter -/
def dg (c : Nat) : Bool := decide (48 ≤ c ∧ c ≤ 57)
def sm (c : Nat) : Bool := decide (97 ≤ c ∧ c ≤ 122)
theorem dg_1 : ∀ c, c < 256 → (¬ sb_b c < 48 ∧ ¬ 57 < sb_b c ↔ dg c = true) := by decide +kernel
theorem sm_1 : ∀ c, c < 256 → (¬ sb_b c < 97 ∧ ¬ 122 < sb_b c ↔ sm c = true) := by decide +kernel
theorem c_X10_isAtDigit (hx : tx I t N) (ha : a ≤ N) (ht : a < N → dg (t a) = true → Q (.inl (some (.int 1))) (Z (tp I a wf wt fk fp) J n w)) (hf : (a = N ∨ dg (t a) = false) → Q (.inl (some (.int 0))) (Z (tp I a wf wt fk fp) J n w)) : Cn g (d + 0) mX10_isAtDigit [.ref 2] (Z (tp I a wf wt fk fp) J n w) Q := by
  have hN := hx.1
  show Rn g (d + 0) mX10_isAtDigit 0 [.ref 2] [] [] (Z (tp I a wf wt fk fp) J n w) Q
  refine s_aload_n (pc := 0) (i := 0) dX10_isAtDigit_0 rfl rfl ?_
  refine m_gi (pc := 1) dX10_isAtDigit_1 ff_X10_25 rfl o_2 ?_
  refine m_nm (v' := nI a) rfl ?_
  refine s_aload_n (pc := 4) (i := 0) dX10_isAtDigit_4 rfl rfl ?_
  refine m_gi (pc := 5) dX10_isAtDigit_5 ff_X10_22 rfl o_2 ?_
  refine m_nm (v' := nI N) (tx_N hx) ?_
  refine s_icge (pc := 8) (tgt := 43) dX10_isAtDigit_8 rfl (fun h8 => ?_) (fun h8 => ?_)
  · refine m_ic (pc := 43) (v := 0) dX10_isAtDigit_43 rfl ?_
    refine s_ireturn (pc := 44) dX10_isAtDigit_44 rfl rfl ?_
    first | exact hf (Or.inl (by have := (nI_leI (a := N) (b := a) (by omega) (by omega)).mp h8; omega)) | exact ht h8 ((dg_1 _ hb).mp ⟨h22, h36⟩) | exact hf (Or.inr (Bool.eq_false_iff.mpr (fun e => ((dg_1 _ hb).mpr e).1 h22))) | exact hf (Or.inr (Bool.eq_false_iff.mpr (fun e => ((dg_1 _ hb).mpr e).2 h36)))
  · have h8 : a < N := by have := mt (nI_leI (a := N) (b := a) (by omega) (by omega)).mpr h8; omega
    have hb := tx_c hx h8
    refine s_aload_n (pc := 11) (i := 0) dX10_isAtDigit_11 rfl rfl ?_
    refine m_gr (pc := 12) dX10_isAtDigit_12 ff_X10_9 rfl o_2 r_2_0 ?_
    refine s_aload_n (pc := 15) (i := 0) dX10_isAtDigit_15 rfl rfl ?_
    refine m_gi (pc := 16) dX10_isAtDigit_16 ff_X10_25 rfl o_2 ?_
    refine m_nm (v' := nI a) rfl ?_
    refine m_ba (pc := 19) dX10_isAtDigit_19 a_3 (vp_in_nI (n := a) (by omega) (by decide)) ?_
    refine m_nm (v' := sb_b (t (a))) (tx_r hx (by omega)) ?_
    refine m_bi (pc := 20) (v := 48) dX10_isAtDigit_20 rfl ?_
    refine s_iclt (pc := 22) (tgt := 43) dX10_isAtDigit_22 rfl (fun h22 => ?_) (fun h22 => ?_)
    · refine m_ic (pc := 43) (v := 0) dX10_isAtDigit_43 rfl ?_
      refine s_ireturn (pc := 44) dX10_isAtDigit_44 rfl rfl ?_
      first | exact hf (Or.inl (by have := (nI_leI (a := N) (b := a) (by omega) (by omega)).mp h8; omega)) | exact ht h8 ((dg_1 _ hb).mp ⟨h22, h36⟩) | exact hf (Or.inr (Bool.eq_false_iff.mpr (fun e => ((dg_1 _ hb).mpr e).1 h22))) | exact hf (Or.inr (Bool.eq_false_iff.mpr (fun e => ((dg_1 _ hb).mpr e).2 h36)))
    · refine s_aload_n (pc := 25) (i := 0) dX10_isAtDigit_25 rfl rfl ?_
      refine m_gr (pc := 26) dX10_isAtDigit_26 ff_X10_9 rfl o_2 r_2_0 ?_
      refine s_aload_n (pc := 29) (i := 0) dX10_isAtDigit_29 rfl rfl ?_
      refine m_gi (pc := 30) dX10_isAtDigit_30 ff_X10_25 rfl o_2 ?_
      refine m_nm (v' := nI a) rfl ?_
      refine m_ba (pc := 33) dX10_isAtDigit_33 a_3 (vp_in_nI (n := a) (by omega) (by decide)) ?_
      refine m_nm (v' := sb_b (t (a))) (tx_r hx (by omega)) ?_
      refine m_bi (pc := 34) (v := 57) dX10_isAtDigit_34 rfl ?_
      refine s_icgt (pc := 36) (tgt := 43) dX10_isAtDigit_36 rfl (fun h36 => ?_) (fun h36 => ?_)
      · refine m_ic (pc := 43) (v := 0) dX10_isAtDigit_43 rfl ?_
        refine s_ireturn (pc := 44) dX10_isAtDigit_44 rfl rfl ?_
        first | exact hf (Or.inl (by have := (nI_leI (a := N) (b := a) (by omega) (by omega)).mp h8; omega)) | exact ht h8 ((dg_1 _ hb).mp ⟨h22, h36⟩) | exact hf (Or.inr (Bool.eq_false_iff.mpr (fun e => ((dg_1 _ hb).mpr e).1 h22))) | exact hf (Or.inr (Bool.eq_false_iff.mpr (fun e => ((dg_1 _ hb).mpr e).2 h36)))
      · refine m_ic (pc := 39) (v := 1) dX10_isAtDigit_39 rfl ?_
        refine s_goto (pc := 40) (tgt := 44) dX10_isAtDigit_40 rfl ?_
        refine s_ireturn (pc := 44) dX10_isAtDigit_44 rfl rfl ?_
        first | exact hf (Or.inl (by have := (nI_leI (a := N) (b := a) (by omega) (by omega)).mp h8; omega)) | exact ht h8 ((dg_1 _ hb).mp ⟨h22, h36⟩) | exact hf (Or.inr (Bool.eq_false_iff.mpr (fun e => ((dg_1 _ hb).mpr e).1 h22))) | exact hf (Or.inr (Bool.eq_false_iff.mpr (fun e => ((dg_1 _ hb).mpr e).2 h36)))
theorem c_X10_sign (hx : tx I t N) (ha : a < N) (hq : Q (.inl (some (.int (sb_b (t a))))) (Z (tp I a wf wt fk fp) J n w)) : Cn g (d + 0) mX10_sign [.ref 2] (Z (tp I a wf wt fk fp) J n w) Q := by
  have hN := hx.1
  show Rn g (d + 0) mX10_sign 0 [.ref 2] [] [] (Z (tp I a wf wt fk fp) J n w) Q
  refine s_aload_n (pc := 0) (i := 0) dX10_sign_0 rfl rfl ?_
  refine m_gi (pc := 1) dX10_sign_1 ff_X10_25 rfl o_2 ?_
  refine m_nm (v' := nI a) rfl ?_
  refine s_aload_n (pc := 4) (i := 0) dX10_sign_4 rfl rfl ?_
  refine m_gi (pc := 5) dX10_sign_5 ff_X10_22 rfl o_2 ?_
  refine m_nm (v' := nI N) (tx_N hx) ?_
  refine s_icge (pc := 8) (tgt := 23) dX10_sign_8 rfl (fun h8 => absurd h8 (nI_ge (by omega) (by omega))) (fun h8 => ?_)
  refine s_aload_n (pc := 11) (i := 0) dX10_sign_11 rfl rfl ?_
  refine m_gr (pc := 12) dX10_sign_12 ff_X10_9 rfl o_2 r_2_0 ?_
  refine s_aload_n (pc := 15) (i := 0) dX10_sign_15 rfl rfl ?_
  refine m_gi (pc := 16) dX10_sign_16 ff_X10_25 rfl o_2 ?_
  refine m_nm (v' := nI a) rfl ?_
  refine m_ba (pc := 19) dX10_sign_19 a_3 (vp_in_nI (n := a) (by omega) (by decide)) ?_
  refine m_nm (v' := sb_b (t (a))) (tx_r hx (by omega)) ?_
  refine s_goto (pc := 20) (tgt := 24) dX10_sign_20 rfl ?_
  refine s_ireturn (pc := 24) dX10_sign_24 rfl rfl ?_
  exact hq
theorem c_X10_step (hx : tx I t N) (ha : a < N) (hq : Q (.inl none) (Z (tp I (sk t N (a + 1)) wf wt fk fp) J n w)) : Cn g (d + 1) mX10_step [.ref 2] (Z (tp I a wf wt fk fp) J n w) Q := by
  have hN := hx.1
  show Rn g (d + 1) mX10_step 0 [.ref 2] [] [] (Z (tp I a wf wt fk fp) J n w) Q
  refine s_aload_n (pc := 0) (i := 0) dX10_step_0 rfl rfl ?_
  refine m_gi (pc := 1) dX10_step_1 ff_X10_25 rfl o_2 ?_
  refine m_nm (v' := nI a) rfl ?_
  refine s_aload_n (pc := 4) (i := 0) dX10_step_4 rfl rfl ?_
  refine m_gi (pc := 5) dX10_step_5 ff_X10_22 rfl o_2 ?_
  refine m_nm (v' := nI N) (tx_N hx) ?_
  refine s_icge (pc := 8) (tgt := 21) dX10_step_8 rfl (fun h8 => absurd h8 (nI_ge (by omega) (by omega))) (fun h8 => ?_)
  refine s_aload_n (pc := 11) (i := 0) dX10_step_11 rfl rfl ?_
  refine s_dup (pc := 12) dX10_step_12 rfl ?_
  refine m_gi (pc := 13) dX10_step_13 ff_X10_25 rfl o_2 ?_
  refine m_nm (v' := nI a) rfl ?_
  refine m_ic (pc := 16) (v := 1) dX10_step_16 rfl ?_
  refine s_iadd (pc := 17) dX10_step_17 ?_
  refine m_nm (v' := nI (a + 1)) (nI_1 a) ?_
  refine m_pi (pc := 18) dX10_step_18 ff_X10_25 rfl rfl o_2 ?_
  refine Rs_cg tp_a ?_
  refine s_aload_n (pc := 21) (i := 0) dX10_step_21 rfl rfl ?_
  refine m_v0 (pc := 22) dX10_step_22 lk_X10_31 ok_X10_skipBlanks (rcO o_2 (by decide) rfl) rfl rfl (c_X10_skipBlanks hx (by omega) (kt_v ?_))
  refine s_return (pc := 25) dX10_step_25 rfl ?_
  exact hq
theorem c_X10_needSign {c : Nat} (hx : tx I t N) (ha : a ≤ N) (hc : c < 128) (ht : a < N → t a = c → Q (.inl (some (.int 1))) (Z (tp I (sk t N (a + 1)) wf wt fk fp) J n w)) (hf : (a = N ∨ t a ≠ c) → Q (.inl (some (.int 0))) (Z (tp I a wf wt 1 (nI a)) J n w)) : Cn g (d + 1) mX10_needSign [.ref 2, .int (nI c)] (Z (tp I a wf wt fk fp) J n w) Q := by
  have hN := hx.1
  show Rn g (d + 1) mX10_needSign 0 [.ref 2, .int (nI c)] [] [] (Z (tp I a wf wt fk fp) J n w) Q
  refine s_aload_n (pc := 0) (i := 0) dX10_needSign_0 rfl rfl ?_
  refine s_iload_n (pc := 1) (i := 1) dX10_needSign_1 rfl rfl ?_
  refine m_v1 (pc := 2) dX10_needSign_2 lk_X10_34 ok_X10_isAt (rcO o_2 (by decide) rfl) rfl rfl (c_X10_isAt hx ha hc (fun h1 h2 => kt_s ?_) (fun h1 => kt_s ?_))
  · refine s_ifne (pc := 5) (tgt := 18) dX10_needSign_5 rfl (fun h5 => ?_) (fun h5 => absurd h5 (by decide))
    refine s_aload_n (pc := 18) (i := 0) dX10_needSign_18 rfl rfl ?_
    refine s_dup (pc := 19) dX10_needSign_19 rfl ?_
    refine m_gi (pc := 20) dX10_needSign_20 ff_X10_25 rfl o_2 ?_
    refine m_nm (v' := nI a) rfl ?_
    refine m_ic (pc := 23) (v := 1) dX10_needSign_23 rfl ?_
    refine s_iadd (pc := 24) dX10_needSign_24 ?_
    refine m_nm (v' := nI (a + 1)) (nI_1 a) ?_
    refine m_pi (pc := 25) dX10_needSign_25 ff_X10_25 rfl rfl o_2 ?_
    refine Rs_cg tp_a ?_
    refine s_aload_n (pc := 28) (i := 0) dX10_needSign_28 rfl rfl ?_
    refine m_v0 (pc := 29) dX10_needSign_29 lk_X10_31 ok_X10_skipBlanks (rcO o_2 (by decide) rfl) rfl rfl (c_X10_skipBlanks hx (by omega) (kt_v ?_))
    refine m_ic (pc := 32) (v := 1) dX10_needSign_32 rfl ?_
    refine s_ireturn (pc := 33) dX10_needSign_33 rfl rfl ?_
    exact ht h1 h2
  · refine s_ifne (pc := 5) (tgt := 18) dX10_needSign_5 rfl (fun h5 => absurd h5 (by decide)) (fun h5 => ?_)
    refine s_aload_n (pc := 8) (i := 0) dX10_needSign_8 rfl rfl ?_
    refine m_ic (pc := 9) (v := 1) dX10_needSign_9 rfl ?_
    refine s_aload_n (pc := 10) (i := 0) dX10_needSign_10 rfl rfl ?_
    refine m_gi (pc := 11) dX10_needSign_11 ff_X10_25 rfl o_2 ?_
    refine m_nm (v' := nI a) rfl ?_
    refine m_v2 (pc := 14) dX10_needSign_14 lk_X10_38 ok_X10_fail (rcO o_2 (by decide) rfl) rfl rfl (c_X10_fail (kt_s ?_))
    · refine s_ireturn (pc := 17) dX10_needSign_17 rfl rfl ?_
      exact hf h1
end S
