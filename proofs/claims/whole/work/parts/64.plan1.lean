section S
variable {g : aG} {d : Nat} {I : Nat → Nat → Int32} {J : Nat → Nat → Int64} {n w : Nat} {Q : aO → aS → Prop}
variable {t : Nat → Nat} {N a wf wt s : Nat} {fk fp : Int32} {σ : aS} {D : cD} {β : Type}
/-- the class's rows from s on hold these steps -/
def PcL (sp : (Nat → Nat → Int32) → β → Nat → Prop) (ln : β → Nat) (I : Nat → Nat → Int32) : List (iT β) → Nat → Prop
  | [], _ => True
  | .inl (k, u, v) :: r, s => I 27 s = nI k ∧ I 28 s = nI u ∧ I 29 s = nI v ∧ PcL sp ln I r (s + 1)
  | .inr (v, x) :: r, s => I 27 s = 5 ∧ I 28 s = nI v ∧ I 29 s = nI (s + 1 + ln x) ∧ sp I x (s + 1) ∧ I 27 (s + 1 + ln x) = 6 ∧ I 28 (s + 1 + ln x) = nI s ∧ PcL sp ln I r (s + 2 + ln x)
def PcT : (L : Nat) → (Nat → Nat → Int32) → TB L → Nat → Prop
  | 0 => fun _ e => nomatch e
  | L + 1 => PcL (PcT L) (clT L)
def pF (sp : (Nat → Nat → Int32) → β → Nat → Prop) (ln : β → Nat) : Prop := ∀ (I I' : Nat → Nat → Int32) x s, (∀ y j, (y = 27 ∨ y = 28 ∨ y = 29) → s ≤ j → j < s + ln x → I' y j = I y j) → sp I x s → sp I' x s
theorem PcL_fr {sp : (Nat → Nat → Int32) → β → Nat → Prop} {ln : β → Nat} (hs : pF sp ln) : ∀ l s (I I' : Nat → Nat → Int32), (∀ y j, (y = 27 ∨ y = 28 ∨ y = 29) → s ≤ j → j < s + cln ln l → I' y j = I y j) → PcL sp ln I l s → PcL sp ln I' l s
  | [], _, _, _, _, _ => trivial
  | .inl (k, u, v) :: r, s, I, I', hf, h => by
    simp only [cln] at hf
    obtain ⟨h1, h2, h3, h4⟩ := h
    exact ⟨by rw [hf _ _ (by omega) (by omega) (by omega)]; exact h1, by rw [hf _ _ (by omega) (by omega) (by omega)]; exact h2, by rw [hf _ _ (by omega) (by omega) (by omega)]; exact h3, PcL_fr hs r _ I I' (fun y j z z1 z2 => hf y j z (by omega) (by omega)) h4⟩
  | .inr (v, x) :: r, s, I, I', hf, h => by
    simp only [cln] at hf
    obtain ⟨h1, h2, h3, h4, h5, h6, h7⟩ := h
    exact ⟨by rw [hf _ _ (by omega) (by omega) (by omega)]; exact h1, by rw [hf _ _ (by omega) (by omega) (by omega)]; exact h2, by rw [hf _ _ (by omega) (by omega) (by omega)]; exact h3, hs I I' x (s + 1) (fun y j z z1 z2 => hf y j z (by omega) (by omega)) h4, by rw [hf _ _ (by omega) (by omega) (by omega)]; exact h5, by rw [hf _ _ (by omega) (by omega) (by omega)]; exact h6, PcL_fr hs r _ I I' (fun y j z z1 z2 => hf y j z (by omega) (by omega)) h7⟩
theorem pF_L {sp : (Nat → Nat → Int32) → β → Nat → Prop} {ln : β → Nat} (hs : pF sp ln) : pF (PcL sp ln) (cln ln) := fun I I' x s h1 h2 => PcL_fr hs x s I I' h1 h2
theorem pF_T : ∀ L, pF (PcT L) (clT L)
  | 0 => fun _ _ e => nomatch e
  | L + 1 => pF_L (pF_T L)
def fP (s : Nat) (I I' : Nat → Nat → Int32) : Prop := ∀ x j, (x = 27 ∨ x = 28 ∨ x = 29) → j < s → I' x j = I x j
theorem fP_t {s s' : Nat} {I' I'' : Nat → Nat → Int32} (h : fP s I I') (hs : s ≤ s') (h2 : fP s' I' I'') : fP s I I'' := fun x j z z1 => (h2 x j z (by omega)).trans (h x j z z1)
theorem cln_c {ln : β → Nat} {x : iT β} {r : List (iT β)} : cln ln (x :: r) = cln ln [x] + cln ln r := by
  cases x with
  | inl s => simp [cln]
  | inr s => obtain ⟨v, y⟩ := s; simp [cln]
theorem PcL_c {sp : (Nat → Nat → Int32) → β → Nat → Prop} {ln : β → Nat} {x : iT β} {r : List (iT β)} (h1 : PcL sp ln I [x] s) (h2 : PcL sp ln I r (s + cln ln [x])) : PcL sp ln I (x :: r) s := by
  cases x with
  | inl y =>
    obtain ⟨k, u, v⟩ := y
    obtain ⟨a1, a2, a3, _⟩ := h1
    exact ⟨a1, a2, a3, h2⟩
  | inr y =>
    obtain ⟨v, y⟩ := y
    obtain ⟨a1, a2, a3, a4, a5, a6, _⟩ := h1
    simp only [cln, Nat.add_zero] at h2
    rw [show s + (2 + ln y) = s + 2 + ln y by omega] at h2
    exact ⟨a1, a2, a3, a4, a5, a6, h2⟩
def cSt (g : aG) (k : Nat) (t : Nat → Nat) (N : Nat) (D : cD) (ln : β → Nat) (sp : (Nat → Nat → Int32) → β → Nat → Prop) (R : Nat → eT (iT β)) (dep : Int32) : Prop := ∀ (d : Nat) (I : Nat → Nat → Int32) (J : Nat → Nat → Int64) (n w : Nat) (Q : aO → aS → Prop) (a wf wt : Nat) (fk fp : Int32) (s : Nat), tx I t N → a ≤ N → N ≤ 150 → Co I 4 D → cOk D → I 26 4 = nI s → 2 * s ≤ a →
  (∀ e a' wf' wt' I', R a = .inl e → fC I I' → Q (.inl (some (.int 0))) (Z (tp I' a' wf' wt' (nI e.1) (nI e.2)) J n w)) →
  (∀ p x I' wf' wt', R a = .inr (p, x) → fC I I' → fP s I I' → I' 26 4 = nI (s + cln ln [x]) → PcL sp ln I' [x] s → Q (.inl (some (.int 1))) (Z (tp I' p wf' wt' fk fp) J n w)) → Cn g (d + k) mX6_readStep [.ref 26, .ref 2, .ref 4, .int dep] (Z (tp I a wf wt fk fp) J n w) Q
def cSs (g : aG) (k : Nat) (t : Nat → Nat) (N : Nat) (D : cD) (ln : β → Nat) (sp : (Nat → Nat → Int32) → β → Nat → Prop) (R : Nat → eT (List (iT β))) (dep : Int32) : Prop := ∀ (d : Nat) (I : Nat → Nat → Int32) (J : Nat → Nat → Int64) (n w : Nat) (Q : aO → aS → Prop) (a wf wt : Nat) (fk fp : Int32) (s : Nat), tx I t N → a ≤ N → N ≤ 150 → Co I 4 D → cOk D → I 26 4 = nI s → 2 * s ≤ a →
  (∀ e a' wf' wt' I', R a = .inl e → fC I I' → Q (.inl (some (.int 0))) (Z (tp I' a' wf' wt' (nI e.1) (nI e.2)) J n w)) →
  (∀ p x I' wf' wt', R a = .inr (p, x) → fC I I' → fP s I I' → I' 26 4 = nI (s + cln ln x) → PcL sp ln I' x s → Q (.inl (some (.int 1))) (Z (tp I' p wf' wt' fk fp) J n w)) → Cn g (d + k) mX6_readSteps [.ref 26, .ref 2, .ref 4, .int dep] (Z (tp I a wf wt fk fp) J n w) Q
theorem c_X6_add {x y z : Int32} (hx : tx I t N) (hs : I 26 4 = nI s) (hs2 : s < 150) (hq : ∀ I', fC I I' → tx I' t N → fP s I I' → I' 26 4 = nI (s + 1) → I' 27 s = x → I' 28 s = y → I' 29 s = z → Q (.inl (some (.int 1))) (Z (tp I' a wf wt fk fp) J n w)) : Cn g (d + 0) mX6_add [.ref 26, .int x, .int y, .int z] (Z (tp I a wf wt fk fp) J n w) Q := by
  show Rn g (d + 0) mX6_add 0 [.ref 26, .int x, .int y, .int z] [] [] (Z (tp I a wf wt fk fp) J n w) Q
  refine s_aload_n (pc := 0) (i := 0) dX6_add_0 rfl rfl ?_
  refine m_gi (pc := 1) dX6_add_1 ff_X6_24 rfl o_26 ?_
  refine m_nm (v' := nI s) (by rw [tp_o (by decide)]; exact hs) ?_
  refine m_si (pc := 4) (v := 150) dX6_add_4 rfl ?_
  refine s_icge (pc := 7) (tgt := 50) dX6_add_7 rfl (fun h7 => absurd h7 (nI_ge (a := s) (b := 150) (by omega) (by omega))) (fun h7 => ?_)
  refine s_aload_n (pc := 10) (i := 0) dX6_add_10 rfl rfl ?_
  refine m_gr (pc := 11) dX6_add_11 ff_X6_9 rfl o_26 r_26_0 ?_
  refine s_aload_n (pc := 14) (i := 0) dX6_add_14 rfl rfl ?_
  refine m_gi (pc := 15) dX6_add_15 ff_X6_24 rfl o_26 ?_
  refine m_nm (v' := nI s) (by rw [tp_o (by decide)]; exact hs) ?_
  refine s_iload_n (pc := 18) (i := 1) dX6_add_18 rfl rfl ?_
  refine m_is (pc := 19) dX6_add_19 a_27 (vp_in_nI (n := s) (by omega) (by decide)) ?_
  rw [nI_clamp (n := s) (by omega)]
  refine st_tp hx (by decide) (by decide) (fun I19 e19 hx => ?_)
  refine s_aload_n (pc := 20) (i := 0) dX6_add_20 rfl rfl ?_
  refine m_gr (pc := 21) dX6_add_21 ff_X6_15 rfl o_26 r_26_1 ?_
  refine s_aload_n (pc := 24) (i := 0) dX6_add_24 rfl rfl ?_
  refine m_gi (pc := 25) dX6_add_25 ff_X6_24 rfl o_26 ?_
  refine m_nm (v' := nI s) (by rw [tp_o (by decide), e19, up_a (by decide)]; exact hs) ?_
  refine s_iload_n (pc := 28) (i := 2) dX6_add_28 rfl rfl ?_
  refine m_is (pc := 29) dX6_add_29 a_28 (vp_in_nI (n := s) (by omega) (by decide)) ?_
  rw [nI_clamp (n := s) (by omega)]
  refine st_tp hx (by decide) (by decide) (fun I29 e29 hx => ?_)
  refine s_aload_n (pc := 30) (i := 0) dX6_add_30 rfl rfl ?_
  refine m_gr (pc := 31) dX6_add_31 ff_X6_18 rfl o_26 r_26_2 ?_
  refine s_aload_n (pc := 34) (i := 0) dX6_add_34 rfl rfl ?_
  refine m_gi (pc := 35) dX6_add_35 ff_X6_24 rfl o_26 ?_
  refine m_nm (v' := nI s) (by rw [tp_o (by decide), e29, up_a (by decide), e19, up_a (by decide)]; exact hs) ?_
  refine s_iload_n (pc := 38) (i := 3) dX6_add_38 rfl rfl ?_
  refine m_is (pc := 39) dX6_add_39 a_29 (vp_in_nI (n := s) (by omega) (by decide)) ?_
  rw [nI_clamp (n := s) (by omega)]
  refine st_tp hx (by decide) (by decide) (fun I39 e39 hx => ?_)
  refine s_aload_n (pc := 40) (i := 0) dX6_add_40 rfl rfl ?_
  refine s_dup (pc := 41) dX6_add_41 rfl ?_
  refine m_gi (pc := 42) dX6_add_42 ff_X6_24 rfl o_26 ?_
  refine m_nm (v' := nI s) (by rw [tp_o (by decide), e39, up_a (by decide), e29, up_a (by decide), e19, up_a (by decide)]; exact hs) ?_
  refine m_ic (pc := 45) (v := 1) dX6_add_45 rfl ?_
  refine s_iadd (pc := 46) dX6_add_46 ?_
  refine m_nm (v' := nI (s + 1)) (nI_add s 1) ?_
  refine m_pi (pc := 47) dX6_add_47 ff_X6_24 rfl rfl o_26 ?_
  refine st_tp hx (by decide) (by decide) (fun I47 e47 hx => ?_)
  refine m_ic (pc := 50) (v := 1) dX6_add_50 rfl ?_
  refine s_ireturn (pc := 51) dX6_add_51 rfl rfl ?_
  subst e47; subst e39; subst e29; subst e19
  exact hq _ (fC_u (fC_u (fC_u (fC_u fC_r (by decide)) (by decide)) (by decide)) (by decide)) hx (fun x j z1 z2 => by rw [up_a (by omega), up_n3 (by omega), up_n3 (by omega), up_n3 (by omega)]) up_s (by rw [up_a (by decide), up_a (by decide), up_a (by decide), up_s]) (by rw [up_a (by decide), up_a (by decide), up_s]) (by rw [up_a (by decide), up_s])
theorem c_X6_readNumber {x y : Int32} {h1 : Nat} (hx : tx I t N) (ha : a ≤ N) (hs : I 26 4 = nI s) (hs2 : s < 150) (e1 : y = nI h1 - 1) (hh : h1 ≤ 10000) (hb : ∀ e a', nR t N a 0 h1 = .inl e → Q (.inl (some (.int 0))) (Z (tp I a' wf wt (nI e.1) (nI e.2)) J n w)) (hg : ∀ v p I', nR t N a 0 h1 = .inr (v, p) → p ≤ N → fC I I' → tx I' t N → fP s I I' → I' 26 4 = nI (s + 1) → I' 27 s = x → I' 28 s = nI v → I' 29 s = nI 0 → Q (.inl (some (.int 1))) (Z (tp I' p wf wt fk fp) J n w)) : Cn g (d + 2) mX6_readNumber [.ref 26, .ref 2, .int x, .int y] (Z (tp I a wf wt fk fp) J n w) Q := by
  subst e1
  show Rn g (d + 2) mX6_readNumber 0 [.ref 26, .ref 2, .int x, .int (nI h1 - 1), .retAddr 0] [] [] (Z (tp I a wf wt fk fp) J n w) Q
  refine s_aload_n (pc := 0) (i := 1) dX6_readNumber_0 rfl rfl ?_
  refine m_ic (pc := 1) (v := 0) dX6_readNumber_1 rfl ?_
  refine s_iload_n (pc := 2) (i := 3) dX6_readNumber_2 rfl rfl ?_
  refine m_v2 (pc := 3) dX6_readNumber_3 lk_X6_137 ok_X10_needNumber (rcO o_2 (by decide) rfl) rfl rfl (c_nn hx ha (lo1 := 0) (hi1 := h1) rfl rfl (by omega) (fun e a1 q1 => kt_s ?_) (fun v p1 q1 v1 v2 v3 => kt_s ?_))
  · refine s_istore (pc := 6) (i := 4) dX6_readNumber_6 (Nat.le_of_ble_eq_true rfl) ?_
    dsimp only [List.set, List.filter]
    refine s_iload (pc := 8) (i := 4) dX6_readNumber_8 rfl ?_
    refine m_ic (pc := 10) (v := -1) dX6_readNumber_10 rfl ?_
    refine s_iceq (pc := 11) (tgt := 29) dX6_readNumber_11 rfl (fun h11 => ?_) (fun h11 => absurd h11 (by decide))
    refine m_ic (pc := 29) (v := 0) dX6_readNumber_29 rfl ?_
    refine s_ireturn (pc := 30) dX6_readNumber_30 rfl rfl ?_
    exact hb e a1 q1
  · refine s_istore (pc := 6) (i := 4) dX6_readNumber_6 (Nat.le_of_ble_eq_true rfl) ?_
    dsimp only [List.set, List.filter]
    refine s_iload (pc := 8) (i := 4) dX6_readNumber_8 rfl ?_
    refine m_ic (pc := 10) (v := -1) dX6_readNumber_10 rfl ?_
    refine s_iceq (pc := 11) (tgt := 29) dX6_readNumber_11 rfl (fun h11 => absurd h11 (nI_m1 (by omega))) (fun h11 => ?_)
    refine s_aload_n (pc := 14) (i := 0) dX6_readNumber_14 rfl rfl ?_
    refine s_iload_n (pc := 15) (i := 2) dX6_readNumber_15 rfl rfl ?_
    refine s_iload (pc := 16) (i := 4) dX6_readNumber_16 rfl ?_
    refine m_ic (pc := 18) (v := 0) dX6_readNumber_18 rfl ?_
    refine m_v3 (pc := 19) dX6_readNumber_19 lk_X6_125 ok_X6_add (rcO o_26 (by decide) rfl) rfl rfl (c_X6_add hx hs hs2 (fun I1 f1 x1 f2 w1 w2 w3 w4 => kt_s ?_))
    · refine s_ifeq (pc := 22) (tgt := 29) dX6_readNumber_22 rfl (fun h22 => absurd h22 (by decide)) (fun h22 => ?_)
      refine m_ic (pc := 25) (v := 1) dX6_readNumber_25 rfl ?_
      refine s_goto (pc := 26) (tgt := 30) dX6_readNumber_26 rfl ?_
      refine s_ireturn (pc := 30) dX6_readNumber_30 rfl rfl ?_
      exact hg v p1 I1 q1 v3 f1 x1 f2 w1 w2 w3 w4
theorem c_X6_readNumbers {x y z : Int32} {h1 h2 : Nat} (hx : tx I t N) (ha : a ≤ N) (hs : I 26 4 = nI s) (hs2 : s < 150) (e1 : y = nI h1 - 1) (e2 : z = nI h2 - 1) (hh : h1 ≤ 10000) (hh2 : h2 ≤ 10000) (hb : ∀ e a', ((nR t N a 0 h1 = .inl e) ∨ ∃ v q, nR t N a 0 h1 = .inr (v, q) ∧ nR t N q 0 h2 = .inl e) → Q (.inl (some (.int 0))) (Z (tp I a' wf wt (nI e.1) (nI e.2)) J n w)) (hg : ∀ v q u p I', nR t N a 0 h1 = .inr (v, q) → nR t N q 0 h2 = .inr (u, p) → p ≤ N → fC I I' → tx I' t N → fP s I I' → I' 26 4 = nI (s + 1) → I' 27 s = x → I' 28 s = nI v → I' 29 s = nI u → Q (.inl (some (.int 1))) (Z (tp I' p wf wt fk fp) J n w)) : Cn g (d + 2) mX6_readNumbers [.ref 26, .ref 2, .int x, .int y, .int z] (Z (tp I a wf wt fk fp) J n w) Q := by
  subst e1
  subst e2
  show Rn g (d + 2) mX6_readNumbers 0 [.ref 26, .ref 2, .int x, .int (nI h1 - 1), .int (nI h2 - 1), .retAddr 0, .retAddr 0] [] [] (Z (tp I a wf wt fk fp) J n w) Q
  refine s_aload_n (pc := 0) (i := 1) dX6_readNumbers_0 rfl rfl ?_
  refine m_ic (pc := 1) (v := 0) dX6_readNumbers_1 rfl ?_
  refine s_iload_n (pc := 2) (i := 3) dX6_readNumbers_2 rfl rfl ?_
  refine m_v2 (pc := 3) dX6_readNumbers_3 lk_X6_137 ok_X10_needNumber (rcO o_2 (by decide) rfl) rfl rfl (c_nn hx ha (lo1 := 0) (hi1 := h1) rfl rfl (by omega) (fun e a1 q1 => kt_s ?_) (fun v p1 q1 v1 v2 v3 => kt_s ?_))
  · refine s_istore (pc := 6) (i := 5) dX6_readNumbers_6 (Nat.le_of_ble_eq_true rfl) ?_
    dsimp only [List.set, List.filter]
    refine s_iload (pc := 8) (i := 5) dX6_readNumbers_8 rfl ?_
    refine m_ic (pc := 10) (v := -1) dX6_readNumbers_10 rfl ?_
    refine s_icne (pc := 11) (tgt := 16) dX6_readNumbers_11 rfl (fun h11 => absurd h11 (by decide)) (fun h11 => ?_)
    refine m_ic (pc := 14) (v := 0) dX6_readNumbers_14 rfl ?_
    refine s_ireturn (pc := 15) dX6_readNumbers_15 rfl rfl ?_
    exact hb e a1 (Or.inl q1)
  · refine s_istore (pc := 6) (i := 5) dX6_readNumbers_6 (Nat.le_of_ble_eq_true rfl) ?_
    dsimp only [List.set, List.filter]
    refine s_iload (pc := 8) (i := 5) dX6_readNumbers_8 rfl ?_
    refine m_ic (pc := 10) (v := -1) dX6_readNumbers_10 rfl ?_
    refine s_icne (pc := 11) (tgt := 16) dX6_readNumbers_11 rfl (fun h11 => ?_) (fun h11 => absurd h11 (nI_m1 (by omega)))
    refine s_aload_n (pc := 16) (i := 1) dX6_readNumbers_16 rfl rfl ?_
    refine m_ic (pc := 17) (v := 0) dX6_readNumbers_17 rfl ?_
    refine s_iload (pc := 18) (i := 4) dX6_readNumbers_18 rfl ?_
    refine m_v2 (pc := 20) dX6_readNumbers_20 lk_X6_137 ok_X10_needNumber (rcO o_2 (by decide) rfl) rfl rfl (c_nn hx v3 (lo1 := 0) (hi1 := h2) rfl rfl (by omega) (fun e a1 q2 => kt_s ?_) (fun u p2 q2 u1 u2 u3 => kt_s ?_))
    · refine s_istore (pc := 23) (i := 6) dX6_readNumbers_23 (Nat.le_of_ble_eq_true rfl) ?_
      dsimp only [List.set, List.filter]
      refine s_iload (pc := 25) (i := 6) dX6_readNumbers_25 rfl ?_
      refine m_ic (pc := 27) (v := -1) dX6_readNumbers_27 rfl ?_
      refine s_iceq (pc := 28) (tgt := 47) dX6_readNumbers_28 rfl (fun h28 => ?_) (fun h28 => absurd h28 (by decide))
      refine m_ic (pc := 47) (v := 0) dX6_readNumbers_47 rfl ?_
      refine s_ireturn (pc := 48) dX6_readNumbers_48 rfl rfl ?_
      exact hb e a1 (Or.inr ⟨v, p1, q1, q2⟩)
    · refine s_istore (pc := 23) (i := 6) dX6_readNumbers_23 (Nat.le_of_ble_eq_true rfl) ?_
      dsimp only [List.set, List.filter]
      refine s_iload (pc := 25) (i := 6) dX6_readNumbers_25 rfl ?_
      refine m_ic (pc := 27) (v := -1) dX6_readNumbers_27 rfl ?_
      refine s_iceq (pc := 28) (tgt := 47) dX6_readNumbers_28 rfl (fun h28 => absurd h28 (nI_m1 (by omega))) (fun h28 => ?_)
      refine s_aload_n (pc := 31) (i := 0) dX6_readNumbers_31 rfl rfl ?_
      refine s_iload_n (pc := 32) (i := 2) dX6_readNumbers_32 rfl rfl ?_
      refine s_iload (pc := 33) (i := 5) dX6_readNumbers_33 rfl ?_
      refine s_iload (pc := 35) (i := 6) dX6_readNumbers_35 rfl ?_
      refine m_v3 (pc := 37) dX6_readNumbers_37 lk_X6_125 ok_X6_add (rcO o_26 (by decide) rfl) rfl rfl (c_X6_add hx hs hs2 (fun I1 f1 x1 f2 w1 w2 w3 w4 => kt_s ?_))
      · refine s_ifeq (pc := 40) (tgt := 47) dX6_readNumbers_40 rfl (fun h40 => absurd h40 (by decide)) (fun h40 => ?_)
        refine m_ic (pc := 43) (v := 1) dX6_readNumbers_43 rfl ?_
        refine s_goto (pc := 44) (tgt := 48) dX6_readNumbers_44 rfl ?_
        refine s_ireturn (pc := 48) dX6_readNumbers_48 rfl rfl ?_
        exact hg v p1 u p2 I1 q1 q2 u3 f1 x1 f2 w1 w2 w3 w4
theorem c_again6 (hq : Q (.inl (some (.int 0))) (Z (tp I a wf wt 3 (nI wf)) J n w)) : Cn g (d + 2) mX6_readAgain [.ref 26, .ref 2, .ref 4, .int (nI 6)] (Z (tp I a wf wt fk fp) J n w) Q := by
  show Rn g (d + 2) mX6_readAgain 0 [.ref 26, .ref 2, .ref 4, .int (nI 6), .retAddr 0] [] [] (Z (tp I a wf wt fk fp) J n w) Q
  refine s_iload_n (pc := 0) (i := 3) dX6_readAgain_0 rfl rfl ?_
  refine m_bi (pc := 1) (v := 6) dX6_readAgain_1 rfl ?_
  refine s_iclt (pc := 3) (tgt := 12) dX6_readAgain_3 rfl (fun h3 => absurd h3 (nI_nlt (a := 6) (b := 6) (by omega) (by omega))) (fun h3 => ?_)
  refine s_aload_n (pc := 6) (i := 1) dX6_readAgain_6 rfl rfl ?_
  refine m_ic (pc := 7) (v := 3) dX6_readAgain_7 rfl ?_
  refine m_v1 (pc := 8) dX6_readAgain_8 lk_X6_134 ok_X10_failWord (rcO o_2 (by decide) rfl) rfl rfl (c_X10_failWord (kt_s ?_))
  refine s_ireturn (pc := 11) dX6_readAgain_11 rfl rfl ?_
  exact hq
theorem c_X6_readAgain {k dp : Nat} {ln : β → Nat} {mn : β → Nat} {sp : (Nat → Nat → Int32) → β → Nat → Prop} {R : Nat → eT (List (iT β))} (hS : cSs g (k + 6) t N D ln sp R (nI (dp + 1))) (hG : gT N (mln mn) R) (hln : ∀ x, ln x ≤ 2 * mn x) (hF : pF sp ln) (hd : dp < 6) (hx : tx I t N) (ha : a ≤ N) (hN : N ≤ 150) (hD : Co I 4 D) (hk : cOk D) (hs : I 26 4 = nI s) (hs2 : 2 * s ≤ a)
  (hb : ∀ e a' wf' wt' I', agR t N R a = .inl e → fC I I' → Q (.inl (some (.int 0))) (Z (tp I' a' wf' wt' (nI e.1) (nI e.2)) J n w))
  (hg : ∀ p x I' wf' wt', agR t N R a = .inr (p, x) → fC I I' → fP s I I' → I' 26 4 = nI (s + cln (cln ln) [x]) → PcL (PcL sp ln) (cln ln) I' [x] s → Q (.inl (some (.int 1))) (Z (tp I' p wf' wt' fk fp) J n w)) : Cn g (d + (k + 7)) mX6_readAgain [.ref 26, .ref 2, .ref 4, .int (nI dp)] (Z (tp I a wf wt fk fp) J n w) Q := by
  show Rn g (d + (k + 7)) mX6_readAgain 0 [.ref 26, .ref 2, .ref 4, .int (nI dp), .retAddr 0] [] [] (Z (tp I a wf wt fk fp) J n w) Q
  refine s_iload_n (pc := 0) (i := 3) dX6_readAgain_0 rfl rfl ?_
  refine m_bi (pc := 1) (v := 6) dX6_readAgain_1 rfl ?_
  refine s_iclt (pc := 3) (tgt := 12) dX6_readAgain_3 rfl (fun h3 => ?_) (fun h3 => absurd (nI_lt (a := dp) (b := 6) (by omega) (by omega)) h3)
  refine s_aload_n (pc := 12) (i := 0) dX6_readAgain_12 rfl rfl ?_
  refine m_gi (pc := 13) dX6_readAgain_13 ff_X6_24 rfl o_26 ?_
  refine m_nm (v' := nI s) (by rw [tp_o (by decide)]; exact hs) ?_
  refine s_istore (pc := 16) (i := 4) dX6_readAgain_16 (Nat.le_of_ble_eq_true rfl) ?_
  dsimp only [List.set, List.filter]
  refine s_aload_n (pc := 18) (i := 0) dX6_readAgain_18 rfl rfl ?_
  refine s_aload_n (pc := 19) (i := 1) dX6_readAgain_19 rfl rfl ?_
  refine m_ic (pc := 20) (v := 5) dX6_readAgain_20 rfl ?_
  refine m_bi (pc := 21) (v := 40) dX6_readAgain_21 rfl ?_
  refine m_v3 (pc := 23) dX6_readAgain_23 lk_X6_118 ok_X6_readNumber (rcO o_26 (by decide) rfl) rfl rfl (c_X6_readNumber (h1 := 41) hx ha hs (by omega) rfl (by decide) (fun e a1 q1 => kt_s ?_) (fun v p1 I1 q1 v1 f1 x1 f2 w1 w2 w3 w4 => kt_s ?_))
  · refine s_ifeq (pc := 26) (tgt := 38) dX6_readAgain_26 rfl (fun h26 => ?_) (fun h26 => absurd h26 (by decide))
    refine m_ic (pc := 38) (v := 0) dX6_readAgain_38 rfl ?_
    refine s_ireturn (pc := 39) dX6_readAgain_39 rfl rfl ?_
    exact hb e a1 _ _ I (by unfold agR; rw [q1]) fC_r
  · have g1 := nR_ge q1
    refine s_ifeq (pc := 26) (tgt := 38) dX6_readAgain_26 rfl (fun h26 => absurd h26 (by decide)) (fun h26 => ?_)
    refine s_aload_n (pc := 29) (i := 1) dX6_readAgain_29 rfl rfl ?_
    refine m_bi (pc := 30) (v := 91) dX6_readAgain_30 rfl ?_
    refine m_v1 (pc := 32) dX6_readAgain_32 lk_X6_93 ok_X10_needSign (rcO o_2 (by decide) rfl) rfl rfl (c_ns (c := 91) x1 v1 (by decide) rfl (fun p2 s1 s2 s3 => kt_s ?_) (fun e s1 => kt_s ?_))
    · refine s_ifne (pc := 35) (tgt := 40) dX6_readAgain_35 rfl (fun h35 => ?_) (fun h35 => absurd h35 (by decide))
      refine s_aload_n (pc := 40) (i := 0) dX6_readAgain_40 rfl rfl ?_
      refine s_aload_n (pc := 41) (i := 1) dX6_readAgain_41 rfl rfl ?_
      refine s_aload_n (pc := 42) (i := 2) dX6_readAgain_42 rfl rfl ?_
      refine s_iload_n (pc := 43) (i := 3) dX6_readAgain_43 rfl rfl ?_
      refine m_ic (pc := 44) (v := 1) dX6_readAgain_44 rfl ?_
      refine s_iadd (pc := 45) dX6_readAgain_45 ?_
      refine m_nm (v' := nI (dp + 1)) (nI_add dp 1) ?_
      refine m_v3 (pc := 46) dX6_readAgain_46 lk_X6_28 ok_X6_readSteps (rcO o_26 (by decide) rfl) rfl rfl (hS _ I1 _ _ _ _ p2 wf wt fk fp (s + 1) x1 s2 hN (Co_fr hD (fun y j z1 z2 => f1 y j (by omega))) hk w1 (by omega) (fun e a1 wf1 wt1 I2 q2 f3 => kt_s ?_) (fun p3 x I2 wf1 wt1 q2 f3 f4 w9 w10 => kt_s ?_))
      · refine s_ifeq (pc := 49) (tgt := 61) dX6_readAgain_49 rfl (fun h49 => ?_) (fun h49 => absurd h49 (by decide))
        refine m_ic (pc := 61) (v := 0) dX6_readAgain_61 rfl ?_
        refine s_ireturn (pc := 62) dX6_readAgain_62 rfl rfl ?_
        exact hb e a1 wf1 wt1 I2 (by unfold agR; rw [q1]; simp only []; rw [s1]; simp only []; rw [q2]) (fC_t f1 f3)
      · have g2 := hG _ _ _ s2 q2
        have g3 := cln_le hln x
        have hx := tx_f x1 f3
        refine s_ifeq (pc := 49) (tgt := 61) dX6_readAgain_49 rfl (fun h49 => absurd h49 (by decide)) (fun h49 => ?_)
        refine s_aload_n (pc := 52) (i := 1) dX6_readAgain_52 rfl rfl ?_
        refine m_bi (pc := 53) (v := 93) dX6_readAgain_53 rfl ?_
        refine m_v1 (pc := 55) dX6_readAgain_55 lk_X6_93 ok_X10_needSign (rcO o_2 (by decide) rfl) rfl rfl (c_ns (c := 93) hx g2.2 (by decide) rfl (fun p4 r1 r2 r3 => kt_s ?_) (fun e r1 => kt_s ?_))
        · refine s_ifne (pc := 58) (tgt := 63) dX6_readAgain_58 rfl (fun h58 => ?_) (fun h58 => absurd h58 (by decide))
          refine s_iload (pc := 63) (i := 4) dX6_readAgain_63 rfl ?_
          refine m_si (pc := 65) (v := 150) dX6_readAgain_65 rfl ?_
          refine s_icge (pc := 68) (tgt := 82) dX6_readAgain_68 rfl (fun h68 => absurd h68 (nI_ge (a := s) (b := 150) (by omega) (by omega))) (fun h68 => ?_)
          refine s_aload_n (pc := 71) (i := 0) dX6_readAgain_71 rfl rfl ?_
          refine m_gr (pc := 72) dX6_readAgain_72 ff_X6_18 rfl o_26 r_26_2 ?_
          refine s_iload (pc := 75) (i := 4) dX6_readAgain_75 rfl ?_
          refine s_aload_n (pc := 77) (i := 0) dX6_readAgain_77 rfl rfl ?_
          refine m_gi (pc := 78) dX6_readAgain_78 ff_X6_24 rfl o_26 ?_
          refine m_nm (v' := nI (s + 1 + cln ln x)) (by rw [tp_o (by decide), w9]) ?_
          refine m_is (pc := 81) dX6_readAgain_81 a_29 (vp_in_nI (n := s) (by omega) (by decide)) ?_
          rw [nI_clamp (n := s) (by omega)]
          refine st_tp hx (by decide) (by decide) (fun I81 e81 hx => ?_)
          refine s_aload_n (pc := 82) (i := 0) dX6_readAgain_82 rfl rfl ?_
          refine m_bi (pc := 83) (v := 6) dX6_readAgain_83 rfl ?_
          refine s_iload (pc := 85) (i := 4) dX6_readAgain_85 rfl ?_
          refine m_ic (pc := 87) (v := 0) dX6_readAgain_87 rfl ?_
          refine m_v3 (pc := 88) dX6_readAgain_88 lk_X6_125 ok_X6_add (rcO o_26 (by decide) rfl) rfl rfl (c_X6_add (s := s + 1 + cln ln x) (by subst e81; exact tx_up hx (by decide) (by decide)) (by subst e81; rw [up_a (by decide)]; exact w9) (by omega) (fun I3 f5 x3 f6 u1 u2 u3 u4 => kt_s ?_))
          · refine s_ireturn (pc := 91) dX6_readAgain_91 rfl rfl ?_
            have F2 : fC I I3 := fC_t (fC_t (fC_t f1 f3) (by subst e81; exact fC_u fC_r (by decide))) f5
            have e7 : ∀ y j, (y = 27 ∨ y = 28 ∨ y = 29) → j < s + 1 + cln ln x → (y ≠ 29 ∨ j ≠ s) → I3 y j = I2 y j := fun y j z1 z2 z3 => by rw [f6 y j z1 z2, e81, up_n3 (by omega)]
            refine hg p4 (.inr (v, x)) I3 wf1 wt1 (by unfold agR; rw [q1]; simp only []; rw [s1]; simp only []; rw [q2]; simp only []; rw [r1]) F2 (fun y j z1 z2 => ?_) (by rw [u1]; simp only [cln]; congr 1; omega) ⟨?_, ?_, ?_, ?_, u2, u3, trivial⟩
            · rw [e7 y j z1 (by omega) (by omega), f4 y j z1 (by omega), f2 y j z1 z2]
            · rw [e7 27 s (by omega) (by omega) (by omega), f4 27 s (by omega) (by omega)]; exact w2
            · rw [e7 28 s (by omega) (by omega) (by omega), f4 28 s (by omega) (by omega)]; exact w3
            · rw [f6 29 s (by omega) (by omega), e81, up_s]
            · exact PcL_fr hF x (s + 1) I2 I3 (fun y j z1 z2 z3 => e7 y j z1 (by omega) (by omega)) w10
        · refine s_ifne (pc := 58) (tgt := 63) dX6_readAgain_58 rfl (fun h58 => absurd h58 (by decide)) (fun h58 => ?_)
          refine m_ic (pc := 61) (v := 0) dX6_readAgain_61 rfl ?_
          refine s_ireturn (pc := 62) dX6_readAgain_62 rfl rfl ?_
          exact hb e _ _ _ I2 (by unfold agR; rw [q1]; simp only []; rw [s1]; simp only []; rw [q2]; simp only []; rw [r1]) (fC_t f1 f3)
    · refine s_ifne (pc := 35) (tgt := 40) dX6_readAgain_35 rfl (fun h35 => absurd h35 (by decide)) (fun h35 => ?_)
      refine m_ic (pc := 38) (v := 0) dX6_readAgain_38 rfl ?_
      refine s_ireturn (pc := 39) dX6_readAgain_39 rfl rfl ?_
      exact hb e _ _ _ I1 (by unfold agR; rw [q1]; simp only []; rw [s1]) f1
end S
