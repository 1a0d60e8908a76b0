section S
variable {g : aG} {d : Nat} {I : Nat → Nat → Int32} {J : Nat → Nat → Int64} {n w : Nat} {Q : aO → aS → Prop}
variable {t : Nat → Nat} {N a s : Nat} {bad bk op : Int32} {σ : aS} {D : cD} {β : Type}
/-- the model's row from step s on holds these steps -/
def PmL (sp : (Nat → Int32) → β → Nat → Prop) (mn : β → Nat) (r : Nat → Int32) : List (iT β) → Nat → Prop
  | [], _ => True
  | .inl (k, u, v) :: l, s => r (3 * s) = nI k ∧ r (3 * s + 1) = nI u ∧ r (3 * s + 2) = nI v ∧ PmL sp mn r l (s + 1)
  | .inr (v, x) :: l, s => r (3 * s) = 5 ∧ r (3 * s + 1) = nI v ∧ r (3 * s + 2) = nI (3 * (s + 1 + mn x)) ∧ sp r x (s + 1) ∧ PmL sp mn r l (s + 1 + mn x)
def PmT : (L : Nat) → (Nat → Int32) → TB L → Nat → Prop
  | 0 => fun _ e => nomatch e
  | L + 1 => PmL (PmT L) (mlT L)
def qF (sp : (Nat → Int32) → β → Nat → Prop) (mn : β → Nat) : Prop := ∀ (r r' : Nat → Int32) x s, (∀ j, 3 * s ≤ j → j < 3 * (s + mn x) → r' j = r j) → sp r x s → sp r' x s
theorem PmL_fr {sp : (Nat → Int32) → β → Nat → Prop} {mn : β → Nat} (hs : qF sp mn) : ∀ l s (r r' : Nat → Int32), (∀ j, 3 * s ≤ j → j < 3 * (s + mln mn l) → r' j = r j) → PmL sp mn r l s → PmL sp mn r' l s
  | [], _, _, _, _, _ => trivial
  | .inl (k, u, v) :: l, s, r, r', hf, h => by
    simp only [mln] at hf
    obtain ⟨h1, h2, h3, h4⟩ := h
    exact ⟨by rw [hf _ (by omega) (by omega)]; exact h1, by rw [hf _ (by omega) (by omega)]; exact h2, by rw [hf _ (by omega) (by omega)]; exact h3, PmL_fr hs l _ r r' (fun j z1 z2 => hf j (by omega) (by omega)) h4⟩
  | .inr (v, x) :: l, s, r, r', hf, h => by
    simp only [mln] at hf
    obtain ⟨h1, h2, h3, h4, h5⟩ := h
    exact ⟨by rw [hf _ (by omega) (by omega)]; exact h1, by rw [hf _ (by omega) (by omega)]; exact h2, by rw [hf _ (by omega) (by omega)]; exact h3, hs r r' x (s + 1) (fun j z1 z2 => hf j (by omega) (by omega)) h4, PmL_fr hs l _ r r' (fun j z1 z2 => hf j (by omega) (by omega)) h5⟩
theorem qF_L {sp : (Nat → Int32) → β → Nat → Prop} {mn : β → Nat} (hs : qF sp mn) : qF (PmL sp mn) (mln mn) := fun r r' x s h1 h2 => PmL_fr hs x s r r' h1 h2
theorem qF_T : ∀ L, qF (PmT L) (mlT L)
  | 0 => fun _ _ e => nomatch e
  | L + 1 => qF_L (qF_T L)
def fQ (s : Nat) (I I' : Nat → Nat → Int32) : Prop := ∀ j, j < 3 * s → I' 547 j = I 547 j
theorem mln_c {mn : β → Nat} {x : iT β} {r : List (iT β)} : mln mn (x :: r) = mln mn [x] + mln mn r := by
  cases x with
  | inl s => simp [mln]
  | inr s => obtain ⟨v, y⟩ := s; simp [mln]
theorem PmL_c {sp : (Nat → Int32) → β → Nat → Prop} {mn : β → Nat} {x : iT β} {l : List (iT β)} {r : Nat → Int32} (h1 : PmL sp mn r [x] s) (h2 : PmL sp mn r l (s + mln mn [x])) : PmL sp mn r (x :: l) s := by
  cases x with
  | inl y =>
    obtain ⟨k, u, v⟩ := y
    obtain ⟨a1, a2, a3, _⟩ := h1
    exact ⟨a1, a2, a3, h2⟩
  | inr y =>
    obtain ⟨v, y⟩ := y
    obtain ⟨a1, a2, a3, a4, _⟩ := h1
    simp only [mln, Nat.add_zero] at h2
    rw [show s + (1 + mn y) = s + 1 + mn y by omega] at h2
    exact ⟨a1, a2, a3, a4, h2⟩
/-- a step and its sign -/
def itS (t : Nat → Nat) (N : Nat) (R : Nat → eT (iT β)) (p : Nat) : eT (iT β) := match R p with
  | .inl e => .inl e
  | .inr (q, x) => match sR t N q 59 with
    | .inl e => .inl e
    | .inr y => .inr (y, x)
theorem lsR_1 {R : Nat → eT (iT β)} {stop : Nat → Bool} {f p0 : Nat} (h : ¬ stop p0 = true) : lsR t N R stop (f + 1) p0 = match itS t N R p0 with
    | .inl e => .inl e
    | .inr (y, x) => match lsR t N R stop f y with
      | .inl e => .inl e
      | .inr (z, r) => .inr (z, x :: r) := by
  rw [lsR, if_neg h]
  unfold itS
  cases R p0 with
  | inl e => rfl
  | inr q =>
    obtain ⟨q, x⟩ := q
    dsimp only
    cases sR t N q 59 with
    | inl e => rfl
    | inr y => rfl
def cMs (g : aG) (k : Nat) (t : Nat → Nat) (N : Nat) (D : cD) (mn : β → Nat) (sp : (Nat → Int32) → β → Nat → Prop) (R : Nat → eT (iT β)) (op : Int32) : Prop := ∀ (d : Nat) (I : Nat → Nat → Int32) (J : Nat → Nat → Int64) (n w : Nat) (Q : aO → aS → Prop) (a : Nat) (bk : Int32) (s : Nat), mx I t N → a ≤ N → N ≤ 150 → I 534 17 = nI (cb D) → I 534 18 = nI (cc D) → cOk D → I 534 30 = nI (3 * s) → 4 * s ≤ sk t N a →
  (∀ e a' I' op', itS t N R (sk t N a) = .inl e → fM I I' → e.2 ≤ 600 → Q (.inl none) (Z (mp I' a' (nI e.2) (nI e.1) op') J n w)) →
  (∀ a' x I', itS t N R (sk t N a) = .inr (sk t N a', x) → a' ≤ N → fM I I' → fQ s I I' → I' 534 30 = nI (3 * (s + mln mn [x])) → PmL sp mn (I' 547) [x] s → Q (.inl none) (Z (mp I' a' (-1) bk op) J n w)) → Cn g (d + k) mX12_readStep [.ref 534] (Z (mp I a (-1) bk op) J n w) Q
theorem c_X12_tellsStep {x y z : Int32} (hm : mx I t N) (hs : I 534 30 = nI (3 * s)) (hs2 : s < 50) (hq : ∀ I', fM I I' → mx I' t N → fQ s I I' → I' 534 30 = nI (3 * (s + 1)) → I' 547 (3 * s) = x → I' 547 (3 * s + 1) = y → I' 547 (3 * s + 2) = z → Q (.inl none) (Z (mp I' a (-1) bk op) J n w)) : Cn g (d + 1) mX12_tellsStep [.ref 534, .int x, .int y, .int z] (Z (mp I a (-1) bk op) J n w) Q := by
  show Rn g (d + 1) mX12_tellsStep 0 [.ref 534, .int x, .int y, .int z] [] [] (Z (mp I a (-1) bk op) J n w) Q
  refine s_aload_n (pc := 0) (i := 0) dX12_tellsStep_0 rfl rfl ?_
  refine m_v0 (pc := 1) dX12_tellsStep_1 lk_X12_131 ok_X12_fine (rcO o_534 (by decide) rfl) rfl rfl (c_X12_fine (fun h => kt_s ?_) (fun h => absurd rfl h))
  · refine s_ifne (pc := 4) (tgt := 8) dX12_tellsStep_4 rfl (fun h4 => ?_) (fun h4 => absurd h4 (by decide))
    refine s_aload_n (pc := 8) (i := 0) dX12_tellsStep_8 rfl rfl ?_
    refine m_gr (pc := 9) dX12_tellsStep_9 ff_X12_53 rfl o_534 r_534_28 ?_
    refine s_aload_n (pc := 12) (i := 0) dX12_tellsStep_12 rfl rfl ?_
    refine m_gi (pc := 13) dX12_tellsStep_13 ff_X12_281 rfl o_534 ?_
    refine m_nm (v' := nI (3 * s)) (by rw [mp_x (by decide)]; exact hs) ?_
    refine s_iload_n (pc := 16) (i := 1) dX12_tellsStep_16 rfl rfl ?_
    refine m_is (pc := 17) dX12_tellsStep_17 a_547 (vp_in_nI (n := 3 * s) (by omega) (by decide)) ?_
    rw [nI_clamp (n := 3 * s) (by omega)]
    refine st_mp hm (by omega) (by decide) (fun I17 e17 hm => ?_)
    refine s_aload_n (pc := 18) (i := 0) dX12_tellsStep_18 rfl rfl ?_
    refine m_gr (pc := 19) dX12_tellsStep_19 ff_X12_53 rfl o_534 r_534_28 ?_
    refine s_aload_n (pc := 22) (i := 0) dX12_tellsStep_22 rfl rfl ?_
    refine m_gi (pc := 23) dX12_tellsStep_23 ff_X12_281 rfl o_534 ?_
    refine m_nm (v' := nI (3 * s)) (by rw [mp_x (by decide), e17, up_a (by decide)]; exact hs) ?_
    refine m_ic (pc := 26) (v := 1) dX12_tellsStep_26 rfl ?_
    refine s_iadd (pc := 27) dX12_tellsStep_27 ?_
    refine m_nm (v' := nI ((3 * s) + 1)) (nI_add (3 * s) 1) ?_
    refine s_iload_n (pc := 28) (i := 2) dX12_tellsStep_28 rfl rfl ?_
    refine m_is (pc := 29) dX12_tellsStep_29 a_547 (vp_in_nI (n := (3 * s) + 1) (by omega) (by decide)) ?_
    rw [nI_clamp (n := (3 * s) + 1) (by omega)]
    refine st_mp hm (by omega) (by decide) (fun I29 e29 hm => ?_)
    refine s_aload_n (pc := 30) (i := 0) dX12_tellsStep_30 rfl rfl ?_
    refine m_gr (pc := 31) dX12_tellsStep_31 ff_X12_53 rfl o_534 r_534_28 ?_
    refine s_aload_n (pc := 34) (i := 0) dX12_tellsStep_34 rfl rfl ?_
    refine m_gi (pc := 35) dX12_tellsStep_35 ff_X12_281 rfl o_534 ?_
    refine m_nm (v' := nI (3 * s)) (by rw [mp_x (by decide), e29, up_a (by decide), e17, up_a (by decide)]; exact hs) ?_
    refine m_ic (pc := 38) (v := 2) dX12_tellsStep_38 rfl ?_
    refine s_iadd (pc := 39) dX12_tellsStep_39 ?_
    refine m_nm (v' := nI ((3 * s) + 2)) (nI_add (3 * s) 2) ?_
    refine s_iload_n (pc := 40) (i := 3) dX12_tellsStep_40 rfl rfl ?_
    refine m_is (pc := 41) dX12_tellsStep_41 a_547 (vp_in_nI (n := (3 * s) + 2) (by omega) (by decide)) ?_
    rw [nI_clamp (n := (3 * s) + 2) (by omega)]
    refine st_mp hm (by omega) (by decide) (fun I41 e41 hm => ?_)
    refine s_aload_n (pc := 42) (i := 0) dX12_tellsStep_42 rfl rfl ?_
    refine s_dup (pc := 43) dX12_tellsStep_43 rfl ?_
    refine m_gi (pc := 44) dX12_tellsStep_44 ff_X12_281 rfl o_534 ?_
    refine m_nm (v' := nI (3 * s)) (by rw [mp_x (by decide), e41, up_a (by decide), e29, up_a (by decide), e17, up_a (by decide)]; exact hs) ?_
    refine m_ic (pc := 47) (v := 3) dX12_tellsStep_47 rfl ?_
    refine s_iadd (pc := 48) dX12_tellsStep_48 ?_
    refine m_nm (v' := nI (3 * (s + 1))) (by rw [Nat.mul_add]; exact nI_add _ 3) ?_
    refine m_pi (pc := 49) dX12_tellsStep_49 ff_X12_281 rfl rfl o_534 ?_
    refine st_mp hm (by omega) (by decide) (fun I49 e49 hm => ?_)
    refine s_return (pc := 52) dX12_tellsStep_52 rfl ?_
    subst e49; subst e41; subst e29; subst e17
    exact hq _ (fM_u (fM_u (fM_u (fM_u fM_r (by omega)) (by omega)) (by omega)) (by decide)) hm (fun j z1 => by rw [up_a (by decide), up_k (by omega), up_k (by omega), up_k (by omega)]) up_s (by rw [up_a (by decide), up_k (by omega), up_k (by omega), up_s]) (by rw [up_a (by decide), up_k (by omega), up_s]) (by rw [up_a (by decide), up_s])
theorem c_tells_n {x y z : Int32} (hbad : bad ≠ -1) (hq : Q (.inl none) (Z (mp I a bad bk op) J n w)) : Cn g (d + 1) mX12_tellsStep [.ref 534, .int x, .int y, .int z] (Z (mp I a bad bk op) J n w) Q := by
  show Rn g (d + 1) mX12_tellsStep 0 [.ref 534, .int x, .int y, .int z] [] [] (Z (mp I a bad bk op) J n w) Q
  refine s_aload_n (pc := 0) (i := 0) dX12_tellsStep_0 rfl rfl ?_
  refine m_v0 (pc := 1) dX12_tellsStep_1 lk_X12_131 ok_X12_fine (rcO o_534 (by decide) rfl) rfl rfl (c_X12_fine (fun h => absurd h hbad) (fun h => kt_s ?_))
  · refine s_ifne (pc := 4) (tgt := 8) dX12_tellsStep_4 rfl (fun h4 => absurd h4 (by decide)) (fun h4 => ?_)
    refine s_return (pc := 7) dX12_tellsStep_7 rfl ?_
    exact hq
theorem c_X12_stepOf {x : Int32} (h0 : x = oc 13 → Q (.inl (some (.int 0))) σ) (h1 : ¬ x = oc 13 → x = oc 14 → Q (.inl (some (.int 1))) σ) (h2 : ¬ x = oc 13 → ¬ x = oc 14 → x = oc 15 → Q (.inl (some (.int 2))) σ) (h3 : ¬ x = oc 13 → ¬ x = oc 14 → ¬ x = oc 15 → x = oc 16 → Q (.inl (some (.int 3))) σ) (h4 : ¬ x = oc 13 → ¬ x = oc 14 → ¬ x = oc 15 → ¬ x = oc 16 → x = oc 10 → Q (.inl (some (.int 4))) σ) (h5 : ¬ x = oc 13 → ¬ x = oc 14 → ¬ x = oc 15 → ¬ x = oc 16 → ¬ x = oc 10 → x = oc 17 → Q (.inl (some (.int 5))) σ) (h6 : ¬ x = oc 13 → ¬ x = oc 14 → ¬ x = oc 15 → ¬ x = oc 16 → ¬ x = oc 10 → ¬ x = oc 17 → Q (.inl (some (.int (-1)))) σ) : Cn g (d + 5) mX12_stepOf [.int x] σ Q := by
  show Rn g (d + 5) mX12_stepOf 0 [.int x] [] [] σ Q
  refine s_iload_n (pc := 0) (i := 0) dX12_stepOf_0 rfl rfl ?_
  refine s_ldcSw (pc := 1) (j := 13) dX12_stepOf_1 sr_X12_284 rfl ?_
  refine m_s1 (pc := 4) dX12_stepOf_4 lk_X12_183 ok_X12_of rfl rfl (c_of (j := 13) rfl (by decide) (by decide) (kt_s ?_))
  refine s_icne (pc := 7) (tgt := 14) dX12_stepOf_7 rfl (fun x13 => ?_) (fun x13 => ?_)
  · skip
    refine s_iload_n (pc := 14) (i := 0) dX12_stepOf_14 rfl rfl ?_
    refine s_ldcSw (pc := 15) (j := 14) dX12_stepOf_15 sr_X12_286 rfl ?_
    refine m_s1 (pc := 18) dX12_stepOf_18 lk_X12_183 ok_X12_of rfl rfl (c_of (j := 14) rfl (by decide) (by decide) (kt_s ?_))
    refine s_icne (pc := 21) (tgt := 28) dX12_stepOf_21 rfl (fun x14 => ?_) (fun x14 => ?_)
    · skip
      refine s_iload_n (pc := 28) (i := 0) dX12_stepOf_28 rfl rfl ?_
      refine s_ldcSw (pc := 29) (j := 15) dX12_stepOf_29 sr_X12_288 rfl ?_
      refine m_s1 (pc := 32) dX12_stepOf_32 lk_X12_183 ok_X12_of rfl rfl (c_of (j := 15) rfl (by decide) (by decide) (kt_s ?_))
      refine s_icne (pc := 35) (tgt := 42) dX12_stepOf_35 rfl (fun x15 => ?_) (fun x15 => ?_)
      · skip
        refine s_iload_n (pc := 42) (i := 0) dX12_stepOf_42 rfl rfl ?_
        refine s_ldcSw (pc := 43) (j := 16) dX12_stepOf_43 sr_X12_290 rfl ?_
        refine m_s1 (pc := 46) dX12_stepOf_46 lk_X12_183 ok_X12_of rfl rfl (c_of (j := 16) rfl (by decide) (by decide) (kt_s ?_))
        refine s_icne (pc := 49) (tgt := 56) dX12_stepOf_49 rfl (fun x16 => ?_) (fun x16 => ?_)
        · skip
          refine s_iload_n (pc := 56) (i := 0) dX12_stepOf_56 rfl rfl ?_
          refine s_ldcSw (pc := 57) (j := 10) dX12_stepOf_57 sr_X12_262 rfl ?_
          refine m_s1 (pc := 60) dX12_stepOf_60 lk_X12_183 ok_X12_of rfl rfl (c_of (j := 10) rfl (by decide) (by decide) (kt_s ?_))
          refine s_icne (pc := 63) (tgt := 70) dX12_stepOf_63 rfl (fun x10 => ?_) (fun x10 => ?_)
          · skip
            refine s_iload_n (pc := 70) (i := 0) dX12_stepOf_70 rfl rfl ?_
            refine s_ldcSw (pc := 71) (j := 17) dX12_stepOf_71 sr_X12_292 rfl ?_
            refine m_s1 (pc := 74) dX12_stepOf_74 lk_X12_183 ok_X12_of rfl rfl (c_of (j := 17) rfl (by decide) (by decide) (kt_s ?_))
            refine s_icne (pc := 77) (tgt := 84) dX12_stepOf_77 rfl (fun x17 => ?_) (fun x17 => ?_)
            · skip
              refine m_ic (pc := 84) (v := -1) dX12_stepOf_84 rfl ?_
              refine s_ireturn (pc := 85) dX12_stepOf_85 rfl rfl ?_
              exact h6 x13 x14 x15 x16 x10 x17
            · skip
              refine m_ic (pc := 80) (v := 5) dX12_stepOf_80 rfl ?_
              refine s_goto (pc := 81) (tgt := 85) dX12_stepOf_81 rfl ?_
              refine s_ireturn (pc := 85) dX12_stepOf_85 rfl rfl ?_
              exact h5 x13 x14 x15 x16 x10 x17
          · skip
            refine m_ic (pc := 66) (v := 4) dX12_stepOf_66 rfl ?_
            refine s_goto (pc := 67) (tgt := 85) dX12_stepOf_67 rfl ?_
            refine s_ireturn (pc := 85) dX12_stepOf_85 rfl rfl ?_
            exact h4 x13 x14 x15 x16 x10
        · skip
          refine m_ic (pc := 52) (v := 3) dX12_stepOf_52 rfl ?_
          refine s_goto (pc := 53) (tgt := 85) dX12_stepOf_53 rfl ?_
          refine s_ireturn (pc := 85) dX12_stepOf_85 rfl rfl ?_
          exact h3 x13 x14 x15 x16
      · skip
        refine m_ic (pc := 38) (v := 2) dX12_stepOf_38 rfl ?_
        refine s_goto (pc := 39) (tgt := 85) dX12_stepOf_39 rfl ?_
        refine s_ireturn (pc := 85) dX12_stepOf_85 rfl rfl ?_
        exact h2 x13 x14 x15
    · skip
      refine m_ic (pc := 24) (v := 1) dX12_stepOf_24 rfl ?_
      refine s_goto (pc := 25) (tgt := 85) dX12_stepOf_25 rfl ?_
      refine s_ireturn (pc := 85) dX12_stepOf_85 rfl rfl ?_
      exact h1 x13 x14
  · skip
    refine m_ic (pc := 10) (v := 0) dX12_stepOf_10 rfl ?_
    refine s_goto (pc := 11) (tgt := 85) dX12_stepOf_11 rfl ?_
    refine s_ireturn (pc := 85) dX12_stepOf_85 rfl rfl ?_
    exact h0 x13
theorem c_again6m (ha : a ≤ N) (hN : N ≤ 150) (ho : op = nI 6) (hq : Q (.inl none) (Z (mp I a (nI a) 3 6) J n w)) : Cn g (d + 2) mX12_readAgain [.ref 534] (Z (mp I a (-1) bk op) J n w) Q := by
  have hbad : nI a ≠ -1 := nI_m1 (by omega)
  show Rn g (d + 2) mX12_readAgain 0 [.ref 534, .retAddr 0, .retAddr 0] [] [] (Z (mp I a (-1) bk op) J n w) Q
  refine s_aload_n (pc := 0) (i := 0) dX12_readAgain_0 rfl rfl ?_
  refine m_ic (pc := 1) (v := 5) dX12_readAgain_1 rfl ?_
  refine m_v1 (pc := 2) dX12_readAgain_2 lk_X12_242 ok_X12_opensOne (rcO o_534 (by decide) rfl) rfl rfl (c_open6 ho (by omega) (kt_v ?_))
  refine s_aload_n (pc := 5) (i := 0) dX12_readAgain_5 rfl rfl ?_
  refine m_ic (pc := 6) (v := 0) dX12_readAgain_6 rfl ?_
  refine m_bi (pc := 7) (v := 40) dX12_readAgain_7 rfl ?_
  refine m_v2 (pc := 9) dX12_readAgain_9 lk_X12_188 ok_X12_readNumber (rcO o_534 (by decide) rfl) rfl rfl (c_X12_readNumber_n hbad (kt_s ?_))
  · refine s_istore_n (pc := 12) (i := 1) dX12_readAgain_12 rfl (Nat.le_of_ble_eq_true rfl) ?_
    dsimp only [List.set, List.filter]
    refine s_aload_n (pc := 13) (i := 0) dX12_readAgain_13 rfl rfl ?_
    refine m_bi (pc := 14) (v := 91) dX12_readAgain_14 rfl ?_
    refine m_v1 (pc := 16) dX12_readAgain_16 lk_X12_223 ok_X12_sign (rcO o_534 (by decide) rfl) rfl rfl (c_X12_sign_n hbad (kt_v ?_))
    refine s_aload_n (pc := 19) (i := 0) dX12_readAgain_19 rfl rfl ?_
    refine m_gi (pc := 20) dX12_readAgain_20 ff_X12_281 rfl o_534 ?_
    refine s_istore_n (pc := 23) (i := 2) dX12_readAgain_23 rfl (Nat.le_of_ble_eq_true rfl) ?_
    dsimp only [List.set, List.filter]
    refine s_aload_n (pc := 24) (i := 0) dX12_readAgain_24 rfl rfl ?_
    refine m_ic (pc := 25) (v := 5) dX12_readAgain_25 rfl ?_
    refine s_iload_n (pc := 26) (i := 1) dX12_readAgain_26 rfl rfl ?_
    refine m_ic (pc := 27) (v := 0) dX12_readAgain_27 rfl ?_
    refine m_v3 (pc := 28) dX12_readAgain_28 lk_X12_294 ok_X12_tellsStep (rcO o_534 (by decide) rfl) rfl rfl (c_tells_n hbad (kt_v ?_))
    refine s_aload_n (pc := 31) (i := 0) dX12_readAgain_31 rfl rfl ?_
    refine m_v0 (pc := 32) dX12_readAgain_32 lk_X12_131 ok_X12_fine (rcO o_534 (by decide) rfl) rfl rfl (c_X12_fine (fun h => absurd h hbad) (fun h => kt_s ?_))
    · refine s_ifeq (pc := 35) (tgt := 54) dX12_readAgain_35 rfl (fun h35 => ?_) (fun h35 => absurd h35 (by decide))
      refine s_aload_n (pc := 54) (i := 0) dX12_readAgain_54 rfl rfl ?_
      refine m_bi (pc := 55) (v := 93) dX12_readAgain_55 rfl ?_
      refine m_v1 (pc := 57) dX12_readAgain_57 lk_X12_223 ok_X12_sign (rcO o_534 (by decide) rfl) rfl rfl (c_X12_sign_n hbad (kt_v ?_))
      refine s_aload_n (pc := 60) (i := 0) dX12_readAgain_60 rfl rfl ?_
      refine s_dup (pc := 61) dX12_readAgain_61 rfl ?_
      refine m_gi (pc := 62) dX12_readAgain_62 ff_X12_142 rfl o_534 ?_
      refine m_nm (v' := 7) rfl ?_
      refine m_ic (pc := 65) (v := 1) dX12_readAgain_65 rfl ?_
      refine s_isub (pc := 66) dX12_readAgain_66 ?_
      refine m_nm (v' := 6) (rfl) ?_
      refine m_pi (pc := 67) dX12_readAgain_67 ff_X12_142 rfl rfl o_534 ?_
      refine Rs_cg mp_o ?_
      refine s_aload_n (pc := 70) (i := 0) dX12_readAgain_70 rfl rfl ?_
      refine m_v0 (pc := 71) dX12_readAgain_71 lk_X12_131 ok_X12_fine (rcO o_534 (by decide) rfl) rfl rfl (c_X12_fine (fun h => absurd h hbad) (fun h => kt_s ?_))
      · refine s_ifeq (pc := 74) (tgt := 89) dX12_readAgain_74 rfl (fun h74 => ?_) (fun h74 => absurd h74 (by decide))
        refine s_return (pc := 89) dX12_readAgain_89 rfl ?_
        exact hq
theorem ra_lp {k s0 : Nat} {v : Int32} {mn : β → Nat} {sp : (Nat → Int32) → β → Nat → Prop} {R : Nat → eT (iT β)} (hS : cMs g (k + 6) t N D mn sp R op) (hG : gI N mn R) (hF : qF sp mn) (hN : N ≤ 150) (hk : cOk D) : ∀ f I a s, mx I t N → a ≤ N → N - sk t N a < f → I 534 17 = nI (cb D) → I 534 18 = nI (cc D) → I 534 30 = nI (3 * s) → 4 * s ≤ sk t N a →
  (∀ e a' I' op', lsR t N R (stopB t N) f (sk t N a) = .inl e → fM I I' → e.2 ≤ 600 → Rn g (d + (k + 7)) mX12_readAgain 54 [.ref 534, .int v, .int (nI (3 * s0))] [] [] (Z (mp I' a' (nI e.2) (nI e.1) op') J n w) Q) →
  (∀ a' x I', lsR t N R (stopB t N) f (sk t N a) = .inr (sk t N a', x) → a' ≤ N → sk t N a' = a' → fM I I' → fQ s I I' → I' 534 30 = nI (3 * (s + mln mn x)) → PmL sp mn (I' 547) x s → Rn g (d + (k + 7)) mX12_readAgain 54 [.ref 534, .int v, .int (nI (3 * s0))] [] [] (Z (mp I' a' (-1) bk op) J n w) Q) → Rn g (d + (k + 7)) mX12_readAgain 31 [.ref 534, .int v, .int (nI (3 * s0))] [] [] (Z (mp I a (-1) bk op) J n w) Q := by
  intro f
  induction f with
  | zero => intro I a s hm ha hf; omega
  | succ f ih =>
    intro I a s hm ha hf h17 h18 hs hs2 hb hg
    have hsk := sk_le (t := t) ha
    have hss := sk_sk (t := t) (N := N) (a := a)
    refine s_aload_n (pc := 31) (i := 0) dX12_readAgain_31 rfl rfl ?_
    refine m_v0 (pc := 32) dX12_readAgain_32 lk_X12_131 ok_X12_fine (rcO o_534 (by decide) rfl) rfl rfl (c_X12_fine (fun h => kt_s ?_) (fun h => absurd rfl h))
    · refine s_ifeq (pc := 35) (tgt := 54) dX12_readAgain_35 rfl (fun h35 => absurd h35 (by decide)) (fun h35 => ?_)
      refine s_aload_n (pc := 38) (i := 0) dX12_readAgain_38 rfl rfl ?_
      refine m_v0 (pc := 39) dX12_readAgain_39 lk_X12_114 ok_X12_here (rcO o_534 (by decide) rfl) rfl rfl (c_X12_here hm ha (kt_s ?_))
      refine m_bi (pc := 42) (v := 93) dX12_readAgain_42 rfl ?_
      refine s_iceq (pc := 44) (tgt := 54) dX12_readAgain_44 rfl (fun h44 => ?_) (fun h44 => ?_)
      · have hh : sk t N a < N ∧ t (sk t N a) = 93 := hv_is (by decide) ((nI_eq (by unfold hv; split; (have := mx_c hm (i := sk t N a) (by assumption); omega); omega) (by decide)).mp h44)
        have E : stopB t N (sk t N a) = true := by unfold stopB; simp [hh.1, hh.2]
        rw [lsR, if_pos E] at hg
        exact hg (sk t N a) [] I (by rw [hss]) hsk hss fM_r (fun _ _ => rfl) hs trivial
      · have E : ¬ stopB t N (sk t N a) = true := fun z => by
          unfold stopB at z
          simp at z
          exact h44 (by unfold hv; rw [if_pos z.1, z.2]; rfl)
        refine s_aload_n (pc := 47) (i := 0) dX12_readAgain_47 rfl rfl ?_
        refine m_v0 (pc := 48) dX12_readAgain_48 lk_X12_298 ok_X12_readStep (rcO o_534 (by decide) rfl) rfl rfl (hS _ I _ _ _ _ (sk t N a) bk s hm hsk hN h17 h18 hk hs (by rw [hss]; exact hs2) (fun e a1 I1 op1 q1 q2 q3 => kt_v ?_) (fun a1 x I1 q1 q2 q3 q4 q5 q6 => kt_v ?_))
        · rw [hss] at q1
          rw [lsR_1 E, q1] at hb
          refine s_goto (pc := 51) (tgt := 31) dX12_readAgain_51 rfl ?_
          refine s_aload_n (pc := 31) (i := 0) dX12_readAgain_31 rfl rfl ?_
          refine m_v0 (pc := 32) dX12_readAgain_32 lk_X12_131 ok_X12_fine (rcO o_534 (by decide) rfl) rfl rfl (c_X12_fine (fun h => absurd h (nI_m1 (by omega))) (fun h => kt_s ?_))
          · refine s_ifeq (pc := 35) (tgt := 54) dX12_readAgain_35 rfl (fun h35 => ?_) (fun h35 => absurd h35 (by decide))
            exact hb e a1 I1 op1 rfl q2 q3
        · rw [hss] at q1
          rw [lsR_1 E, q1] at hb hg
          simp only [] at hb hg
          refine s_goto (pc := 51) (tgt := 31) dX12_readAgain_51 rfl ?_
          have g1 : sk t N a + 4 * mln mn [x] ≤ sk t N a1 ∧ sk t N a < sk t N a1 := by
            unfold itS at q1
            split at q1
            · cases q1
            · rename_i z y hz
              have u1 := hG _ _ _ hsk hz
              split at q1
              · cases q1
              · rename_i y2 hy2
                have u2 := sR_gt hy2
                injection q1 with q1; injection q1 with e1 e2; subst e2; rw [← e1]; omega
          have g4 := sk_le (t := t) q2
          refine ih I1 a1 (s + mln mn [x]) (mx_f hm q3) q2 (by omega) (by rw [q3 _ _ (by decide)]; exact h17) (by rw [q3 _ _ (by decide)]; exact h18) q5 (by omega) (fun e a' I' op' z1 z2 z3 => ?_) (fun a' r I' z1 z2 z3 z4 z5 z6 z7 => ?_)
          · rw [z1] at hb; exact hb e a' I' op' rfl (fM_t q3 z2) z3
          · rw [z1] at hg
            exact hg a' (x :: r) I' rfl z2 z3 (fM_t q3 z4) (fun j u => (z5 j (by omega)).trans (q4 j u)) (by rw [z6, mln_c (x := x) (r := r), Nat.add_assoc]) (PmL_c (PmL_fr hF [x] s (I1 547) (I' 547) (fun j _ u2 => z5 j (by omega)) q6) z7)
theorem c_X12_readAgain {k o : Nat} {mn : β → Nat} {sp : (Nat → Int32) → β → Nat → Prop} {R : Nat → eT (iT β)} (hS : cMs g (k + 6) t N D mn sp R (nI (o + 1))) (hG : gI N mn R) (hF : qF sp mn) (ho : o < 6) (hm : mx I t N) (ha5 : a + 5 ≤ N) (hN : N ≤ 150) (h17 : I 534 17 = nI (cb D)) (h18 : I 534 18 = nI (cc D)) (hk : cOk D) (hs : I 534 30 = nI (3 * s)) (hs2 : 4 * s ≤ a)
  (hb : ∀ e a' I' op', agR t N (lsR t N R (stopB t N) 150) (sk t N (a + 5)) = .inl e → fM I I' → e.2 ≤ 600 → Q (.inl none) (Z (mp I' a' (nI e.2) (nI e.1) op') J n w))
  (hg : ∀ a' x I', agR t N (lsR t N R (stopB t N) 150) (sk t N (a + 5)) = .inr (sk t N a', x) → a' ≤ N → fM I I' → fQ s I I' → I' 534 30 = nI (3 * (s + mln (mln mn) [x])) → PmL (PmL sp mn) (mln mn) (I' 547) [x] s → Q (.inl none) (Z (mp I' a' (-1) bk (nI o)) J n w)) : Cn g (d + (k + 7)) mX12_readAgain [.ref 534] (Z (mp I a (-1) bk (nI o)) J n w) Q := by
  show Rn g (d + (k + 7)) mX12_readAgain 0 [.ref 534, .retAddr 0, .retAddr 0] [] [] (Z (mp I a (-1) bk (nI o)) J n w) Q
  refine s_aload_n (pc := 0) (i := 0) dX12_readAgain_0 rfl rfl ?_
  refine m_ic (pc := 1) (v := 5) dX12_readAgain_1 rfl ?_
  refine m_v1 (pc := 2) dX12_readAgain_2 lk_X12_242 ok_X12_opensOne (rcO o_534 (by decide) rfl) rfl rfl (c_X12_opensOne (o := o) (b := 5) rfl ho rfl (kt_v ?_))
  refine s_aload_n (pc := 5) (i := 0) dX12_readAgain_5 rfl rfl ?_
  refine m_ic (pc := 6) (v := 0) dX12_readAgain_6 rfl ?_
  refine m_bi (pc := 7) (v := 40) dX12_readAgain_7 rfl ?_
  refine m_v2 (pc := 9) dX12_readAgain_9 lk_X12_188 ok_X12_readNumber (rcO o_534 (by decide) rfl) rfl rfl (c_rn2 hm ha5 (lo1 := 0) (hi1 := 41) rfl rfl (by decide) (fun e a1 q1 q2 q3 => kt_s ?_) (fun v a1 q1 q2 q3 q4 q5 => kt_s ?_))
  · have hbad : nI e.2 ≠ -1 := (nI_m1 (by omega))
    refine s_istore_n (pc := 12) (i := 1) dX12_readAgain_12 rfl (Nat.le_of_ble_eq_true rfl) ?_
    dsimp only [List.set, List.filter]
    refine s_aload_n (pc := 13) (i := 0) dX12_readAgain_13 rfl rfl ?_
    refine m_bi (pc := 14) (v := 91) dX12_readAgain_14 rfl ?_
    refine m_v1 (pc := 16) dX12_readAgain_16 lk_X12_223 ok_X12_sign (rcO o_534 (by decide) rfl) rfl rfl (c_X12_sign_n hbad (kt_v ?_))
    refine s_aload_n (pc := 19) (i := 0) dX12_readAgain_19 rfl rfl ?_
    refine m_gi (pc := 20) dX12_readAgain_20 ff_X12_281 rfl o_534 ?_
    refine m_nm (v' := nI (3 * s)) (by rw [mp_x (by decide)]; exact hs) ?_
    refine s_istore_n (pc := 23) (i := 2) dX12_readAgain_23 rfl (Nat.le_of_ble_eq_true rfl) ?_
    dsimp only [List.set, List.filter]
    refine s_aload_n (pc := 24) (i := 0) dX12_readAgain_24 rfl rfl ?_
    refine m_ic (pc := 25) (v := 5) dX12_readAgain_25 rfl ?_
    refine s_iload_n (pc := 26) (i := 1) dX12_readAgain_26 rfl rfl ?_
    refine m_ic (pc := 27) (v := 0) dX12_readAgain_27 rfl ?_
    refine m_v3 (pc := 28) dX12_readAgain_28 lk_X12_294 ok_X12_tellsStep (rcO o_534 (by decide) rfl) rfl rfl (c_tells_n hbad (kt_v ?_))
    refine s_aload_n (pc := 31) (i := 0) dX12_readAgain_31 rfl rfl ?_
    refine m_v0 (pc := 32) dX12_readAgain_32 lk_X12_131 ok_X12_fine (rcO o_534 (by decide) rfl) rfl rfl (c_X12_fine (fun h => absurd h hbad) (fun h => kt_s ?_))
    · refine s_ifeq (pc := 35) (tgt := 54) dX12_readAgain_35 rfl (fun h35 => ?_) (fun h35 => absurd h35 (by decide))
      refine s_aload_n (pc := 54) (i := 0) dX12_readAgain_54 rfl rfl ?_
      refine m_bi (pc := 55) (v := 93) dX12_readAgain_55 rfl ?_
      refine m_v1 (pc := 57) dX12_readAgain_57 lk_X12_223 ok_X12_sign (rcO o_534 (by decide) rfl) rfl rfl (c_X12_sign_n hbad (kt_v ?_))
      refine s_aload_n (pc := 60) (i := 0) dX12_readAgain_60 rfl rfl ?_
      refine s_dup (pc := 61) dX12_readAgain_61 rfl ?_
      refine m_gi (pc := 62) dX12_readAgain_62 ff_X12_142 rfl o_534 ?_
      refine m_nm (v' := (nI (o + 1))) rfl ?_
      refine m_ic (pc := 65) (v := 1) dX12_readAgain_65 rfl ?_
      refine s_isub (pc := 66) dX12_readAgain_66 ?_
      refine m_pi (pc := 67) dX12_readAgain_67 ff_X12_142 rfl rfl o_534 ?_
      refine Rs_cg mp_o ?_
      refine s_aload_n (pc := 70) (i := 0) dX12_readAgain_70 rfl rfl ?_
      refine m_v0 (pc := 71) dX12_readAgain_71 lk_X12_131 ok_X12_fine (rcO o_534 (by decide) rfl) rfl rfl (c_X12_fine (fun h => absurd h hbad) (fun h => kt_s ?_))
      · refine s_ifeq (pc := 74) (tgt := 89) dX12_readAgain_74 rfl (fun h74 => ?_) (fun h74 => absurd h74 (by decide))
        refine s_return (pc := 89) dX12_readAgain_89 rfl ?_
        exact hb e _ I _ (by unfold agR; rw [q1]) fM_r q3
  · refine s_istore_n (pc := 12) (i := 1) dX12_readAgain_12 rfl (Nat.le_of_ble_eq_true rfl) ?_
    dsimp only [List.set, List.filter]
    refine s_aload_n (pc := 13) (i := 0) dX12_readAgain_13 rfl rfl ?_
    refine m_bi (pc := 14) (v := 91) dX12_readAgain_14 rfl ?_
    refine m_v1 (pc := 16) dX12_readAgain_16 lk_X12_223 ok_X12_sign (rcO o_534 (by decide) rfl) rfl rfl (c_sg (c := 91) hm q4 (by decide) (by decide) rfl (fun a2 s1 s2 s3 => kt_v ?_) (fun e s1 s2 s3 => kt_v ?_))
    · refine s_aload_n (pc := 19) (i := 0) dX12_readAgain_19 rfl rfl ?_
      refine m_gi (pc := 20) dX12_readAgain_20 ff_X12_281 rfl o_534 ?_
      refine m_nm (v' := nI (3 * s)) (by rw [mp_x (by decide)]; exact hs) ?_
      refine s_istore_n (pc := 23) (i := 2) dX12_readAgain_23 rfl (Nat.le_of_ble_eq_true rfl) ?_
      dsimp only [List.set, List.filter]
      refine s_aload_n (pc := 24) (i := 0) dX12_readAgain_24 rfl rfl ?_
      refine m_ic (pc := 25) (v := 5) dX12_readAgain_25 rfl ?_
      refine s_iload_n (pc := 26) (i := 1) dX12_readAgain_26 rfl rfl ?_
      refine m_ic (pc := 27) (v := 0) dX12_readAgain_27 rfl ?_
      refine m_v3 (pc := 28) dX12_readAgain_28 lk_X12_294 ok_X12_tellsStep (rcO o_534 (by decide) rfl) rfl rfl (c_X12_tellsStep hm hs (by omega) (fun I1 f1 x1 f2 w1 w2 w3 w4 => kt_v ?_))
      · have g1 := nR_ge q1
        have g2 := sk_ge (t := t) (N := N) (a := a1)
        have g3 := sk_ge (t := t) (N := N) (a := a2)
        have g5 := sk_ge (t := t) (N := N) (a := a + 5)
        have gN := sk_le (t := t) s2
        refine ra_lp (s0 := s) hS hG hF hN hk 150 I1 a2 (s + 1) x1 s2 (by omega) (by rw [f1 _ _ (by decide)]; exact h17) (by rw [f1 _ _ (by decide)]; exact h18) w1 (by omega) (fun e a' I2 op' z1 z2 z3 => ?_) (fun a' x I2 z1 z2 z9 z3 z4 z5 z6 => ?_)
        · have hbad : nI e.2 ≠ -1 := (nI_m1 (by omega))
          refine s_aload_n (pc := 54) (i := 0) dX12_readAgain_54 rfl rfl ?_
          refine m_bi (pc := 55) (v := 93) dX12_readAgain_55 rfl ?_
          refine m_v1 (pc := 57) dX12_readAgain_57 lk_X12_223 ok_X12_sign (rcO o_534 (by decide) rfl) rfl rfl (c_X12_sign_n hbad (kt_v ?_))
          refine s_aload_n (pc := 60) (i := 0) dX12_readAgain_60 rfl rfl ?_
          refine s_dup (pc := 61) dX12_readAgain_61 rfl ?_
          refine m_gi (pc := 62) dX12_readAgain_62 ff_X12_142 rfl o_534 ?_
          refine m_nm (v' := op') rfl ?_
          refine m_ic (pc := 65) (v := 1) dX12_readAgain_65 rfl ?_
          refine s_isub (pc := 66) dX12_readAgain_66 ?_
          refine m_pi (pc := 67) dX12_readAgain_67 ff_X12_142 rfl rfl o_534 ?_
          refine Rs_cg mp_o ?_
          refine s_aload_n (pc := 70) (i := 0) dX12_readAgain_70 rfl rfl ?_
          refine m_v0 (pc := 71) dX12_readAgain_71 lk_X12_131 ok_X12_fine (rcO o_534 (by decide) rfl) rfl rfl (c_X12_fine (fun h => absurd h hbad) (fun h => kt_s ?_))
          · refine s_ifeq (pc := 74) (tgt := 89) dX12_readAgain_74 rfl (fun h74 => ?_) (fun h74 => absurd h74 (by decide))
            refine s_return (pc := 89) dX12_readAgain_89 rfl ?_
            exact hb e _ I2 _ (by unfold agR; rw [q1]; simp only []; rw [s1]; simp only []; rw [z1]) (fM_t f1 z2) z3
        · have hm2 := mx_f x1 z3
          refine s_aload_n (pc := 54) (i := 0) dX12_readAgain_54 rfl rfl ?_
          refine m_bi (pc := 55) (v := 93) dX12_readAgain_55 rfl ?_
          refine m_v1 (pc := 57) dX12_readAgain_57 lk_X12_223 ok_X12_sign (rcO o_534 (by decide) rfl) rfl rfl (c_sg (c := 93) (mx_f x1 z3) z2 (by decide) (by decide) rfl (fun a4 r1 r2 r3 => kt_v ?_) (fun e r1 r2 r3 => kt_v ?_))
          · refine s_aload_n (pc := 60) (i := 0) dX12_readAgain_60 rfl rfl ?_
            refine s_dup (pc := 61) dX12_readAgain_61 rfl ?_
            refine m_gi (pc := 62) dX12_readAgain_62 ff_X12_142 rfl o_534 ?_
            refine m_nm (v' := (nI (o + 1))) rfl ?_
            refine m_ic (pc := 65) (v := 1) dX12_readAgain_65 rfl ?_
            refine s_isub (pc := 66) dX12_readAgain_66 ?_
            refine m_nm (v' := nI o) (nI_pred o) ?_
            refine m_pi (pc := 67) dX12_readAgain_67 ff_X12_142 rfl rfl o_534 ?_
            refine Rs_cg mp_o ?_
            refine s_aload_n (pc := 70) (i := 0) dX12_readAgain_70 rfl rfl ?_
            refine m_v0 (pc := 71) dX12_readAgain_71 lk_X12_131 ok_X12_fine (rcO o_534 (by decide) rfl) rfl rfl (c_X12_fine (fun h => kt_s ?_) (fun h => absurd rfl h))
            · refine s_ifeq (pc := 74) (tgt := 89) dX12_readAgain_74 rfl (fun h74 => absurd h74 (by decide)) (fun h74 => ?_)
              refine s_aload_n (pc := 77) (i := 0) dX12_readAgain_77 rfl rfl ?_
              refine m_gr (pc := 78) dX12_readAgain_78 ff_X12_53 rfl o_534 r_534_28 ?_
              refine s_iload_n (pc := 81) (i := 2) dX12_readAgain_81 rfl rfl ?_
              refine m_ic (pc := 82) (v := 2) dX12_readAgain_82 rfl ?_
              refine s_iadd (pc := 83) dX12_readAgain_83 ?_
              refine m_nm (v' := nI ((3 * s) + 2)) (nI_add (3 * s) 2) ?_
              refine s_aload_n (pc := 84) (i := 0) dX12_readAgain_84 rfl rfl ?_
              refine m_gi (pc := 85) dX12_readAgain_85 ff_X12_281 rfl o_534 ?_
              refine m_nm (v' := nI (3 * (s + 1 + mln mn x))) (by rw [mp_x (by decide)]; exact z5) ?_
              refine m_is (pc := 88) dX12_readAgain_88 a_547 (vp_in_nI (n := (3 * s) + 2) (by omega) (by decide)) ?_
              rw [nI_clamp (n := (3 * s) + 2) (by omega)]
              refine st_mp hm2 (by omega) (by decide) (fun I88 e88 hm => ?_)
              refine s_return (pc := 89) dX12_readAgain_89 rfl ?_
              have F3 : fM I I88 := fM_t f1 (fM_t z3 (by rw [e88]; exact fM_u fM_r (by omega)))
              have e7 : ∀ j, j ≠ 3 * s + 2 → I88 547 j = I2 547 j := fun j u => by rw [e88, up_k u]
              refine hg a4 (.inr (v, x)) I88 (by unfold agR; rw [q1]; simp only []; rw [s1]; simp only []; rw [z1]; simp only []; rw [r1]) r2 F3 (fun j u => ?_) ?_ ⟨?_, ?_, ?_, ?_, trivial⟩
              · rw [e7 j (by omega), z4 j (by omega), f2 j u]
              · rw [e88, up_a (by decide), z5]; simp only [mln]; congr 1; omega
              · rw [e7 _ (by omega), z4 _ (by omega)]; exact w2
              · rw [e7 _ (by omega), z4 _ (by omega)]; exact w3
              · rw [e88, up_s]
              · exact PmL_fr hF x (s + 1) (I2 547) (I88 547) (fun j u1 u2 => e7 j (by omega)) z6
          · have hbad : nI e.2 ≠ -1 := (nI_m1 (by omega))
            refine s_aload_n (pc := 60) (i := 0) dX12_readAgain_60 rfl rfl ?_
            refine s_dup (pc := 61) dX12_readAgain_61 rfl ?_
            refine m_gi (pc := 62) dX12_readAgain_62 ff_X12_142 rfl o_534 ?_
            refine m_nm (v' := (nI (o + 1))) rfl ?_
            refine m_ic (pc := 65) (v := 1) dX12_readAgain_65 rfl ?_
            refine s_isub (pc := 66) dX12_readAgain_66 ?_
            refine m_pi (pc := 67) dX12_readAgain_67 ff_X12_142 rfl rfl o_534 ?_
            refine Rs_cg mp_o ?_
            refine s_aload_n (pc := 70) (i := 0) dX12_readAgain_70 rfl rfl ?_
            refine m_v0 (pc := 71) dX12_readAgain_71 lk_X12_131 ok_X12_fine (rcO o_534 (by decide) rfl) rfl rfl (c_X12_fine (fun h => absurd h hbad) (fun h => kt_s ?_))
            · refine s_ifeq (pc := 74) (tgt := 89) dX12_readAgain_74 rfl (fun h74 => ?_) (fun h74 => absurd h74 (by decide))
              refine s_return (pc := 89) dX12_readAgain_89 rfl ?_
              exact hb e _ I2 _ (by unfold agR; rw [q1]; simp only []; rw [s1]; simp only []; rw [z1]; simp only []; rw [r1]) (fM_t f1 z3) r3
    · have hbad : nI e.2 ≠ -1 := (nI_m1 (by omega))
      refine s_aload_n (pc := 19) (i := 0) dX12_readAgain_19 rfl rfl ?_
      refine m_gi (pc := 20) dX12_readAgain_20 ff_X12_281 rfl o_534 ?_
      refine m_nm (v' := nI (3 * s)) (by rw [mp_x (by decide)]; exact hs) ?_
      refine s_istore_n (pc := 23) (i := 2) dX12_readAgain_23 rfl (Nat.le_of_ble_eq_true rfl) ?_
      dsimp only [List.set, List.filter]
      refine s_aload_n (pc := 24) (i := 0) dX12_readAgain_24 rfl rfl ?_
      refine m_ic (pc := 25) (v := 5) dX12_readAgain_25 rfl ?_
      refine s_iload_n (pc := 26) (i := 1) dX12_readAgain_26 rfl rfl ?_
      refine m_ic (pc := 27) (v := 0) dX12_readAgain_27 rfl ?_
      refine m_v3 (pc := 28) dX12_readAgain_28 lk_X12_294 ok_X12_tellsStep (rcO o_534 (by decide) rfl) rfl rfl (c_tells_n hbad (kt_v ?_))
      refine s_aload_n (pc := 31) (i := 0) dX12_readAgain_31 rfl rfl ?_
      refine m_v0 (pc := 32) dX12_readAgain_32 lk_X12_131 ok_X12_fine (rcO o_534 (by decide) rfl) rfl rfl (c_X12_fine (fun h => absurd h hbad) (fun h => kt_s ?_))
      · refine s_ifeq (pc := 35) (tgt := 54) dX12_readAgain_35 rfl (fun h35 => ?_) (fun h35 => absurd h35 (by decide))
        refine s_aload_n (pc := 54) (i := 0) dX12_readAgain_54 rfl rfl ?_
        refine m_bi (pc := 55) (v := 93) dX12_readAgain_55 rfl ?_
        refine m_v1 (pc := 57) dX12_readAgain_57 lk_X12_223 ok_X12_sign (rcO o_534 (by decide) rfl) rfl rfl (c_X12_sign_n hbad (kt_v ?_))
        refine s_aload_n (pc := 60) (i := 0) dX12_readAgain_60 rfl rfl ?_
        refine s_dup (pc := 61) dX12_readAgain_61 rfl ?_
        refine m_gi (pc := 62) dX12_readAgain_62 ff_X12_142 rfl o_534 ?_
        refine m_nm (v' := (nI (o + 1))) rfl ?_
        refine m_ic (pc := 65) (v := 1) dX12_readAgain_65 rfl ?_
        refine s_isub (pc := 66) dX12_readAgain_66 ?_
        refine m_pi (pc := 67) dX12_readAgain_67 ff_X12_142 rfl rfl o_534 ?_
        refine Rs_cg mp_o ?_
        refine s_aload_n (pc := 70) (i := 0) dX12_readAgain_70 rfl rfl ?_
        refine m_v0 (pc := 71) dX12_readAgain_71 lk_X12_131 ok_X12_fine (rcO o_534 (by decide) rfl) rfl rfl (c_X12_fine (fun h => absurd h hbad) (fun h => kt_s ?_))
        · refine s_ifeq (pc := 74) (tgt := 89) dX12_readAgain_74 rfl (fun h74 => ?_) (fun h74 => absurd h74 (by decide))
          refine s_return (pc := 89) dX12_readAgain_89 rfl ?_
          exact hb e _ I _ (by unfold agR; rw [q1]; simp only []; rw [s1]) fM_r s3
end S
