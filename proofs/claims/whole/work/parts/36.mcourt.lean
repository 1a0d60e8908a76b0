section S
variable {g : aG} {d : Nat} {I : Nat → Nat → Int32} {J : Nat → Nat → Int64} {n w : Nat} {Q : aO → aS → Prop}
variable {t : Nat → Nat} {N a : Nat} {bk op : Int32} {σ : aS}
/-- what reading changes in the model, its place and fault aside -/
def fM (I I' : Nat → Nat → Int32) : Prop := ∀ x j, (x ≠ 537 ∧ x ≠ 538 ∧ x ≠ 541 ∧ x ≠ 542 ∧ x ≠ 547 ∧ x ≠ 552 ∧ (x ≠ 534 ∨ (j ≠ 14 ∧ j ≠ 15 ∧ j ≠ 16 ∧ j ≠ 25 ∧ j ≠ 30))) → I' x j = I x j
theorem fM_r : fM I I := fun _ _ _ => rfl
theorem fM_t {I' I'' : Nat → Nat → Int32} (h : fM I I') (h2 : fM I' I'') : fM I I'' := fun x j q => (h2 x j q).trans (h x j q)
theorem fM_u {I' : Nat → Nat → Int32} {x k : Nat} {v : Int32} (h : fM I I') (hx : ¬ (x ≠ 537 ∧ x ≠ 538 ∧ x ≠ 541 ∧ x ≠ 542 ∧ x ≠ 547 ∧ x ≠ 552 ∧ (x ≠ 534 ∨ (k ≠ 14 ∧ k ≠ 15 ∧ k ≠ 16 ∧ k ≠ 25 ∧ k ≠ 30)))) : fM I (up I' x k v) := fun y j q => by
  unfold up
  rw [if_neg (by rintro ⟨e1, e2⟩; subst e1; subst e2; exact hx q)]; exact h y j q
theorem mx_f {I' : Nat → Nat → Int32} (h : mx I t N) (f : fM I I') : mx I' t N := ⟨h.1, (f 534 3 (by omega)).trans h.2.1, fun i hi => ⟨(h.2.2 i hi).1, (f 536 i (by omega)).trans (h.2.2 i hi).2⟩⟩
theorem mul2 (k : Nat) : (2 : Int32) * nI k = nI (2 * k) := by rw [show (2 : Int32) = nI 2 from rfl, pk_mul]
theorem Mo_B {D : cD} {v u : Nat} (h : Mo I 14 537 538 D) : Mo (up (up (up I 537 (2 * cb D) (nI v)) 537 (2 * cb D + 1) (nI u)) 534 14 (nI (cb D + 1))) 14 537 538 (dB D v u) := by
  obtain ⟨h1, h2, h3, h4, h5⟩ := h
  refine ⟨rfl, ?_, ?_, fun b hb => ?_, fun c hc => ?_⟩
  · rw [up_k (by decide), up_a (by decide), up_a (by decide)]; exact h2
  · rw [up_k (by decide), up_a (by decide), up_a (by decide)]; exact h3
  · show _ = nI (fs (cS D) (cb D) v b) ∧ _ = nI (fs (cC D) (cb D) u b)
    have hb2 : b < cb D + 1 := hb
    unfold fs
    by_cases e : b = cb D
    · subst e; rw [if_pos rfl, if_pos rfl]
      exact ⟨by rw [up_a (by decide), up_k (by omega), up_s], by rw [up_a (by decide), up_s]⟩
    · rw [if_neg e, if_neg e]
      have := h4 b (by omega)
      exact ⟨by rw [up_a (by decide), up_k (by omega), up_k (by omega)]; exact this.1, by rw [up_a (by decide), up_k (by omega), up_k (by omega)]; exact this.2⟩
  · have := h5 c hc
    exact ⟨by rw [up_a (by decide), up_a (by decide), up_a (by decide)]; exact this.1, by rw [up_a (by decide), up_a (by decide), up_a (by decide)]; exact this.2⟩
theorem Mo_C {D : cD} {v u : Nat} (h : Mo I 14 537 538 D) : Mo (up (up (up I 538 (2 * cc D) (nI v)) 538 (2 * cc D + 1) (nI u)) 534 15 (nI (cc D + 1))) 14 537 538 (dC D v u) := by
  obtain ⟨h1, h2, h3, h4, h5⟩ := h
  refine ⟨?_, rfl, ?_, fun b hb => ?_, fun c hc => ?_⟩
  · rw [up_k (by decide), up_a (by decide), up_a (by decide)]; exact h1
  · rw [up_k (by decide), up_a (by decide), up_a (by decide)]; exact h3
  · have := h4 b hb
    exact ⟨by rw [up_a (by decide), up_a (by decide), up_a (by decide)]; exact this.1, by rw [up_a (by decide), up_a (by decide), up_a (by decide)]; exact this.2⟩
  · show _ = nI (fs (cH D) (cc D) v c) ∧ _ = nI (fs (cL D) (cc D) u c)
    have hb2 : c < cc D + 1 := hc
    unfold fs
    by_cases e : c = cc D
    · subst e; rw [if_pos rfl, if_pos rfl]
      exact ⟨by rw [up_a (by decide), up_k (by omega), up_s], by rw [up_a (by decide), up_s]⟩
    · rw [if_neg e, if_neg e]
      have := h5 c (by omega)
      exact ⟨by rw [up_a (by decide), up_k (by omega), up_k (by omega)]; exact this.1, by rw [up_a (by decide), up_k (by omega), up_k (by omega)]; exact this.2⟩
theorem Mo_K {D : cD} {v : Nat} (h : Mo I 14 537 538 D) : Mo (up I 534 16 (nI v)) 14 537 538 (dK D v) := by
  obtain ⟨h1, h2, h3, h4, h5⟩ := h
  exact ⟨by rw [up_k (by decide)]; exact h1, by rw [up_k (by decide)]; exact h2, rfl, fun b hb => by rw [up_a (by decide), up_a (by decide)]; exact h4 b hb, fun c hc => by rw [up_a (by decide), up_a (by decide)]; exact h5 c hc⟩
theorem c_X12_isRow {x : Int32} (ht : (x = oc 0 ∨ x = -7 ∨ x = oc 2) → Q (.inl (some (.int 1))) σ) (hf : ¬ (x = oc 0 ∨ x = -7 ∨ x = oc 2) → Q (.inl (some (.int 0))) σ) : Cn g (d + 5) mX12_isRow [.int x] σ Q := by
  show Rn g (d + 5) mX12_isRow 0 [.int x] [] [] σ Q
  refine s_iload_n (pc := 0) (i := 0) dX12_isRow_0 rfl rfl ?_
  refine s_ldcS (pc := 1) (j := 0) dX12_isRow_1 sr_X12_182 rfl ?_
  refine m_s1 (pc := 3) dX12_isRow_3 lk_X12_183 ok_X12_of rfl rfl (c_of (j := 0) rfl (by decide) (by decide) (kt_s ?_))
  refine s_iceq (pc := 6) (tgt := 24) dX12_isRow_6 rfl (fun h6 => ?_) (fun h6 => ?_)
  · refine m_ic (pc := 24) (v := 1) dX12_isRow_24 rfl ?_
    refine s_goto (pc := 25) (tgt := 29) dX12_isRow_25 rfl ?_
    refine s_ireturn (pc := 29) dX12_isRow_29 rfl rfl ?_
    first | exact ht (Or.inl h6) | exact ht (Or.inr (Or.inl h12)) | exact ht (Or.inr (Or.inr h21)) | exact hf (fun z => by rcases z with z | z | z; exact h6 z; exact h12 z; exact h21 z)
  · refine s_iload_n (pc := 9) (i := 0) dX12_isRow_9 rfl rfl ?_
    refine m_bi (pc := 10) (v := (-7)) dX12_isRow_10 rfl ?_
    refine s_iceq (pc := 12) (tgt := 24) dX12_isRow_12 rfl (fun h12 => ?_) (fun h12 => ?_)
    · refine m_ic (pc := 24) (v := 1) dX12_isRow_24 rfl ?_
      refine s_goto (pc := 25) (tgt := 29) dX12_isRow_25 rfl ?_
      refine s_ireturn (pc := 29) dX12_isRow_29 rfl rfl ?_
      first | exact ht (Or.inl h6) | exact ht (Or.inr (Or.inl h12)) | exact ht (Or.inr (Or.inr h21)) | exact hf (fun z => by rcases z with z | z | z; exact h6 z; exact h12 z; exact h21 z)
    · refine s_iload_n (pc := 15) (i := 0) dX12_isRow_15 rfl rfl ?_
      refine s_ldcS (pc := 16) (j := 2) dX12_isRow_16 sr_X12_187 rfl ?_
      refine m_s1 (pc := 18) dX12_isRow_18 lk_X12_183 ok_X12_of rfl rfl (c_of (j := 2) rfl (by decide) (by decide) (kt_s ?_))
      refine s_icne (pc := 21) (tgt := 28) dX12_isRow_21 rfl (fun h21 => ?_) (fun h21 => ?_)
      · refine m_ic (pc := 28) (v := 0) dX12_isRow_28 rfl ?_
        refine s_ireturn (pc := 29) dX12_isRow_29 rfl rfl ?_
        first | exact ht (Or.inl h6) | exact ht (Or.inr (Or.inl h12)) | exact ht (Or.inr (Or.inr h21)) | exact hf (fun z => by rcases z with z | z | z; exact h6 z; exact h12 z; exact h21 z)
      · refine m_ic (pc := 24) (v := 1) dX12_isRow_24 rfl ?_
        refine s_goto (pc := 25) (tgt := 29) dX12_isRow_25 rfl ?_
        refine s_ireturn (pc := 29) dX12_isRow_29 rfl rfl ?_
        first | exact ht (Or.inl h6) | exact ht (Or.inr (Or.inl h12)) | exact ht (Or.inr (Or.inr h21)) | exact hf (fun z => by rcases z with z | z | z; exact h6 z; exact h12 z; exact h21 z)
theorem c_X12_isFull {D : cD} {x : Int32} (hD : Mo I 14 537 538 D) (hk : cOk D) (ht : ((x = oc 0 ∧ cb D = 7) ∨ (x ≠ oc 0 ∧ x = -7 ∧ cc D = 12)) → Q (.inl (some (.int 1))) (Z (mp I a (-1) bk op) J n w)) (hf : ¬ ((x = oc 0 ∧ cb D = 7) ∨ (x ≠ oc 0 ∧ x = -7 ∧ cc D = 12)) → Q (.inl (some (.int 0))) (Z (mp I a (-1) bk op) J n w)) : Cn g (d + 5) mX12_isFull [.ref 534, .int x] (Z (mp I a (-1) bk op) J n w) Q := by
  have hc7 := hk.1
  have hc12 := hk.2.1
  have e7 : (7 : Int32) = nI 7 := rfl
  have e12 : (12 : Int32) = nI 12 := rfl
  show Rn g (d + 5) mX12_isFull 0 [.ref 534, .int x] [] [] (Z (mp I a (-1) bk op) J n w) Q
  refine s_iload_n (pc := 0) (i := 1) dX12_isFull_0 rfl rfl ?_
  refine s_ldcS (pc := 1) (j := 0) dX12_isFull_1 sr_X12_182 rfl ?_
  refine m_s1 (pc := 3) dX12_isFull_3 lk_X12_183 ok_X12_of rfl rfl (c_of (j := 0) rfl (by decide) (by decide) (kt_s ?_))
  refine s_icne (pc := 6) (tgt := 26) dX12_isFull_6 rfl (fun h6 => ?_) (fun h6 => ?_)
  · refine s_iload_n (pc := 26) (i := 1) dX12_isFull_26 rfl rfl ?_
    refine m_bi (pc := 27) (v := (-7)) dX12_isFull_27 rfl ?_
    refine s_icne (pc := 29) (tgt := 45) dX12_isFull_29 rfl (fun h29 => ?_) (fun h29 => ?_)
    · refine m_ic (pc := 45) (v := 0) dX12_isFull_45 rfl ?_
      refine s_ireturn (pc := 46) dX12_isFull_46 rfl rfl ?_
      first | exact ht (Or.inl ⟨h6, h15⟩) | exact hf (fun z => by rcases z with ⟨z, z2⟩ | ⟨z, z2, z3⟩; exact h15 z2; exact z h6) | exact ht (Or.inr ⟨h6, h29, h38⟩) | exact hf (fun z => by rcases z with ⟨z, z2⟩ | ⟨z, z2, z3⟩; exact h6 z; exact h38 z3) | exact hf (fun z => by rcases z with ⟨z, z2⟩ | ⟨z, z2, z3⟩; exact h6 z; exact h29 z2)
    · refine s_aload_n (pc := 32) (i := 0) dX12_isFull_32 rfl rfl ?_
      refine m_gi (pc := 33) dX12_isFull_33 ff_X12_148 rfl o_534 ?_
      refine m_nm (v' := nI (cc D)) ((mp_x (by decide)).trans hD.2.1) ?_
      refine m_bi (pc := 36) (v := 12) dX12_isFull_36 rfl ?_
      refine s_icne (pc := 38) (tgt := 45) dX12_isFull_38 rfl (fun h38 => ?_) (fun h38 => ?_)
      · rw [e12, nI_eq (by omega) (by omega)] at h38
        refine m_ic (pc := 45) (v := 0) dX12_isFull_45 rfl ?_
        refine s_ireturn (pc := 46) dX12_isFull_46 rfl rfl ?_
        first | exact ht (Or.inl ⟨h6, h15⟩) | exact hf (fun z => by rcases z with ⟨z, z2⟩ | ⟨z, z2, z3⟩; exact h15 z2; exact z h6) | exact ht (Or.inr ⟨h6, h29, h38⟩) | exact hf (fun z => by rcases z with ⟨z, z2⟩ | ⟨z, z2, z3⟩; exact h6 z; exact h38 z3) | exact hf (fun z => by rcases z with ⟨z, z2⟩ | ⟨z, z2, z3⟩; exact h6 z; exact h29 z2)
      · rw [e12, nI_eq (by omega) (by omega)] at h38
        refine m_ic (pc := 41) (v := 1) dX12_isFull_41 rfl ?_
        refine s_goto (pc := 42) (tgt := 46) dX12_isFull_42 rfl ?_
        refine s_ireturn (pc := 46) dX12_isFull_46 rfl rfl ?_
        first | exact ht (Or.inl ⟨h6, h15⟩) | exact hf (fun z => by rcases z with ⟨z, z2⟩ | ⟨z, z2, z3⟩; exact h15 z2; exact z h6) | exact ht (Or.inr ⟨h6, h29, h38⟩) | exact hf (fun z => by rcases z with ⟨z, z2⟩ | ⟨z, z2, z3⟩; exact h6 z; exact h38 z3) | exact hf (fun z => by rcases z with ⟨z, z2⟩ | ⟨z, z2, z3⟩; exact h6 z; exact h29 z2)
  · refine s_aload_n (pc := 9) (i := 0) dX12_isFull_9 rfl rfl ?_
    refine m_gi (pc := 10) dX12_isFull_10 ff_X12_145 rfl o_534 ?_
    refine m_nm (v' := nI (cb D)) ((mp_x (by decide)).trans hD.1) ?_
    refine m_bi (pc := 13) (v := 7) dX12_isFull_13 rfl ?_
    refine s_icne (pc := 15) (tgt := 22) dX12_isFull_15 rfl (fun h15 => ?_) (fun h15 => ?_)
    · rw [e7, nI_eq (by omega) (by omega)] at h15
      refine m_ic (pc := 22) (v := 0) dX12_isFull_22 rfl ?_
      refine s_goto (pc := 23) (tgt := 46) dX12_isFull_23 rfl ?_
      refine s_ireturn (pc := 46) dX12_isFull_46 rfl rfl ?_
      first | exact ht (Or.inl ⟨h6, h15⟩) | exact hf (fun z => by rcases z with ⟨z, z2⟩ | ⟨z, z2, z3⟩; exact h15 z2; exact z h6) | exact ht (Or.inr ⟨h6, h29, h38⟩) | exact hf (fun z => by rcases z with ⟨z, z2⟩ | ⟨z, z2, z3⟩; exact h6 z; exact h38 z3) | exact hf (fun z => by rcases z with ⟨z, z2⟩ | ⟨z, z2, z3⟩; exact h6 z; exact h29 z2)
    · rw [e7, nI_eq (by omega) (by omega)] at h15
      refine m_ic (pc := 18) (v := 1) dX12_isFull_18 rfl ?_
      refine s_goto (pc := 19) (tgt := 46) dX12_isFull_19 rfl ?_
      refine s_ireturn (pc := 46) dX12_isFull_46 rfl rfl ?_
      first | exact ht (Or.inl ⟨h6, h15⟩) | exact hf (fun z => by rcases z with ⟨z, z2⟩ | ⟨z, z2, z3⟩; exact h15 z2; exact z h6) | exact ht (Or.inr ⟨h6, h29, h38⟩) | exact hf (fun z => by rcases z with ⟨z, z2⟩ | ⟨z, z2, z3⟩; exact h6 z; exact h38 z3) | exact hf (fun z => by rcases z with ⟨z, z2⟩ | ⟨z, z2, z3⟩; exact h6 z; exact h29 z2)
theorem nR_gt {b lo hi v : Nat} (h : nR t N (sk t N a) lo hi = .inr (v, sk t N b)) (h2 : True) : True := trivial
theorem c_rn2 {lo1 hi1 : Nat} {lo hi : Int32} (hm : mx I t N) (ha : a ≤ N) (hlo : lo = nI lo1) (hhi : hi = nI hi1 - 1) (hmm : lo1 ≤ 10000 ∧ hi1 ≤ 10000)
    (hb : ∀ e a', nR t N (sk t N a) lo1 hi1 = .inl e → a' ≤ N → e.2 ≤ 600 → Q (.inl (some (.int 0))) (Z (mp I a' (nI e.2) (nI e.1) op) J n w))
    (hg : ∀ v a', nR t N (sk t N a) lo1 hi1 = .inr (v, sk t N a') → lo1 ≤ v → v < hi1 → a' ≤ N → sk t N a < a' → Q (.inl (some (.int (nI v)))) (Z (mp I a' (-1) bk op) J n w)) : Cn g (d + 1) mX12_readNumber [.ref 534, .int lo, .int hi] (Z (mp I a (-1) bk op) J n w) Q := by
  subst hlo; subst hhi
  have hs := sk_le (t := t) ha
  have hN := hm.1
  refine c_X12_readNumber hm ha rfl (lo_k (by omega)) (hi_s (by omega)) hmm (fun h => ?_) (fun h1 h2 h3 => ?_) (fun h1 h2 h3 h4 => ?_)
  · exact hb (1, sk t N a) _ (by unfold nR; rw [if_neg]; rintro ⟨q1, q2⟩; rcases h with h | h; omega; rw [h] at q2; cases q2) hs (by omega)
  · exact hb (2, sk t N a) _ (by unfold nR; rw [if_pos ⟨h1, h2⟩, if_neg (by omega)]) (dE_le hs) (by omega)
  · exact hg _ _ (by unfold nR; rw [if_pos ⟨h1, h2⟩, if_pos ⟨h3, h4⟩]) h3 h4 (dE_le hs) (by have q3 := dE_one (t := t) h1 h2; have q4 := dE_ge (t := t) (N := N) (a := sk t N a + 1); omega)
theorem c_rr_b {D : cD} {x : Int32} (hm : mx I t N) (ha : a ≤ N) (hD : Mo I 14 537 538 D) (hk : cOk D) (hw : x = oc 0) (h7 : cb D < 7) (hb : ∀ e a' I', rB t N (sk t N a) D = .inl e → e.2 ≤ 600 → a' ≤ N → fM I I' → Q (.inl none) (Z (mp I' a' (nI e.2) (nI e.1) op) J n w)) (hg : ∀ a' D' I', rB t N (sk t N a) D = .inr (sk t N a', D') → a' ≤ N → sk t N a ≤ a' → fM I I' → Mo I' 14 537 538 D' → cOk D' → Q (.inl none) (Z (mp I' a' (-1) bk op) J n w)) : Cn g (d + 5) mX12_readRow [.ref 534, .int x] (Z (mp I a (-1) bk op) J n w) Q := by
  have hN := hm.1
  have hc7 := hk.1
  have hc12 := hk.2.1
  show Rn g (d + 5) mX12_readRow 0 [.ref 534, .int x] [] [] (Z (mp I a (-1) bk op) J n w) Q
  refine s_iload_n (pc := 0) (i := 1) dX12_readRow_0 rfl rfl ?_
  refine s_ldcS (pc := 1) (j := 0) dX12_readRow_1 sr_X12_182 rfl ?_
  refine m_s1 (pc := 3) dX12_readRow_3 lk_X12_183 ok_X12_of rfl rfl (c_of (j := 0) rfl (by decide) (by decide) (kt_s ?_))
  refine s_icne (pc := 6) (tgt := 60) dX12_readRow_6 rfl (fun h6 => absurd (hw) h6) (fun h6 => ?_)
  refine s_aload_n (pc := 9) (i := 0) dX12_readRow_9 rfl rfl ?_
  refine m_gr (pc := 10) dX12_readRow_10 ff_X12_23 rfl o_534 r_534_10 ?_
  refine m_ic (pc := 13) (v := 2) dX12_readRow_13 rfl ?_
  refine s_aload_n (pc := 14) (i := 0) dX12_readRow_14 rfl rfl ?_
  refine m_gi (pc := 15) dX12_readRow_15 ff_X12_145 rfl o_534 ?_
  refine m_nm (v' := nI (cb D)) ((mp_x (by decide)).trans hD.1) ?_
  refine s_imul (pc := 18) dX12_readRow_18 ?_
  refine m_nm (v' := nI (2 * cb D)) (mul2 _) ?_
  refine s_aload_n (pc := 19) (i := 0) dX12_readRow_19 rfl rfl ?_
  refine m_ic (pc := 20) (v := 1) dX12_readRow_20 rfl ?_
  refine m_bi (pc := 21) (v := 99) dX12_readRow_21 rfl ?_
  refine m_v2 (pc := 23) dX12_readRow_23 lk_X12_188 ok_X12_readNumber (rcO o_534 (by decide) rfl) rfl rfl (c_rn2 hm ha (lo1 := 1) (hi1 := 100) rfl rfl (by decide) (fun e a1 h1 ha1 he => kt_s ?_) (fun v1 a1 h1 hv1 hv2 ha1 hl1 => kt_s ?_))
  · refine m_is (pc := 26) dX12_readRow_26 a_537 (vp_in_nI (by omega) (by decide)) ?_
    refine st_mp hm (by omega) (by decide) (fun I26 e26 hm => ?_)
    refine s_aload_n (pc := 27) (i := 0) dX12_readRow_27 rfl rfl ?_
    refine m_gr (pc := 28) dX12_readRow_28 ff_X12_23 rfl o_534 r_534_10 ?_
    refine m_ic (pc := 31) (v := 2) dX12_readRow_31 rfl ?_
    refine s_aload_n (pc := 32) (i := 0) dX12_readRow_32 rfl rfl ?_
    refine m_gi (pc := 33) dX12_readRow_33 ff_X12_145 rfl o_534 ?_
    refine m_nm (v' := nI (cb D)) (by rw [mp_x (by decide), e26, up_a (by decide)]; exact hD.1) ?_
    refine s_imul (pc := 36) dX12_readRow_36 ?_
    refine m_nm (v' := nI (2 * cb D)) (mul2 _) ?_
    refine m_ic (pc := 37) (v := 1) dX12_readRow_37 rfl ?_
    refine s_iadd (pc := 38) dX12_readRow_38 ?_
    refine m_nm (v' := nI (2 * cb D + 1)) (nI_1 _) ?_
    refine s_aload_n (pc := 39) (i := 0) dX12_readRow_39 rfl rfl ?_
    refine m_ic (pc := 40) (v := 0) dX12_readRow_40 rfl ?_
    refine m_bi (pc := 41) (v := 9) dX12_readRow_41 rfl ?_
    refine m_v2 (pc := 43) dX12_readRow_43 lk_X12_188 ok_X12_readNumber (rcO o_534 (by decide) rfl) rfl rfl (c_X12_readNumber_n (nI_m1 (by omega)) (kt_s ?_))
    refine m_is (pc := 46) dX12_readRow_46 a_537 (vp_in_nI (by omega) (by decide)) ?_
    refine st_mp hm (by omega) (by decide) (fun I46 e46 hm => ?_)
    refine s_aload_n (pc := 47) (i := 0) dX12_readRow_47 rfl rfl ?_
    refine s_dup (pc := 48) dX12_readRow_48 rfl ?_
    refine m_gi (pc := 49) dX12_readRow_49 ff_X12_145 rfl o_534 ?_
    refine m_nm (v' := nI (cb D)) (by rw [mp_x (by decide), e46, up_a (by decide), e26, up_a (by decide)]; exact hD.1) ?_
    refine m_ic (pc := 52) (v := 1) dX12_readRow_52 rfl ?_
    refine s_iadd (pc := 53) dX12_readRow_53 ?_
    refine m_nm (v' := nI (cb D + 1)) (nI_1 _) ?_
    refine m_pi (pc := 54) dX12_readRow_54 ff_X12_145 rfl rfl o_534 ?_
    refine st_mp hm (by omega) (by decide) (fun I54 e54 hm => ?_)
    refine s_goto (pc := 57) (tgt := 131) dX12_readRow_57 rfl ?_
    refine s_return (pc := 131) dX12_readRow_131 rfl ?_
    subst e54; subst e46; subst e26
    exact hb e a1 _ (by unfold rB; rw [h1]) he ha1 (fM_u (fM_u (fM_u fM_r (by omega)) (by omega)) (by decide))
  · refine m_is (pc := 26) dX12_readRow_26 a_537 (vp_in_nI (by omega) (by decide)) ?_
    refine st_mp hm (by omega) (by decide) (fun I26 e26 hm => ?_)
    refine s_aload_n (pc := 27) (i := 0) dX12_readRow_27 rfl rfl ?_
    refine m_gr (pc := 28) dX12_readRow_28 ff_X12_23 rfl o_534 r_534_10 ?_
    refine m_ic (pc := 31) (v := 2) dX12_readRow_31 rfl ?_
    refine s_aload_n (pc := 32) (i := 0) dX12_readRow_32 rfl rfl ?_
    refine m_gi (pc := 33) dX12_readRow_33 ff_X12_145 rfl o_534 ?_
    refine m_nm (v' := nI (cb D)) (by rw [mp_x (by decide), e26, up_a (by decide)]; exact hD.1) ?_
    refine s_imul (pc := 36) dX12_readRow_36 ?_
    refine m_nm (v' := nI (2 * cb D)) (mul2 _) ?_
    refine m_ic (pc := 37) (v := 1) dX12_readRow_37 rfl ?_
    refine s_iadd (pc := 38) dX12_readRow_38 ?_
    refine m_nm (v' := nI (2 * cb D + 1)) (nI_1 _) ?_
    refine s_aload_n (pc := 39) (i := 0) dX12_readRow_39 rfl rfl ?_
    refine m_ic (pc := 40) (v := 0) dX12_readRow_40 rfl ?_
    refine m_bi (pc := 41) (v := 9) dX12_readRow_41 rfl ?_
    refine m_v2 (pc := 43) dX12_readRow_43 lk_X12_188 ok_X12_readNumber (rcO o_534 (by decide) rfl) rfl rfl (c_rn2 hm ha1 (lo1 := 0) (hi1 := 10) rfl rfl (by decide) (fun e a2 h2 ha2 he => kt_s ?_) (fun v2 a2 h2 hu1 hu2 ha2 hl2 => kt_s ?_))
    · refine m_is (pc := 46) dX12_readRow_46 a_537 (vp_in_nI (by omega) (by decide)) ?_
      refine st_mp hm (by omega) (by decide) (fun I46 e46 hm => ?_)
      refine s_aload_n (pc := 47) (i := 0) dX12_readRow_47 rfl rfl ?_
      refine s_dup (pc := 48) dX12_readRow_48 rfl ?_
      refine m_gi (pc := 49) dX12_readRow_49 ff_X12_145 rfl o_534 ?_
      refine m_nm (v' := nI (cb D)) (by rw [mp_x (by decide), e46, up_a (by decide), e26, up_a (by decide)]; exact hD.1) ?_
      refine m_ic (pc := 52) (v := 1) dX12_readRow_52 rfl ?_
      refine s_iadd (pc := 53) dX12_readRow_53 ?_
      refine m_nm (v' := nI (cb D + 1)) (nI_1 _) ?_
      refine m_pi (pc := 54) dX12_readRow_54 ff_X12_145 rfl rfl o_534 ?_
      refine st_mp hm (by omega) (by decide) (fun I54 e54 hm => ?_)
      refine s_goto (pc := 57) (tgt := 131) dX12_readRow_57 rfl ?_
      refine s_return (pc := 131) dX12_readRow_131 rfl ?_
      subst e54; subst e46; subst e26
      exact hb e a2 _ (by unfold rB; rw [h1]; simp only []; rw [h2]) he ha2 (fM_u (fM_u (fM_u fM_r (by omega)) (by omega)) (by decide))
    · refine m_is (pc := 46) dX12_readRow_46 a_537 (vp_in_nI (by omega) (by decide)) ?_
      refine st_mp hm (by omega) (by decide) (fun I46 e46 hm => ?_)
      refine s_aload_n (pc := 47) (i := 0) dX12_readRow_47 rfl rfl ?_
      refine s_dup (pc := 48) dX12_readRow_48 rfl ?_
      refine m_gi (pc := 49) dX12_readRow_49 ff_X12_145 rfl o_534 ?_
      refine m_nm (v' := nI (cb D)) (by rw [mp_x (by decide), e46, up_a (by decide), e26, up_a (by decide)]; exact hD.1) ?_
      refine m_ic (pc := 52) (v := 1) dX12_readRow_52 rfl ?_
      refine s_iadd (pc := 53) dX12_readRow_53 ?_
      refine m_nm (v' := nI (cb D + 1)) (nI_1 _) ?_
      refine m_pi (pc := 54) dX12_readRow_54 ff_X12_145 rfl rfl o_534 ?_
      refine st_mp hm (by omega) (by decide) (fun I54 e54 hm => ?_)
      refine s_goto (pc := 57) (tgt := 131) dX12_readRow_57 rfl ?_
      refine s_return (pc := 131) dX12_readRow_131 rfl ?_
      rw [nI_clamp (by omega)] at e26 e46
      have hsk := sk_ge (t := t) (N := N) (a := a1)
      subst e54; subst e46; subst e26
      exact hg a2 _ _ (by unfold rB; rw [h1]; simp only []; rw [h2]) ha2 (by omega) (fM_u (fM_u (fM_u fM_r (by omega)) (by omega)) (by decide)) (Mo_B hD) (cOk_B hk h7 ⟨hv1, hv2⟩ hu2)
theorem c_rr_c {D : cD} {x : Int32} (hm : mx I t N) (ha : a ≤ N) (hD : Mo I 14 537 538 D) (hk : cOk D) (hw : ¬ x = oc 0) (hw2 : ¬ x = oc 2) (h7 : cc D < 12) (hb : ∀ e a' I', rC t N (sk t N a) D = .inl e → e.2 ≤ 600 → a' ≤ N → fM I I' → Q (.inl none) (Z (mp I' a' (nI e.2) (nI e.1) op) J n w)) (hg : ∀ a' D' I', rC t N (sk t N a) D = .inr (sk t N a', D') → a' ≤ N → sk t N a ≤ a' → fM I I' → Mo I' 14 537 538 D' → cOk D' → Q (.inl none) (Z (mp I' a' (-1) bk op) J n w)) : Cn g (d + 5) mX12_readRow [.ref 534, .int x] (Z (mp I a (-1) bk op) J n w) Q := by
  have hN := hm.1
  have hc7 := hk.1
  have hc12 := hk.2.1
  show Rn g (d + 5) mX12_readRow 0 [.ref 534, .int x] [] [] (Z (mp I a (-1) bk op) J n w) Q
  refine s_iload_n (pc := 0) (i := 1) dX12_readRow_0 rfl rfl ?_
  refine s_ldcS (pc := 1) (j := 0) dX12_readRow_1 sr_X12_182 rfl ?_
  refine m_s1 (pc := 3) dX12_readRow_3 lk_X12_183 ok_X12_of rfl rfl (c_of (j := 0) rfl (by decide) (by decide) (kt_s ?_))
  refine s_icne (pc := 6) (tgt := 60) dX12_readRow_6 rfl (fun h6 => ?_) (fun h6 => absurd h6 (hw))
  refine s_iload_n (pc := 60) (i := 1) dX12_readRow_60 rfl rfl ?_
  refine s_ldcS (pc := 61) (j := 2) dX12_readRow_61 sr_X12_187 rfl ?_
  refine m_s1 (pc := 63) dX12_readRow_63 lk_X12_183 ok_X12_of rfl rfl (c_of (j := 2) rfl (by decide) (by decide) (kt_s ?_))
  refine s_icne (pc := 66) (tgt := 83) dX12_readRow_66 rfl (fun h66 => ?_) (fun h66 => absurd h66 (hw2))
  refine s_aload_n (pc := 83) (i := 0) dX12_readRow_83 rfl rfl ?_
  refine m_gr (pc := 84) dX12_readRow_84 ff_X12_26 rfl o_534 r_534_11 ?_
  refine m_ic (pc := 87) (v := 2) dX12_readRow_87 rfl ?_
  refine s_aload_n (pc := 88) (i := 0) dX12_readRow_88 rfl rfl ?_
  refine m_gi (pc := 89) dX12_readRow_89 ff_X12_148 rfl o_534 ?_
  refine m_nm (v' := nI (cc D)) ((mp_x (by decide)).trans hD.2.1) ?_
  refine s_imul (pc := 92) dX12_readRow_92 ?_
  refine m_nm (v' := nI (2 * cc D)) (mul2 _) ?_
  refine s_aload_n (pc := 93) (i := 0) dX12_readRow_93 rfl rfl ?_
  refine m_ic (pc := 94) (v := 1) dX12_readRow_94 rfl ?_
  refine m_bi (pc := 95) (v := 9) dX12_readRow_95 rfl ?_
  refine m_v2 (pc := 97) dX12_readRow_97 lk_X12_188 ok_X12_readNumber (rcO o_534 (by decide) rfl) rfl rfl (c_rn2 hm ha (lo1 := 1) (hi1 := 10) rfl rfl (by decide) (fun e a1 h1 ha1 he => kt_s ?_) (fun v1 a1 h1 hv1 hv2 ha1 hl1 => kt_s ?_))
  · refine m_is (pc := 100) dX12_readRow_100 a_538 (vp_in_nI (by omega) (by decide)) ?_
    refine st_mp hm (by omega) (by decide) (fun I100 e100 hm => ?_)
    refine s_aload_n (pc := 101) (i := 0) dX12_readRow_101 rfl rfl ?_
    refine m_gr (pc := 102) dX12_readRow_102 ff_X12_26 rfl o_534 r_534_11 ?_
    refine m_ic (pc := 105) (v := 2) dX12_readRow_105 rfl ?_
    refine s_aload_n (pc := 106) (i := 0) dX12_readRow_106 rfl rfl ?_
    refine m_gi (pc := 107) dX12_readRow_107 ff_X12_148 rfl o_534 ?_
    refine m_nm (v' := nI (cc D)) (by rw [mp_x (by decide), e100, up_a (by decide)]; exact hD.2.1) ?_
    refine s_imul (pc := 110) dX12_readRow_110 ?_
    refine m_nm (v' := nI (2 * cc D)) (mul2 _) ?_
    refine m_ic (pc := 111) (v := 1) dX12_readRow_111 rfl ?_
    refine s_iadd (pc := 112) dX12_readRow_112 ?_
    refine m_nm (v' := nI (2 * cc D + 1)) (nI_1 _) ?_
    refine s_aload_n (pc := 113) (i := 0) dX12_readRow_113 rfl rfl ?_
    refine m_ic (pc := 114) (v := 0) dX12_readRow_114 rfl ?_
    refine m_bi (pc := 115) (v := 9) dX12_readRow_115 rfl ?_
    refine m_v2 (pc := 117) dX12_readRow_117 lk_X12_188 ok_X12_readNumber (rcO o_534 (by decide) rfl) rfl rfl (c_X12_readNumber_n (nI_m1 (by omega)) (kt_s ?_))
    refine m_is (pc := 120) dX12_readRow_120 a_538 (vp_in_nI (by omega) (by decide)) ?_
    refine st_mp hm (by omega) (by decide) (fun I120 e120 hm => ?_)
    refine s_aload_n (pc := 121) (i := 0) dX12_readRow_121 rfl rfl ?_
    refine s_dup (pc := 122) dX12_readRow_122 rfl ?_
    refine m_gi (pc := 123) dX12_readRow_123 ff_X12_148 rfl o_534 ?_
    refine m_nm (v' := nI (cc D)) (by rw [mp_x (by decide), e120, up_a (by decide), e100, up_a (by decide)]; exact hD.2.1) ?_
    refine m_ic (pc := 126) (v := 1) dX12_readRow_126 rfl ?_
    refine s_iadd (pc := 127) dX12_readRow_127 ?_
    refine m_nm (v' := nI (cc D + 1)) (nI_1 _) ?_
    refine m_pi (pc := 128) dX12_readRow_128 ff_X12_148 rfl rfl o_534 ?_
    refine st_mp hm (by omega) (by decide) (fun I128 e128 hm => ?_)
    refine s_return (pc := 131) dX12_readRow_131 rfl ?_
    subst e128; subst e120; subst e100
    exact hb e a1 _ (by unfold rC; rw [h1]) he ha1 (fM_u (fM_u (fM_u fM_r (by omega)) (by omega)) (by decide))
  · refine m_is (pc := 100) dX12_readRow_100 a_538 (vp_in_nI (by omega) (by decide)) ?_
    refine st_mp hm (by omega) (by decide) (fun I100 e100 hm => ?_)
    refine s_aload_n (pc := 101) (i := 0) dX12_readRow_101 rfl rfl ?_
    refine m_gr (pc := 102) dX12_readRow_102 ff_X12_26 rfl o_534 r_534_11 ?_
    refine m_ic (pc := 105) (v := 2) dX12_readRow_105 rfl ?_
    refine s_aload_n (pc := 106) (i := 0) dX12_readRow_106 rfl rfl ?_
    refine m_gi (pc := 107) dX12_readRow_107 ff_X12_148 rfl o_534 ?_
    refine m_nm (v' := nI (cc D)) (by rw [mp_x (by decide), e100, up_a (by decide)]; exact hD.2.1) ?_
    refine s_imul (pc := 110) dX12_readRow_110 ?_
    refine m_nm (v' := nI (2 * cc D)) (mul2 _) ?_
    refine m_ic (pc := 111) (v := 1) dX12_readRow_111 rfl ?_
    refine s_iadd (pc := 112) dX12_readRow_112 ?_
    refine m_nm (v' := nI (2 * cc D + 1)) (nI_1 _) ?_
    refine s_aload_n (pc := 113) (i := 0) dX12_readRow_113 rfl rfl ?_
    refine m_ic (pc := 114) (v := 0) dX12_readRow_114 rfl ?_
    refine m_bi (pc := 115) (v := 9) dX12_readRow_115 rfl ?_
    refine m_v2 (pc := 117) dX12_readRow_117 lk_X12_188 ok_X12_readNumber (rcO o_534 (by decide) rfl) rfl rfl (c_rn2 hm ha1 (lo1 := 0) (hi1 := 10) rfl rfl (by decide) (fun e a2 h2 ha2 he => kt_s ?_) (fun v2 a2 h2 hu1 hu2 ha2 hl2 => kt_s ?_))
    · refine m_is (pc := 120) dX12_readRow_120 a_538 (vp_in_nI (by omega) (by decide)) ?_
      refine st_mp hm (by omega) (by decide) (fun I120 e120 hm => ?_)
      refine s_aload_n (pc := 121) (i := 0) dX12_readRow_121 rfl rfl ?_
      refine s_dup (pc := 122) dX12_readRow_122 rfl ?_
      refine m_gi (pc := 123) dX12_readRow_123 ff_X12_148 rfl o_534 ?_
      refine m_nm (v' := nI (cc D)) (by rw [mp_x (by decide), e120, up_a (by decide), e100, up_a (by decide)]; exact hD.2.1) ?_
      refine m_ic (pc := 126) (v := 1) dX12_readRow_126 rfl ?_
      refine s_iadd (pc := 127) dX12_readRow_127 ?_
      refine m_nm (v' := nI (cc D + 1)) (nI_1 _) ?_
      refine m_pi (pc := 128) dX12_readRow_128 ff_X12_148 rfl rfl o_534 ?_
      refine st_mp hm (by omega) (by decide) (fun I128 e128 hm => ?_)
      refine s_return (pc := 131) dX12_readRow_131 rfl ?_
      subst e128; subst e120; subst e100
      exact hb e a2 _ (by unfold rC; rw [h1]; simp only []; rw [h2]) he ha2 (fM_u (fM_u (fM_u fM_r (by omega)) (by omega)) (by decide))
    · refine m_is (pc := 120) dX12_readRow_120 a_538 (vp_in_nI (by omega) (by decide)) ?_
      refine st_mp hm (by omega) (by decide) (fun I120 e120 hm => ?_)
      refine s_aload_n (pc := 121) (i := 0) dX12_readRow_121 rfl rfl ?_
      refine s_dup (pc := 122) dX12_readRow_122 rfl ?_
      refine m_gi (pc := 123) dX12_readRow_123 ff_X12_148 rfl o_534 ?_
      refine m_nm (v' := nI (cc D)) (by rw [mp_x (by decide), e120, up_a (by decide), e100, up_a (by decide)]; exact hD.2.1) ?_
      refine m_ic (pc := 126) (v := 1) dX12_readRow_126 rfl ?_
      refine s_iadd (pc := 127) dX12_readRow_127 ?_
      refine m_nm (v' := nI (cc D + 1)) (nI_1 _) ?_
      refine m_pi (pc := 128) dX12_readRow_128 ff_X12_148 rfl rfl o_534 ?_
      refine st_mp hm (by omega) (by decide) (fun I128 e128 hm => ?_)
      refine s_return (pc := 131) dX12_readRow_131 rfl ?_
      rw [nI_clamp (by omega)] at e100 e120
      have hsk := sk_ge (t := t) (N := N) (a := a1)
      subst e128; subst e120; subst e100
      exact hg a2 _ _ (by unfold rC; rw [h1]; simp only []; rw [h2]) ha2 (by omega) (fM_u (fM_u (fM_u fM_r (by omega)) (by omega)) (by decide)) (Mo_C hD) (cOk_C hk h7 ⟨hv1, hv2⟩ hu2)
theorem c_rr_k {D : cD} {x : Int32} (hm : mx I t N) (ha : a ≤ N) (hD : Mo I 14 537 538 D) (hk : cOk D) (hw : ¬ x = oc 0) (hw2 : x = oc 2) (hb : ∀ e a' I', rK t N (sk t N a) D = .inl e → e.2 ≤ 600 → a' ≤ N → fM I I' → Q (.inl none) (Z (mp I' a' (nI e.2) (nI e.1) op) J n w)) (hg : ∀ a' D' I', rK t N (sk t N a) D = .inr (sk t N a', D') → a' ≤ N → sk t N a ≤ a' → fM I I' → Mo I' 14 537 538 D' → cOk D' → Q (.inl none) (Z (mp I' a' (-1) bk op) J n w)) : Cn g (d + 5) mX12_readRow [.ref 534, .int x] (Z (mp I a (-1) bk op) J n w) Q := by
  have hN := hm.1
  show Rn g (d + 5) mX12_readRow 0 [.ref 534, .int x] [] [] (Z (mp I a (-1) bk op) J n w) Q
  refine s_iload_n (pc := 0) (i := 1) dX12_readRow_0 rfl rfl ?_
  refine s_ldcS (pc := 1) (j := 0) dX12_readRow_1 sr_X12_182 rfl ?_
  refine m_s1 (pc := 3) dX12_readRow_3 lk_X12_183 ok_X12_of rfl rfl (c_of (j := 0) rfl (by decide) (by decide) (kt_s ?_))
  refine s_icne (pc := 6) (tgt := 60) dX12_readRow_6 rfl (fun h6 => ?_) (fun h6 => absurd h6 (hw))
  refine s_iload_n (pc := 60) (i := 1) dX12_readRow_60 rfl rfl ?_
  refine s_ldcS (pc := 61) (j := 2) dX12_readRow_61 sr_X12_187 rfl ?_
  refine m_s1 (pc := 63) dX12_readRow_63 lk_X12_183 ok_X12_of rfl rfl (c_of (j := 2) rfl (by decide) (by decide) (kt_s ?_))
  refine s_icne (pc := 66) (tgt := 83) dX12_readRow_66 rfl (fun h66 => absurd (hw2) h66) (fun h66 => ?_)
  refine s_aload_n (pc := 69) (i := 0) dX12_readRow_69 rfl rfl ?_
  refine s_aload_n (pc := 70) (i := 0) dX12_readRow_70 rfl rfl ?_
  refine m_ic (pc := 71) (v := 1) dX12_readRow_71 rfl ?_
  refine m_bi (pc := 72) (v := 40) dX12_readRow_72 rfl ?_
  refine m_v2 (pc := 74) dX12_readRow_74 lk_X12_188 ok_X12_readNumber (rcO o_534 (by decide) rfl) rfl rfl (c_rn2 hm ha (lo1 := 1) (hi1 := 41) rfl rfl (by decide) (fun e a1 h1 ha1 he => kt_s ?_) (fun v1 a1 h1 hv1 hv2 ha1 hl1 => kt_s ?_))
  · refine m_pi (pc := 77) dX12_readRow_77 ff_X12_151 rfl rfl o_534 ?_
    refine st_mp hm (by omega) (by decide) (fun I77 e77 hm => ?_)
    refine s_goto (pc := 80) (tgt := 131) dX12_readRow_80 rfl ?_
    refine s_return (pc := 131) dX12_readRow_131 rfl ?_
    subst e77
    exact hb e a1 _ (by unfold rK; rw [h1]) he ha1 (fM_u fM_r (by decide))
  · refine m_pi (pc := 77) dX12_readRow_77 ff_X12_151 rfl rfl o_534 ?_
    refine st_mp hm (by omega) (by decide) (fun I77 e77 hm => ?_)
    refine s_goto (pc := 80) (tgt := 131) dX12_readRow_80 rfl ?_
    refine s_return (pc := 131) dX12_readRow_131 rfl ?_
    subst e77
    exact hg a1 _ _ (by unfold rK; rw [h1]) ha1 (by omega) (fM_u fM_r (by decide)) (Mo_K hD) (cOk_K hk ⟨hv1, hv2⟩)
end S
