section S
variable {g : aG} {d : Nat} {I : Nat → Nat → Int32} {J : Nat → Nat → Int64} {n w : Nat} {Q : aO → aS → Prop}
variable {σ : aS} {S : sD} {D : cD} {cs : List Nat} {s : Nat} {β : Type} {I0 : Nat → Nat → Int32}
theorem c_X12_isDone {k u v : Nat} (hW : Wm I D cs S) (hY : sY S ≤ 400) (ok : okS3 (cb D) (cc D) (k, u, v)) (hn : stp D cs S (k, u, v) = none → Q (.inl (some (.int 0))) (Z I J n w)) (hj : ∀ I' S', stp D cs S (k, u, v) = some S' → fX I I' → Sm (I' 550) S' → Q (.inl (some (.int 1))) (Z I' J n w)) : Cn g (d + 7) mX12_isDone [.ref 534, .int (nI k), .int (nI u), .int (nI v)] (Z I J n w) Q := by
  rcases ok with ⟨o0, o1, o2⟩ | ⟨o0, o1, o2⟩ | ⟨o0, o1⟩ | ⟨o0, o1⟩ | o0
  · simp only [] at o0 o1 o2
    subst o0
    show Rn g (d + 7) mX12_isDone 0 [.ref 534, .int (nI 0), .int (nI u), .int (nI v)] [] [] (Z I J n w) Q
    refine s_iload_n (pc := 0) (i := 1) dX12_isDone_0 rfl rfl ?_
    refine s_ifne (pc := 1) (tgt := 11) dX12_isDone_1 rfl (fun h1 => absurd h1 (by decide)) (fun h1 => ?_)
    refine s_aload_n (pc := 4) (i := 0) dX12_isDone_4 rfl rfl ?_
    refine s_iload_n (pc := 5) (i := 2) dX12_isDone_5 rfl rfl ?_
    refine s_iload_n (pc := 6) (i := 3) dX12_isDone_6 rfl rfl ?_
    refine m_v2 (pc := 7) dX12_isDone_7 lk_X12_354 ok_X12_isSat (rcO o_534 (by decide) rfl) rfl rfl (c_X12_isSat hW o1 o2 (fun h => kt_s ?_) (fun I1 h f1 s1 => kt_s ?_))
    · refine s_ireturn (pc := 10) dX12_isDone_10 rfl rfl ?_
      exact hn (by rw [stp_0, if_pos h])
    · refine s_ireturn (pc := 10) dX12_isDone_10 rfl rfl ?_
      exact hj I1 _ (by rw [stp_0, if_neg (by rw [h]; decide)]) f1 s1
  · simp only [] at o0 o1 o2
    subst o0
    show Rn g (d + 7) mX12_isDone 0 [.ref 534, .int (nI 1), .int (nI u), .int (nI v)] [] [] (Z I J n w) Q
    refine s_iload_n (pc := 0) (i := 1) dX12_isDone_0 rfl rfl ?_
    refine s_ifne (pc := 1) (tgt := 11) dX12_isDone_1 rfl (fun h1 => ?_) (fun h1 => absurd h1 (by decide))
    refine s_iload_n (pc := 11) (i := 1) dX12_isDone_11 rfl rfl ?_
    refine m_ic (pc := 12) (v := 1) dX12_isDone_12 rfl ?_
    refine s_icne (pc := 13) (tgt := 23) dX12_isDone_13 rfl (fun h13 => absurd h13 (by decide)) (fun h13 => ?_)
    refine s_aload_n (pc := 16) (i := 0) dX12_isDone_16 rfl rfl ?_
    refine s_iload_n (pc := 17) (i := 2) dX12_isDone_17 rfl rfl ?_
    refine s_iload_n (pc := 18) (i := 3) dX12_isDone_18 rfl rfl ?_
    refine m_v2 (pc := 19) dX12_isDone_19 lk_X12_358 ok_X12_isToldOn (rcO o_534 (by decide) rfl) rfl rfl (c_X12_isToldOn hW o1 o2 (fun h => kt_s ?_) (fun I1 h f1 s1 => kt_s ?_))
    · refine s_ireturn (pc := 22) dX12_isDone_22 rfl rfl ?_
      exact hn (by rw [stp_1, if_neg (by rw [h]; decide)])
    · refine s_ireturn (pc := 22) dX12_isDone_22 rfl rfl ?_
      exact hj I1 _ (by rw [stp_1, if_pos h]) f1 s1
  · simp only [] at o0 o1
    subst o0
    show Rn g (d + 7) mX12_isDone 0 [.ref 534, .int (nI 2), .int (nI u), .int (nI v)] [] [] (Z I J n w) Q
    refine s_iload_n (pc := 0) (i := 1) dX12_isDone_0 rfl rfl ?_
    refine s_ifne (pc := 1) (tgt := 11) dX12_isDone_1 rfl (fun h1 => ?_) (fun h1 => absurd h1 (by decide))
    refine s_iload_n (pc := 11) (i := 1) dX12_isDone_11 rfl rfl ?_
    refine m_ic (pc := 12) (v := 1) dX12_isDone_12 rfl ?_
    refine s_icne (pc := 13) (tgt := 23) dX12_isDone_13 rfl (fun h13 => ?_) (fun h13 => absurd h13 (by decide))
    refine s_iload_n (pc := 23) (i := 1) dX12_isDone_23 rfl rfl ?_
    refine m_ic (pc := 24) (v := 2) dX12_isDone_24 rfl ?_
    refine s_icne (pc := 25) (tgt := 34) dX12_isDone_25 rfl (fun h25 => absurd h25 (by decide)) (fun h25 => ?_)
    refine s_aload_n (pc := 28) (i := 0) dX12_isDone_28 rfl rfl ?_
    refine s_iload_n (pc := 29) (i := 2) dX12_isDone_29 rfl rfl ?_
    refine m_v1 (pc := 30) dX12_isDone_30 lk_X12_361 ok_X12_isRaised (rcO o_534 (by decide) rfl) rfl rfl (c_X12_isRaised hW o1 (fun h => kt_s ?_) (fun I1 h f1 s1 => kt_s ?_))
    · refine s_ireturn (pc := 33) dX12_isDone_33 rfl rfl ?_
      exact hn (by rw [stp_2, if_pos h])
    · refine s_ireturn (pc := 33) dX12_isDone_33 rfl rfl ?_
      exact hj I1 _ (by rw [stp_2, if_neg h]) f1 s1
  · simp only [] at o0 o1
    subst o0
    show Rn g (d + 7) mX12_isDone 0 [.ref 534, .int (nI 3), .int (nI u), .int (nI v)] [] [] (Z I J n w) Q
    refine s_iload_n (pc := 0) (i := 1) dX12_isDone_0 rfl rfl ?_
    refine s_ifne (pc := 1) (tgt := 11) dX12_isDone_1 rfl (fun h1 => ?_) (fun h1 => absurd h1 (by decide))
    refine s_iload_n (pc := 11) (i := 1) dX12_isDone_11 rfl rfl ?_
    refine m_ic (pc := 12) (v := 1) dX12_isDone_12 rfl ?_
    refine s_icne (pc := 13) (tgt := 23) dX12_isDone_13 rfl (fun h13 => ?_) (fun h13 => absurd h13 (by decide))
    refine s_iload_n (pc := 23) (i := 1) dX12_isDone_23 rfl rfl ?_
    refine m_ic (pc := 24) (v := 2) dX12_isDone_24 rfl ?_
    refine s_icne (pc := 25) (tgt := 34) dX12_isDone_25 rfl (fun h25 => ?_) (fun h25 => absurd h25 (by decide))
    refine s_iload_n (pc := 34) (i := 1) dX12_isDone_34 rfl rfl ?_
    refine m_ic (pc := 35) (v := 3) dX12_isDone_35 rfl ?_
    refine s_icne (pc := 36) (tgt := 45) dX12_isDone_36 rfl (fun h36 => absurd h36 (by decide)) (fun h36 => ?_)
    refine s_aload_n (pc := 39) (i := 0) dX12_isDone_39 rfl rfl ?_
    refine s_iload_n (pc := 40) (i := 2) dX12_isDone_40 rfl rfl ?_
    refine m_v1 (pc := 41) dX12_isDone_41 lk_X12_364 ok_X12_isRested (rcO o_534 (by decide) rfl) rfl rfl (c_X12_isRested hW o1 (fun h => kt_s ?_) (fun I1 h f1 s1 => kt_s ?_))
    · refine s_ireturn (pc := 44) dX12_isDone_44 rfl rfl ?_
      exact hn (by rw [stp_3, if_pos h])
    · refine s_ireturn (pc := 44) dX12_isDone_44 rfl rfl ?_
      exact hj I1 _ (by rw [stp_3, if_neg h]) f1 s1
  · simp only [] at o0 
    subst o0
    show Rn g (d + 7) mX12_isDone 0 [.ref 534, .int (nI 4), .int (nI u), .int (nI v)] [] [] (Z I J n w) Q
    refine s_iload_n (pc := 0) (i := 1) dX12_isDone_0 rfl rfl ?_
    refine s_ifne (pc := 1) (tgt := 11) dX12_isDone_1 rfl (fun h1 => ?_) (fun h1 => absurd h1 (by decide))
    refine s_iload_n (pc := 11) (i := 1) dX12_isDone_11 rfl rfl ?_
    refine m_ic (pc := 12) (v := 1) dX12_isDone_12 rfl ?_
    refine s_icne (pc := 13) (tgt := 23) dX12_isDone_13 rfl (fun h13 => ?_) (fun h13 => absurd h13 (by decide))
    refine s_iload_n (pc := 23) (i := 1) dX12_isDone_23 rfl rfl ?_
    refine m_ic (pc := 24) (v := 2) dX12_isDone_24 rfl ?_
    refine s_icne (pc := 25) (tgt := 34) dX12_isDone_25 rfl (fun h25 => ?_) (fun h25 => absurd h25 (by decide))
    refine s_iload_n (pc := 34) (i := 1) dX12_isDone_34 rfl rfl ?_
    refine m_ic (pc := 35) (v := 3) dX12_isDone_35 rfl ?_
    refine s_icne (pc := 36) (tgt := 45) dX12_isDone_36 rfl (fun h36 => ?_) (fun h36 => absurd h36 (by decide))
    refine s_aload_n (pc := 45) (i := 0) dX12_isDone_45 rfl rfl ?_
    refine m_gr (pc := 46) dX12_isDone_46 ff_X12_62 rfl o_534 r_534_37 ?_
    refine m_bi (pc := 49) (v := 125) dX12_isDone_49 rfl ?_
    refine m_ia (pc := 51) dX12_isDone_51 a_550 (vp_in_nI (n := 125) (by omega) (by decide)) ?_
    refine m_nm (v' := nI (sY S)) (rdI (j := 125) (hW.2.2.2.2.1.2.2.2.2) (by omega)) ?_
    refine m_si (pc := 52) (v := 400) dX12_isDone_52 rfl ?_
    refine s_iclt (pc := 55) (tgt := 60) dX12_isDone_55 rfl (fun h55 => ?_) (fun h55 => ?_)
    · have h55 : (sY S) < 400 := (nI_ltI (a := sY S) (b := 400) (by omega) (by omega)).mp h55
      refine s_aload_n (pc := 60) (i := 0) dX12_isDone_60 rfl rfl ?_
      refine m_v0 (pc := 61) dX12_isDone_61 lk_X12_367 ok_X12_passes (rcO o_534 (by decide) rfl) rfl rfl (c_X12_passes hW (fun I1 f1 s1 => kt_v ?_))
      refine m_ic (pc := 64) (v := 1) dX12_isDone_64 rfl ?_
      refine s_ireturn (pc := 65) dX12_isDone_65 rfl rfl ?_
      exact hj I1 _ (by rw [stp_4, if_neg (by omega)]) f1 s1
    · have h55 : ¬ (sY S) < 400 := fun z => h55 ((nI_ltI (a := sY S) (b := 400) (by omega) (by omega)).mpr z)
      refine m_ic (pc := 58) (v := 0) dX12_isDone_58 rfl ?_
      refine s_ireturn (pc := 59) dX12_isDone_59 rfl rfl ?_
      exact hn (by rw [stp_4, if_pos (by omega)])
def fG (I I' : Nat → Nat → Int32) : Prop := ∀ x j, (x ≠ 545 ∧ x ≠ 546 ∧ x ≠ 550 ∧ (x ≠ 534 ∨ (j ≠ 33 ∧ j ≠ 34 ∧ j ≠ 35))) → I' x j = I x j
theorem fG_r : fG I I := fun _ _ _ => rfl
theorem fG_t {I' I'' : Nat → Nat → Int32} (h : fG I I') (h2 : fG I' I'') : fG I I'' := fun x j a => (h2 x j a).trans (h x j a)
theorem fG_x {I' : Nat → Nat → Int32} (h : fX I I') : fG I I' := fun x j a => h x j a.1 a.2.1 a.2.2.1
theorem fG_u {I' : Nat → Nat → Int32} {k : Nat} {v : Int32} (h : fG I I') (hx : k = 33 ∨ k = 34 ∨ k = 35) : fG I (up I' 534 k v) := fun y j a => by rw [up_n3 (by omega)]; exact h y j a
def GK (I0 I : Nat → Nat → Int32) (D : cD) (cs : List Nat) (X : xD) : Prop := fG I0 I ∧ Wm I D cs X.1 ∧ I 534 33 = nI X.2.1 ∧ I 534 34 = nI X.2.2.1 ∧ I 534 35 = nI X.2.2.2 ∧ xOk D X
theorem Wm_o {I' : Nat → Nat → Int32} (h : Wm I D cs S) (hf : ∀ x j, (x ≠ 534 ∨ (j ≠ 33 ∧ j ≠ 34 ∧ j ≠ 35)) → I' x j = I x j) : Wm I' D cs S := ⟨Mo_fr h.1 (fun x j z => hf x j (by omega)), h.2.1, Lq_fr h.2.2.1 (fun x j z => hf x j (by omega)), h.2.2.2.1, Sm_fr h.2.2.2.2.1 (fun j _ => hf 550 j (by omega)), h.2.2.2.2.2⟩
def cGs (g : aG) (k : Nat) (J : Nat → Nat → Int64) (n w : Nat) (D : cD) (cs : List Nat) (I0 : Nat → Nat → Int32) (len : Nat) (run : xD → xD) (s : Nat) : Prop := ∀ d I X Q, GK I0 I D cs X → (∀ I', GK I0 I' D cs (run X) → Q (.inl none) (Z I' J n w)) → Cn g (d + k) mX12_goesSteps [.ref 534, .int (nI (3 * s)), .int (nI (3 * (s + len)))] (Z I J n w) Q
theorem GK_b {X : xD} (h : GK I0 I D cs X) (hO : xOk D (X.1, X.2.1 + 1, X.2.2.1, X.2.2.2)) : GK I0 (up I 534 33 (nI (X.2.1 + 1))) D cs (X.1, X.2.1 + 1, X.2.2.1, X.2.2.2) := ⟨fG_u h.1 (by omega), Wm_o h.2.1 (fun x j z => up_n3 (by omega)), up_s, by rw [up_k (by decide)]; exact h.2.2.2.1, by rw [up_k (by decide)]; exact h.2.2.2.2.1, hO⟩
theorem n33 (s : Nat) : nI (3 * s) + 3 = nI (3 * (s + 1)) := by rw [Nat.mul_add]; exact nI_add _ 3
/-- the turns of an again -/
theorem go_turns {k len e v : Nat} {a1 : Int32} {run : xD → xD} (hsub : cGs g (k + 7) J n w D cs I0 len run (s + 1)) (hend : ∀ X : xD, 200 ≤ X.2.1 → run X = X) (e1 : I0 548 (3 * s + 1) = nI v) (hv : v ≤ 40) (hs : s < 50) (he : e ≤ 50) (hl : s + 1 + len ≤ e) : ∀ f i I X, i + f = v → GK I0 I D cs X → (∀ I' i', GK I0 I' D cs (rep run f X) → Rn g (d + (k + 8)) mX12_goesSteps 2 [.ref 534, .int a1, .int (nI (3 * e)), .int (nI (3 * (s + 1 + len))), .int (nI (3 * (s + 1 + len))), .int (nI i')] [] [] (Z I' J n w) Q) → Rn g (d + (k + 8)) mX12_goesSteps 50 [.ref 534, .int a1, .int (nI (3 * e)), .int (nI (3 * s)), .int (nI (3 * (s + 1 + len))), .int (nI i)] [] [] (Z I J n w) Q := by
  intro f
  induction f with
  | zero =>
    intro i I X hi hG hc
    have hX2 := hG.2.2.2.2.2.2.2.1
    refine s_iload (pc := 50) (i := 5) dX12_goesSteps_50 rfl ?_
    refine s_aload_n (pc := 52) (i := 0) dX12_goesSteps_52 rfl rfl ?_
    refine m_gr (pc := 53) dX12_goesSteps_53 ff_X12_56 rfl o_534 r_534_29 ?_
    refine s_iload_n (pc := 56) (i := 3) dX12_goesSteps_56 rfl rfl ?_
    refine m_ic (pc := 57) (v := 1) dX12_goesSteps_57 rfl ?_
    refine s_iadd (pc := 58) dX12_goesSteps_58 ?_
    refine m_nm (v' := nI ((3 * s) + 1)) (nI_add (3 * s) 1) ?_
    refine m_ia (pc := 59) dX12_goesSteps_59 a_548 (vp_in_nI (n := (3 * s) + 1) (by omega) (by decide)) ?_
    refine m_nm (v' := nI v) (rdI (j := (3 * s) + 1) ((hG.1 548 _ (by omega)).trans e1) (by omega)) ?_
    refine s_icge (pc := 60) (tgt := 88) dX12_goesSteps_60 rfl (fun h60 => ?_) (fun h60 => absurd (nI_le (a := v) (b := i) (by omega) (by omega)) h60)
    refine s_iload (pc := 88) (i := 4) dX12_goesSteps_88 rfl ?_
    refine s_istore_n (pc := 90) (i := 3) dX12_goesSteps_90 rfl (Nat.le_of_ble_eq_true rfl) ?_
    dsimp only [List.set, List.filter]
    refine s_goto (pc := 91) (tgt := 2) dX12_goesSteps_91 rfl ?_
    exact hc I i hG
  | succ f ih =>
    intro i I X hi hG hc
    have hX2 := hG.2.2.2.2.2.2.2.1
    by_cases hX : 200 ≤ X.2.1
    · rw [rep_end hend _ X hX] at hc
      refine s_iload (pc := 50) (i := 5) dX12_goesSteps_50 rfl ?_
      refine s_aload_n (pc := 52) (i := 0) dX12_goesSteps_52 rfl rfl ?_
      refine m_gr (pc := 53) dX12_goesSteps_53 ff_X12_56 rfl o_534 r_534_29 ?_
      refine s_iload_n (pc := 56) (i := 3) dX12_goesSteps_56 rfl rfl ?_
      refine m_ic (pc := 57) (v := 1) dX12_goesSteps_57 rfl ?_
      refine s_iadd (pc := 58) dX12_goesSteps_58 ?_
      refine m_nm (v' := nI ((3 * s) + 1)) (nI_add (3 * s) 1) ?_
      refine m_ia (pc := 59) dX12_goesSteps_59 a_548 (vp_in_nI (n := (3 * s) + 1) (by omega) (by decide)) ?_
      refine m_nm (v' := nI v) (rdI (j := (3 * s) + 1) ((hG.1 548 _ (by omega)).trans e1) (by omega)) ?_
      refine s_icge (pc := 60) (tgt := 88) dX12_goesSteps_60 rfl (fun h60 => absurd h60 (nI_ge (a := i) (b := v) (by omega) (by omega))) (fun h60 => ?_)
      refine s_aload_n (pc := 63) (i := 0) dX12_goesSteps_63 rfl rfl ?_
      refine m_gi (pc := 64) dX12_goesSteps_64 ff_X12_313 rfl o_534 ?_
      refine m_nm (v' := nI X.2.1) (hG.2.2.1) ?_
      refine m_si (pc := 67) (v := 200) dX12_goesSteps_67 rfl ?_
      refine s_icge (pc := 70) (tgt := 88) dX12_goesSteps_70 rfl (fun h70 => ?_) (fun h70 => absurd (nI_le (a := 200) (b := X.2.1) (by omega) (by omega)) h70)
      refine s_iload (pc := 88) (i := 4) dX12_goesSteps_88 rfl ?_
      refine s_istore_n (pc := 90) (i := 3) dX12_goesSteps_90 rfl (Nat.le_of_ble_eq_true rfl) ?_
      dsimp only [List.set, List.filter]
      refine s_goto (pc := 91) (tgt := 2) dX12_goesSteps_91 rfl ?_
      exact hc I i hG
    · rw [rep] at hc
      refine s_iload (pc := 50) (i := 5) dX12_goesSteps_50 rfl ?_
      refine s_aload_n (pc := 52) (i := 0) dX12_goesSteps_52 rfl rfl ?_
      refine m_gr (pc := 53) dX12_goesSteps_53 ff_X12_56 rfl o_534 r_534_29 ?_
      refine s_iload_n (pc := 56) (i := 3) dX12_goesSteps_56 rfl rfl ?_
      refine m_ic (pc := 57) (v := 1) dX12_goesSteps_57 rfl ?_
      refine s_iadd (pc := 58) dX12_goesSteps_58 ?_
      refine m_nm (v' := nI ((3 * s) + 1)) (nI_add (3 * s) 1) ?_
      refine m_ia (pc := 59) dX12_goesSteps_59 a_548 (vp_in_nI (n := (3 * s) + 1) (by omega) (by decide)) ?_
      refine m_nm (v' := nI v) (rdI (j := (3 * s) + 1) ((hG.1 548 _ (by omega)).trans e1) (by omega)) ?_
      refine s_icge (pc := 60) (tgt := 88) dX12_goesSteps_60 rfl (fun h60 => absurd h60 (nI_ge (a := i) (b := v) (by omega) (by omega))) (fun h60 => ?_)
      refine s_aload_n (pc := 63) (i := 0) dX12_goesSteps_63 rfl rfl ?_
      refine m_gi (pc := 64) dX12_goesSteps_64 ff_X12_313 rfl o_534 ?_
      refine m_nm (v' := nI X.2.1) (hG.2.2.1) ?_
      refine m_si (pc := 67) (v := 200) dX12_goesSteps_67 rfl ?_
      refine s_icge (pc := 70) (tgt := 88) dX12_goesSteps_70 rfl (fun h70 => absurd h70 (nI_ge (a := X.2.1) (b := 200) (by omega) (by omega))) (fun h70 => ?_)
      refine s_aload_n (pc := 73) (i := 0) dX12_goesSteps_73 rfl rfl ?_
      refine s_iload_n (pc := 74) (i := 3) dX12_goesSteps_74 rfl rfl ?_
      refine m_ic (pc := 75) (v := 3) dX12_goesSteps_75 rfl ?_
      refine s_iadd (pc := 76) dX12_goesSteps_76 ?_
      refine m_nm (v' := nI (3 * (s + 1))) (n33 s) ?_
      refine s_iload (pc := 77) (i := 4) dX12_goesSteps_77 rfl ?_
      refine m_v2 (pc := 79) dX12_goesSteps_79 lk_X12_322 ok_X12_goesSteps (rcO o_534 (by decide) rfl) rfl rfl (hsub _ I X _ hG (fun I1 G1 => kt_v ?_))
      refine m_inc (pc := 82) (v := 1) dX12_goesSteps_82 rfl rfl ?_
      dsimp only [List.set, List.filter]
      rw [nI_1]
      refine s_goto (pc := 85) (tgt := 50) dX12_goesSteps_85 rfl ?_
      exact ih (i + 1) I1 (run X) (by omega) G1 hc
theorem go_list {k e : Nat} {a1 : Int32} {sp : (Nat → Int32) → β → Nat → Prop} {ln : β → Nat} {sub : β → xD → xD} {so : β → Prop} (hk : cOk D) (hS : ∀ x s, sp (I0 548) x s → so x → s + ln x ≤ 50 → cGs g (k + 7) J n w D cs I0 (ln x) (sub x) s) (hend : ∀ x (X : xD), 200 ≤ X.2.1 → sub x X = X) (he : e ≤ 50) :
    ∀ l s I X (v4 v5 : Value), PmL sp ln (I0 548) l s → (∀ x ∈ l, okJ (cb D) (cc D) so x) → s + mln ln l = e → GK I0 I D cs X → (∀ I', GK I0 I' D cs (exL D cs sub l X) → Q (.inl none) (Z I' J n w)) → Rn g (d + (k + 8)) mX12_goesSteps 2 [.ref 534, .int a1, .int (nI (3 * e)), .int (nI (3 * s)), v4, v5] [] [] (Z I J n w) Q
  | [], s, I, X, v4, v5, _, _, hs, hG, hq => by
    simp only [mln, Nat.add_zero] at hs
    refine s_iload_n (pc := 2) (i := 3) dX12_goesSteps_2 rfl rfl ?_
    refine s_iload_n (pc := 3) (i := 2) dX12_goesSteps_3 rfl rfl ?_
    refine s_icge (pc := 4) (tgt := 152) dX12_goesSteps_4 rfl (fun h4 => ?_) (fun h4 => absurd (nI_le (a := 3 * e) (b := 3 * s) (by omega) (by omega)) h4)
    refine s_return (pc := 152) dX12_goesSteps_152 rfl ?_
    exact hq I hG
  | .inl (kk, u, v) :: r, s, I, X, v4, v5, hP, hl, hs, hG, hq => by
    obtain ⟨e1, e2, e3, hP2⟩ := hP
    have hk4 : okS3 (cb D) (cc D) (kk, u, v) := hl _ List.mem_cons_self
    have hk5 : kk ≤ 4 := by rcases hk4 with q | q | q | q | q <;> simp only [] at q <;> omega
    simp only [mln] at hs
    have hX1 := hG.2.2.2.2.2
    have hX2 := hX1.2.2.1
    have hX3 := hX1.2.2.2.1
    have hX4 := hX1.2.2.2.2
    by_cases hX : 200 ≤ X.2.1
    · rw [exL_end hX] at hq
      refine s_iload_n (pc := 2) (i := 3) dX12_goesSteps_2 rfl rfl ?_
      refine s_iload_n (pc := 3) (i := 2) dX12_goesSteps_3 rfl rfl ?_
      refine s_icge (pc := 4) (tgt := 152) dX12_goesSteps_4 rfl (fun h4 => absurd h4 (nI_ge (a := 3 * s) (b := 3 * e) (by omega) (by omega))) (fun h4 => ?_)
      refine s_aload_n (pc := 7) (i := 0) dX12_goesSteps_7 rfl rfl ?_
      refine m_gi (pc := 8) dX12_goesSteps_8 ff_X12_313 rfl o_534 ?_
      refine m_nm (v' := nI X.2.1) (hG.2.2.1) ?_
      refine m_si (pc := 11) (v := 200) dX12_goesSteps_11 rfl ?_
      refine s_icge (pc := 14) (tgt := 152) dX12_goesSteps_14 rfl (fun h14 => ?_) (fun h14 => absurd (nI_le (a := 200) (b := X.2.1) (by omega) (by omega)) h14)
      refine s_return (pc := 152) dX12_goesSteps_152 rfl ?_
      exact hq I hG
    · have E : exL D cs sub (.inl (kk, u, v) :: r) X = exL D cs sub r (one D cs (kk, u, v) X) := by simp only [exL]; rw [if_neg hX]
      rw [E] at hq
      have hOn := one_ok (cs := cs) hk hX1 hX hk4
      have hO : xOk D (X.1, X.2.1 + 1, X.2.2.1, X.2.2.2) := ⟨hX1.1, hX1.2.1, by show X.2.1 + 1 ≤ 200; omega, by show X.2.2.1 ≤ X.2.1 + 1; omega, by show X.2.2.2 ≤ X.2.1 + 1; omega⟩
      have hG1 := GK_b hG hO
      refine s_iload_n (pc := 2) (i := 3) dX12_goesSteps_2 rfl rfl ?_
      refine s_iload_n (pc := 3) (i := 2) dX12_goesSteps_3 rfl rfl ?_
      refine s_icge (pc := 4) (tgt := 152) dX12_goesSteps_4 rfl (fun h4 => absurd h4 (nI_ge (a := 3 * s) (b := 3 * e) (by omega) (by omega))) (fun h4 => ?_)
      refine s_aload_n (pc := 7) (i := 0) dX12_goesSteps_7 rfl rfl ?_
      refine m_gi (pc := 8) dX12_goesSteps_8 ff_X12_313 rfl o_534 ?_
      refine m_nm (v' := nI X.2.1) (hG.2.2.1) ?_
      refine m_si (pc := 11) (v := 200) dX12_goesSteps_11 rfl ?_
      refine s_icge (pc := 14) (tgt := 152) dX12_goesSteps_14 rfl (fun h14 => absurd h14 (nI_ge (a := X.2.1) (b := 200) (by omega) (by omega))) (fun h14 => ?_)
      refine s_aload_n (pc := 17) (i := 0) dX12_goesSteps_17 rfl rfl ?_
      refine s_dup (pc := 18) dX12_goesSteps_18 rfl ?_
      refine m_gi (pc := 19) dX12_goesSteps_19 ff_X12_313 rfl o_534 ?_
      refine m_nm (v' := nI X.2.1) (hG.2.2.1) ?_
      refine m_ic (pc := 22) (v := 1) dX12_goesSteps_22 rfl ?_
      refine s_iadd (pc := 23) dX12_goesSteps_23 ?_
      refine m_nm (v' := nI ((X.2.1) + 1)) (nI_add (X.2.1) 1) ?_
      refine m_pi (pc := 24) dX12_goesSteps_24 ff_X12_313 rfl rfl o_534 ?_
      refine s_aload_n (pc := 27) (i := 0) dX12_goesSteps_27 rfl rfl ?_
      refine m_gr (pc := 28) dX12_goesSteps_28 ff_X12_56 rfl o_534 r_534_29 ?_
      refine s_iload_n (pc := 31) (i := 3) dX12_goesSteps_31 rfl rfl ?_
      refine m_ia (pc := 32) dX12_goesSteps_32 a_548 (vp_in_nI (n := 3 * s) (by omega) (by decide)) ?_
      refine m_nm (v' := nI kk) (rdI (j := 3 * s) ((hG1.1 548 _ (by omega)).trans e1) (by omega)) ?_
      refine m_ic (pc := 33) (v := 5) dX12_goesSteps_33 rfl ?_
      refine s_icne (pc := 34) (tgt := 94) dX12_goesSteps_34 rfl (fun h34 => ?_) (fun h34 => absurd h34 (fun z => absurd ((nI_eq (a := kk) (b := 5) (by omega) (by omega)).mp z) (by omega)))
      refine s_aload_n (pc := 94) (i := 0) dX12_goesSteps_94 rfl rfl ?_
      refine s_aload_n (pc := 95) (i := 0) dX12_goesSteps_95 rfl rfl ?_
      refine m_gr (pc := 96) dX12_goesSteps_96 ff_X12_56 rfl o_534 r_534_29 ?_
      refine s_iload_n (pc := 99) (i := 3) dX12_goesSteps_99 rfl rfl ?_
      refine m_ia (pc := 100) dX12_goesSteps_100 a_548 (vp_in_nI (n := 3 * s) (by omega) (by decide)) ?_
      refine m_nm (v' := nI kk) (rdI (j := 3 * s) ((hG1.1 548 _ (by omega)).trans e1) (by omega)) ?_
      refine s_aload_n (pc := 101) (i := 0) dX12_goesSteps_101 rfl rfl ?_
      refine m_gr (pc := 102) dX12_goesSteps_102 ff_X12_56 rfl o_534 r_534_29 ?_
      refine s_iload_n (pc := 105) (i := 3) dX12_goesSteps_105 rfl rfl ?_
      refine m_ic (pc := 106) (v := 1) dX12_goesSteps_106 rfl ?_
      refine s_iadd (pc := 107) dX12_goesSteps_107 ?_
      refine m_nm (v' := nI ((3 * s) + 1)) (nI_add (3 * s) 1) ?_
      refine m_ia (pc := 108) dX12_goesSteps_108 a_548 (vp_in_nI (n := (3 * s) + 1) (by omega) (by decide)) ?_
      refine m_nm (v' := nI u) (rdI (j := (3 * s) + 1) ((hG1.1 548 _ (by omega)).trans e2) (by omega)) ?_
      refine s_aload_n (pc := 109) (i := 0) dX12_goesSteps_109 rfl rfl ?_
      refine m_gr (pc := 110) dX12_goesSteps_110 ff_X12_56 rfl o_534 r_534_29 ?_
      refine s_iload_n (pc := 113) (i := 3) dX12_goesSteps_113 rfl rfl ?_
      refine m_ic (pc := 114) (v := 2) dX12_goesSteps_114 rfl ?_
      refine s_iadd (pc := 115) dX12_goesSteps_115 ?_
      refine m_nm (v' := nI ((3 * s) + 2)) (nI_add (3 * s) 2) ?_
      refine m_ia (pc := 116) dX12_goesSteps_116 a_548 (vp_in_nI (n := (3 * s) + 2) (by omega) (by decide)) ?_
      refine m_nm (v' := nI v) (rdI (j := (3 * s) + 2) ((hG1.1 548 _ (by omega)).trans e3) (by omega)) ?_
      refine m_v3 (pc := 117) dX12_goesSteps_117 lk_X12_325 ok_X12_isDone (rcO o_534 (by decide) rfl) rfl rfl (c_X12_isDone (u := u) (v := v) hG1.2.1 hX1.2.1 hk4 (fun h => kt_s ?_) (fun I1 S1 h f1 s1 => kt_s ?_))
      · rw [one_n (X := X) h] at hq hOn
        refine s_ifeq (pc := 120) (tgt := 136) dX12_goesSteps_120 rfl (fun h120 => ?_) (fun h120 => absurd h120 (by decide))
        refine s_aload_n (pc := 136) (i := 0) dX12_goesSteps_136 rfl rfl ?_
        refine s_dup (pc := 137) dX12_goesSteps_137 rfl ?_
        refine m_gi (pc := 138) dX12_goesSteps_138 ff_X12_319 rfl o_534 ?_
        refine m_nm (v' := nI X.2.2.2) (hG1.2.2.2.2.1) ?_
        refine m_ic (pc := 141) (v := 1) dX12_goesSteps_141 rfl ?_
        refine s_iadd (pc := 142) dX12_goesSteps_142 ?_
        refine m_nm (v' := nI ((X.2.2.2) + 1)) (nI_add (X.2.2.2) 1) ?_
        refine m_pi (pc := 143) dX12_goesSteps_143 ff_X12_319 rfl rfl o_534 ?_
        refine m_inc (pc := 146) (v := 3) dX12_goesSteps_146 rfl rfl ?_
        dsimp only [List.set, List.filter]
        rw [n33]
        refine s_goto (pc := 149) (tgt := 2) dX12_goesSteps_149 rfl ?_
        exact go_list hk hS hend he r (s + 1) _ (X.1, X.2.1 + 1, X.2.2.1, X.2.2.2 + 1) _ _ hP2 (fun x hx => hl x (List.mem_cons_of_mem _ hx)) (by omega) ⟨fG_u hG1.1 (by omega), Wm_o hG1.2.1 (fun x j z => up_n3 (by omega)), by rw [up_k (by decide)]; exact hG1.2.2.1, by rw [up_k (by decide)]; exact hG1.2.2.2.1, up_s, hOn⟩ hq
      · rw [one_s (X := X) h] at hq hOn
        refine s_ifeq (pc := 120) (tgt := 136) dX12_goesSteps_120 rfl (fun h120 => absurd h120 (by decide)) (fun h120 => ?_)
        refine s_aload_n (pc := 123) (i := 0) dX12_goesSteps_123 rfl rfl ?_
        refine s_dup (pc := 124) dX12_goesSteps_124 rfl ?_
        refine m_gi (pc := 125) dX12_goesSteps_125 ff_X12_316 rfl o_534 ?_
        refine m_nm (v' := nI X.2.2.1) ((f1 534 34 (by decide) (by decide) (by decide)).trans hG1.2.2.2.1) ?_
        refine m_ic (pc := 128) (v := 1) dX12_goesSteps_128 rfl ?_
        refine s_iadd (pc := 129) dX12_goesSteps_129 ?_
        refine m_nm (v' := nI ((X.2.2.1) + 1)) (nI_add (X.2.2.1) 1) ?_
        refine m_pi (pc := 130) dX12_goesSteps_130 ff_X12_316 rfl rfl o_534 ?_
        refine s_goto (pc := 133) (tgt := 146) dX12_goesSteps_133 rfl ?_
        refine m_inc (pc := 146) (v := 3) dX12_goesSteps_146 rfl rfl ?_
        dsimp only [List.set, List.filter]
        rw [n33]
        refine s_goto (pc := 149) (tgt := 2) dX12_goesSteps_149 rfl ?_
        exact go_list hk hS hend he r (s + 1) _ (S1, X.2.1 + 1, X.2.2.1 + 1, X.2.2.2) _ _ hP2 (fun x hx => hl x (List.mem_cons_of_mem _ hx)) (by omega) ⟨fG_u (fG_t hG1.1 (fG_x f1)) (by omega), Wm_o (Wm_fX hG1.2.1 f1 s1 hOn.1) (fun x j z => up_n3 (by omega)), by rw [up_k (by decide)]; exact (f1 534 33 (by decide) (by decide) (by decide)).trans hG1.2.2.1, up_s, by rw [up_k (by decide)]; exact (f1 534 35 (by decide) (by decide) (by decide)).trans hG1.2.2.2.2.1, hOn⟩ hq
  | .inr (v, x) :: r, s, I, X, v4, v5, hP, hl, hs, hG, hq => by
    obtain ⟨e1, e2, e3, e4, hP2⟩ := hP
    have hk4 : v ≤ 40 ∧ so x := hl _ List.mem_cons_self
    simp only [mln] at hs
    have hX1 := hG.2.2.2.2.2
    have hX2 := hX1.2.2.1
    have hX3 := hX1.2.2.2.1
    have hX4 := hX1.2.2.2.2
    by_cases hX : 200 ≤ X.2.1
    · rw [exL_end hX] at hq
      refine s_iload_n (pc := 2) (i := 3) dX12_goesSteps_2 rfl rfl ?_
      refine s_iload_n (pc := 3) (i := 2) dX12_goesSteps_3 rfl rfl ?_
      refine s_icge (pc := 4) (tgt := 152) dX12_goesSteps_4 rfl (fun h4 => absurd h4 (nI_ge (a := 3 * s) (b := 3 * e) (by omega) (by omega))) (fun h4 => ?_)
      refine s_aload_n (pc := 7) (i := 0) dX12_goesSteps_7 rfl rfl ?_
      refine m_gi (pc := 8) dX12_goesSteps_8 ff_X12_313 rfl o_534 ?_
      refine m_nm (v' := nI X.2.1) (hG.2.2.1) ?_
      refine m_si (pc := 11) (v := 200) dX12_goesSteps_11 rfl ?_
      refine s_icge (pc := 14) (tgt := 152) dX12_goesSteps_14 rfl (fun h14 => ?_) (fun h14 => absurd (nI_le (a := 200) (b := X.2.1) (by omega) (by omega)) h14)
      refine s_return (pc := 152) dX12_goesSteps_152 rfl ?_
      exact hq I hG
    · have E : exL D cs sub (.inr (v, x) :: r) X = exL D cs sub r (rep (sub x) v (X.1, X.2.1 + 1, X.2.2.1, X.2.2.2)) := by simp only [exL]; rw [if_neg hX]
      rw [E] at hq
      have hO : xOk D (X.1, X.2.1 + 1, X.2.2.1, X.2.2.2) := ⟨hX1.1, hX1.2.1, by show X.2.1 + 1 ≤ 200; omega, by show X.2.2.1 ≤ X.2.1 + 1; omega, by show X.2.2.2 ≤ X.2.1 + 1; omega⟩
      have hG1 := GK_b hG hO
      refine s_iload_n (pc := 2) (i := 3) dX12_goesSteps_2 rfl rfl ?_
      refine s_iload_n (pc := 3) (i := 2) dX12_goesSteps_3 rfl rfl ?_
      refine s_icge (pc := 4) (tgt := 152) dX12_goesSteps_4 rfl (fun h4 => absurd h4 (nI_ge (a := 3 * s) (b := 3 * e) (by omega) (by omega))) (fun h4 => ?_)
      refine s_aload_n (pc := 7) (i := 0) dX12_goesSteps_7 rfl rfl ?_
      refine m_gi (pc := 8) dX12_goesSteps_8 ff_X12_313 rfl o_534 ?_
      refine m_nm (v' := nI X.2.1) (hG.2.2.1) ?_
      refine m_si (pc := 11) (v := 200) dX12_goesSteps_11 rfl ?_
      refine s_icge (pc := 14) (tgt := 152) dX12_goesSteps_14 rfl (fun h14 => absurd h14 (nI_ge (a := X.2.1) (b := 200) (by omega) (by omega))) (fun h14 => ?_)
      refine s_aload_n (pc := 17) (i := 0) dX12_goesSteps_17 rfl rfl ?_
      refine s_dup (pc := 18) dX12_goesSteps_18 rfl ?_
      refine m_gi (pc := 19) dX12_goesSteps_19 ff_X12_313 rfl o_534 ?_
      refine m_nm (v' := nI X.2.1) (hG.2.2.1) ?_
      refine m_ic (pc := 22) (v := 1) dX12_goesSteps_22 rfl ?_
      refine s_iadd (pc := 23) dX12_goesSteps_23 ?_
      refine m_nm (v' := nI ((X.2.1) + 1)) (nI_add (X.2.1) 1) ?_
      refine m_pi (pc := 24) dX12_goesSteps_24 ff_X12_313 rfl rfl o_534 ?_
      refine s_aload_n (pc := 27) (i := 0) dX12_goesSteps_27 rfl rfl ?_
      refine m_gr (pc := 28) dX12_goesSteps_28 ff_X12_56 rfl o_534 r_534_29 ?_
      refine s_iload_n (pc := 31) (i := 3) dX12_goesSteps_31 rfl rfl ?_
      refine m_ia (pc := 32) dX12_goesSteps_32 a_548 (vp_in_nI (n := 3 * s) (by omega) (by decide)) ?_
      refine m_nm (v' := 5) (rdI (j := 3 * s) ((hG1.1 548 _ (by omega)).trans e1) (by omega)) ?_
      refine m_ic (pc := 33) (v := 5) dX12_goesSteps_33 rfl ?_
      refine s_icne (pc := 34) (tgt := 94) dX12_goesSteps_34 rfl (fun h34 => absurd h34 (by decide)) (fun h34 => ?_)
      refine s_aload_n (pc := 37) (i := 0) dX12_goesSteps_37 rfl rfl ?_
      refine m_gr (pc := 38) dX12_goesSteps_38 ff_X12_56 rfl o_534 r_534_29 ?_
      refine s_iload_n (pc := 41) (i := 3) dX12_goesSteps_41 rfl rfl ?_
      refine m_ic (pc := 42) (v := 2) dX12_goesSteps_42 rfl ?_
      refine s_iadd (pc := 43) dX12_goesSteps_43 ?_
      refine m_nm (v' := nI ((3 * s) + 2)) (nI_add (3 * s) 2) ?_
      refine m_ia (pc := 44) dX12_goesSteps_44 a_548 (vp_in_nI (n := (3 * s) + 2) (by omega) (by decide)) ?_
      refine m_nm (v' := nI (3 * (s + 1 + ln x))) (rdI (j := (3 * s) + 2) ((hG1.1 548 _ (by omega)).trans e3) (by omega)) ?_
      refine s_istore (pc := 45) (i := 4) dX12_goesSteps_45 (Nat.le_of_ble_eq_true rfl) ?_
      dsimp only [List.set, List.filter]
      refine m_ic (pc := 47) (v := 0) dX12_goesSteps_47 rfl ?_
      refine s_istore (pc := 48) (i := 5) dX12_goesSteps_48 (Nat.le_of_ble_eq_true rfl) ?_
      dsimp only [List.set, List.filter]
      exact go_turns (hS x (s + 1) e4 hk4.2 (by omega)) (hend x) e2 hk4.1 (by omega) he (by omega) v 0 _ _ (by omega) hG1 (fun I2 i2 G2 => go_list hk hS hend he r (s + 1 + ln x) I2 _ _ _ hP2 (fun x hx => hl x (List.mem_cons_of_mem _ hx)) (by omega) G2 hq)
theorem go_T (hk : cOk D) : ∀ L (l : TB L) s, PmT L (I0 548) l s → okT (cb D) (cc D) L l → s + mlT L l ≤ 50 → cGs g (L + 7) J n w D cs I0 (mlT L l) (exT D cs L l) s
  | 0, l, _, _, _, _ => nomatch l
  | L + 1, l, s, hP, hl, h50 => by
    intro d I X Q hG hq
    show Rn g (d + (L + 8)) mX12_goesSteps 0 [.ref 534, .int (nI (3 * s)), .int (nI (3 * (s + mlT (L + 1) l))), .retAddr 0, .retAddr 0, .retAddr 0] [] [] (Z I J n w) Q
    refine s_iload_n (pc := 0) (i := 1) dX12_goesSteps_0 rfl rfl ?_
    refine s_istore_n (pc := 1) (i := 3) dX12_goesSteps_1 rfl (Nat.le_of_ble_eq_true rfl) ?_
    dsimp only [List.set, List.filter]
    exact go_list (k := L) (so := okT (cb D) (cc D) L) (sub := exT D cs L) hk (fun x s h1 h2 h3 => go_T hk L x s h1 h2 h3) (fun _ _ h => exT_end h) h50 l s I X _ _ hP hl rfl hG hq
end S
