section S
variable {g : aG} {d : Nat} {I : Nat → Nat → Int32} {J : Nat → Nat → Int64} {n w : Nat} {Q : aO → aS → Prop}
variable {σ : aS} {S : sD} {D : cD} {cs : List Nat} {s sz o : Nat} {β : Type} {I0 : Nat → Nat → Int32}
theorem CK_5 {X : xD} {o' : Nat} (h : CK I0 I D cs X o) : CK I0 (up I 26 5 (nI o')) D cs X o' := ⟨fK_u h.1 (by omega), Wc_o (o := o) h.2.1 (fun x j z => up_a z.1) rfl, up_s, by rw [up_k (by decide)]; exact h.2.2.2.1, h.2.2.2.2⟩
theorem CK_30 {X : xD} {j : Nat} {v : Int32} (h : CK I0 I D cs X o) : CK I0 (up I 30 j v) D cs X o := ⟨fK_u h.1 (by omega), Wc_o (o := o) h.2.1 (fun x i z => up_a z.2) rfl, by rw [up_a (by decide)]; exact h.2.2.1, by rw [up_a (by decide)]; exact h.2.2.2.1, h.2.2.2.2⟩
theorem CK_6 {X : xD} {r : Nat} (h : CK I0 I D cs X o) (hX : xOk D (X.1, X.2.1 + 1, X.2.2.1, r)) : CK I0 (up I 26 6 (nI r)) D cs (X.1, X.2.1 + 1, X.2.2.1, r) o := ⟨fK_u h.1 (by omega), Wc_o (o := o) h.2.1 (fun x j z => up_a z.1) rfl, by rw [up_k (by decide)]; exact h.2.2.1, up_s, hX⟩
theorem co_turns {run : xD → xD} {ln : Nat} (hsub : cXs g (d + 6) J n w D cs I0 Q sz (o + 1) ln run (s + 1)) (hend : ∀ X : xD, 200 ≤ X.2.1 → run X = X) (ek : I0 27 (s + 1 + ln) = 6) (ef : I0 28 (s + 1 + ln) = nI s) (hsz : I0 26 4 = nI sz) (hz : sz ≤ 150) (he : s + 1 + ln < sz) (ho : o < 6) :
    ∀ r I X m c, CK I0 I D cs X (o + 1) → I 30 o = nI r → r ≤ 40 → m + (c + r + 1) ≤ 41 * X.2.1 →
    (∀ I' m', CK I0 I' D cs (rep run (r + 1) X) o → (∀ j, j < o → I' 30 j = I 30 j) → m' + c ≤ 41 * (rep run (r + 1) X).2.1 → Rn g (d + 6) mX6_carryOut 21 (lK (rep run (r + 1) X) (s + 2 + ln) m') [] [] (Z I' J n w) Q) →
    (∀ I' at_ m', 200 ≤ (rep run (r + 1) X).2.1 → (∃ o', CK I0 I' D cs (rep run (r + 1) X) o') → Rn g (d + 6) mX6_carryOut 131 (lK (rep run (r + 1) X) at_ m') [] [] (Z I' J n w) Q) →
    Rn g (d + 6) mX6_carryOut 21 (lK X (s + 1) m) [] [] (Z I J n w) Q := by
  intro r
  induction r with
  | zero =>
    intro I X m c hC h30 hr hm hc hb
    refine hsub I X m (c + 0 + 1) hC hm (by omega) (fun I1 m1 C1 T1 M1 => ?_) (fun I1 a1 m1 z1 z2 => hb I1 a1 m1 z1 z2)
    have hb2 := C1.2.2.2.2.2.2.1
    refine co_end (e := s + 1 + ln) (hd := s) (r := 0) C1 ((C1.1 26 4 (by omega)).trans hsz) hz he ((C1.1 27 _ (by omega)).trans ek) ((C1.1 28 _ (by omega)).trans ef) ho ((T1 o (by omega)).trans h30) (by omega) (by omega) (fun _ => ?_) (fun q z => by omega)
    rw [show s + 1 + ln + 1 = s + 2 + ln by omega]
    exact hc _ (m1 + 1) (CK_5 C1) (fun j hj => by rw [up_a (by decide)]; exact T1 j (by omega)) (by show m1 + 1 + c ≤ 41 * (run X).2.1; omega)
  | succ r ih =>
    intro I X m c hC h30 hr hm hc hb
    refine hsub I X m (c + (r + 1) + 1) hC hm (by omega) (fun I1 m1 C1 T1 M1 => ?_) (fun I1 a1 m1 z1 z2 => ?_)
    · have hb2 := C1.2.2.2.2.2.2.1
      refine co_end (e := s + 1 + ln) (hd := s) (r := r + 1) C1 ((C1.1 26 4 (by omega)).trans hsz) hz he ((C1.1 27 _ (by omega)).trans ek) ((C1.1 28 _ (by omega)).trans ef) ho ((T1 o (by omega)).trans h30) (by omega) (by omega) (fun z => by omega) (fun q z => ?_)
      have e : q = r := by omega
      subst e
      exact ih _ (run X) (m1 + 1) c (CK_30 C1) up_s (by omega) (by omega) (fun I2 m2 C2 T2 M2 => hc I2 m2 C2 (fun j hj => by rw [T2 j hj, up_k (by omega)]; exact T1 j (by omega)) M2) hb
    · have e : rep run (r + 1 + 1) X = run X := rep_end hend (r + 1) (run X) z1
      rw [e] at hb
      exact hb I1 a1 m1 z1 z2
theorem one_n {st : s3} {X : xD} (h : stp D cs X.1 st = none) : one D cs st X = (X.1, X.2.1 + 1, X.2.2.1, X.2.2.2 + 1) := by unfold one; rw [h]
theorem one_s {st : s3} {X : xD} {S' : sD} (h : stp D cs X.1 st = some S') : one D cs st X = (S', X.2.1 + 1, X.2.2.1 + 1, X.2.2.2) := by unfold one; rw [h]
theorem co_list {sp : (Nat → Nat → Int32) → β → Nat → Prop} {ln : β → Nat} {sub : β → xD → xD} {so : β → Prop} (hk : cOk D) (ho : β → o < 6) (hS : ∀ x s, sp I0 x s → so x → cXs g (d + 6) J n w D cs I0 Q sz (o + 1) (ln x) (sub x) s) (hend : ∀ x (X : xD), 200 ≤ X.2.1 → sub x X = X) (hsz : I0 26 4 = nI sz) (hz : sz ≤ 150) :
    ∀ l s, PcL sp ln I0 l s → (∀ x ∈ l, okJ (cb D) (cc D) so x) → cXs g (d + 6) J n w D cs I0 Q sz o (cln ln l) (exL D cs sub l) s
  | [], s, _, _ => fun I X m c hC hm hs hc hb => hc I m hC (fun _ _ => rfl) hm
  | .inl (k, u, v) :: r, s, hP, hl => by
    intro I X m c hC hm hs hc hb
    obtain ⟨e1, e2, e3, hP2⟩ := hP
    have hk4 : okS3 (cb D) (cc D) (k, u, v) := hl _ List.mem_cons_self
    have hk5 : k ≤ 4 := by rcases hk4 with q | q | q | q | q <;> simp only [] at q <;> omega
    have E2 : s + cln ln (.inl (k, u, v) :: r) = s + 1 + cln ln r := by simp only [cln]; omega
    rw [E2] at hs hc
    have hX1 := hC.2.2.2.2
    have hX2 := hX1.2.2.1
    have hX3 := hX1.2.2.2.1
    have hX4 := hX1.2.2.2.2
    by_cases hX : 200 ≤ X.2.1
    · have E : exL D cs sub (.inl (k, u, v) :: r) X = X := exL_end hX
      rw [E] at hc hb
      refine s_iload (pc := 21) (i := 6) dX6_carryOut_21 rfl ?_
      refine s_ldc (pc := 23) dX6_carryOut_23 ct_X6_38 ?_
      refine s_icge (pc := 25) (tgt := 131) dX6_carryOut_25 rfl (fun h25 => absurd h25 (ct_m (by omega))) (fun h25 => ?_)
      refine s_iload (pc := 28) (i := 5) dX6_carryOut_28 rfl ?_
      refine s_aload_n (pc := 30) (i := 0) dX6_carryOut_30 rfl rfl ?_
      refine m_gi (pc := 31) dX6_carryOut_31 ff_X6_24 rfl o_26 ?_
      refine m_nm (v' := nI sz) ((hC.1 26 4 (by omega)).trans hsz) ?_
      refine s_icge (pc := 34) (tgt := 131) dX6_carryOut_34 rfl (fun h34 => absurd h34 (nI_ge (a := s) (b := sz) (by omega) (by omega))) (fun h34 => ?_)
      refine s_aload_n (pc := 37) (i := 0) dX6_carryOut_37 rfl rfl ?_
      refine m_gr (pc := 38) dX6_carryOut_38 ff_X6_9 rfl o_26 r_26_0 ?_
      refine s_iload (pc := 41) (i := 5) dX6_carryOut_41 rfl ?_
      refine m_ia (pc := 43) dX6_carryOut_43 a_27 (vp_in_nI (n := s) (by omega) (by decide)) ?_
      refine m_nm (v' := nI k) (rdI (j := s) ((hC.1 27 s (by omega)).trans e1) (by omega)) ?_
      refine m_bi (pc := 44) (v := 6) dX6_carryOut_44 rfl ?_
      refine s_icne (pc := 46) (tgt := 60) dX6_carryOut_46 rfl (fun h46 => ?_) (fun h46 => absurd h46 (fun z => absurd ((nI_eq (a := k) (b := 6) (by omega) (by omega)).mp z) (by omega)))
      refine s_iload_n (pc := 60) (i := 3) dX6_carryOut_60 rfl rfl ?_
      refine m_si (pc := 61) (v := 200) dX6_carryOut_61 rfl ?_
      refine s_iclt (pc := 64) (tgt := 70) dX6_carryOut_64 rfl (fun h64 => absurd h64 (nI_nlt (a := X.2.1) (b := 200) (by omega) (by omega))) (fun h64 => ?_)
      refine s_goto (pc := 67) (tgt := 131) dX6_carryOut_67 rfl ?_
      exact hb I s m hX ⟨o, hC⟩
    · have E : exL D cs sub (.inl (k, u, v) :: r) X = exL D cs sub r (one D cs (k, u, v) X) := by simp only [exL]; rw [if_neg hX]
      rw [E] at hc hb
      have hO := one_ok (cs := cs) hk hX1 hX hk4
      refine s_iload (pc := 21) (i := 6) dX6_carryOut_21 rfl ?_
      refine s_ldc (pc := 23) dX6_carryOut_23 ct_X6_38 ?_
      refine s_icge (pc := 25) (tgt := 131) dX6_carryOut_25 rfl (fun h25 => absurd h25 (ct_m (by omega))) (fun h25 => ?_)
      refine s_iload (pc := 28) (i := 5) dX6_carryOut_28 rfl ?_
      refine s_aload_n (pc := 30) (i := 0) dX6_carryOut_30 rfl rfl ?_
      refine m_gi (pc := 31) dX6_carryOut_31 ff_X6_24 rfl o_26 ?_
      refine m_nm (v' := nI sz) ((hC.1 26 4 (by omega)).trans hsz) ?_
      refine s_icge (pc := 34) (tgt := 131) dX6_carryOut_34 rfl (fun h34 => absurd h34 (nI_ge (a := s) (b := sz) (by omega) (by omega))) (fun h34 => ?_)
      refine s_aload_n (pc := 37) (i := 0) dX6_carryOut_37 rfl rfl ?_
      refine m_gr (pc := 38) dX6_carryOut_38 ff_X6_9 rfl o_26 r_26_0 ?_
      refine s_iload (pc := 41) (i := 5) dX6_carryOut_41 rfl ?_
      refine m_ia (pc := 43) dX6_carryOut_43 a_27 (vp_in_nI (n := s) (by omega) (by decide)) ?_
      refine m_nm (v' := nI k) (rdI (j := s) ((hC.1 27 s (by omega)).trans e1) (by omega)) ?_
      refine m_bi (pc := 44) (v := 6) dX6_carryOut_44 rfl ?_
      refine s_icne (pc := 46) (tgt := 60) dX6_carryOut_46 rfl (fun h46 => ?_) (fun h46 => absurd h46 (fun z => absurd ((nI_eq (a := k) (b := 6) (by omega) (by omega)).mp z) (by omega)))
      refine s_iload_n (pc := 60) (i := 3) dX6_carryOut_60 rfl rfl ?_
      refine m_si (pc := 61) (v := 200) dX6_carryOut_61 rfl ?_
      refine s_iclt (pc := 64) (tgt := 70) dX6_carryOut_64 rfl (fun h64 => ?_) (fun h64 => absurd (nI_lt (a := X.2.1) (b := 200) (by omega) (by omega)) h64)
      refine m_inc (pc := 70) (v := 1) dX6_carryOut_70 rfl rfl ?_
      dsimp only [List.set, List.filter]
      rw [nI_1]
      refine s_aload_n (pc := 73) (i := 0) dX6_carryOut_73 rfl rfl ?_
      refine m_gr (pc := 74) dX6_carryOut_74 ff_X6_9 rfl o_26 r_26_0 ?_
      refine s_iload (pc := 77) (i := 5) dX6_carryOut_77 rfl ?_
      refine m_ia (pc := 79) dX6_carryOut_79 a_27 (vp_in_nI (n := s) (by omega) (by decide)) ?_
      refine m_nm (v' := nI k) (rdI (j := s) ((hC.1 27 s (by omega)).trans e1) (by omega)) ?_
      refine m_ic (pc := 80) (v := 5) dX6_carryOut_80 rfl ?_
      refine s_icne (pc := 81) (tgt := 95) dX6_carryOut_81 rfl (fun h81 => ?_) (fun h81 => absurd h81 (fun z => absurd ((nI_eq (a := k) (b := 5) (by omega) (by omega)).mp z) (by omega)))
      refine s_aload_n (pc := 95) (i := 0) dX6_carryOut_95 rfl rfl ?_
      refine s_aload_n (pc := 96) (i := 1) dX6_carryOut_96 rfl rfl ?_
      refine s_aload_n (pc := 97) (i := 2) dX6_carryOut_97 rfl rfl ?_
      refine s_iload (pc := 98) (i := 5) dX6_carryOut_98 rfl ?_
      refine m_v3 (pc := 100) dX6_carryOut_100 lk_X6_46 ok_X6_begin (rcO o_26 (by decide) rfl) rfl rfl (c_X6_begin (u := u) (v := v) hC.2.1 hX1.2.1 hk4 ((hC.1 27 s (by omega)).trans e1) ((hC.1 28 s (by omega)).trans e2) ((hC.1 29 s (by omega)).trans e3) (by omega) (fun h => kt_s ?_) (fun I1 S1 h f1 s1 => kt_s ?_))
      · rw [one_n h] at hc hb hO
        refine s_ifeq (pc := 103) (tgt := 112) dX6_carryOut_103 rfl (fun h103 => ?_) (fun h103 => absurd h103 (by decide))
        refine s_aload_n (pc := 112) (i := 0) dX6_carryOut_112 rfl rfl ?_
        refine s_dup (pc := 113) dX6_carryOut_113 rfl ?_
        refine m_gi (pc := 114) dX6_carryOut_114 ff_X6_35 rfl o_26 ?_
        refine m_nm (v' := nI X.2.2.2) (hC.2.2.2.1) ?_
        refine m_ic (pc := 117) (v := 1) dX6_carryOut_117 rfl ?_
        refine s_iadd (pc := 118) dX6_carryOut_118 ?_
        refine m_nm (v' := nI (X.2.2.2 + 1)) (nI_1 _) ?_
        refine m_pi (pc := 119) dX6_carryOut_119 ff_X6_35 rfl rfl o_26 ?_
        refine m_inc (pc := 122) (v := 1) dX6_carryOut_122 rfl rfl ?_
        dsimp only [List.set, List.filter]
        rw [nI_1]
        refine m_inc (pc := 125) (v := 1) dX6_carryOut_125 rfl rfl ?_
        dsimp only [List.set, List.filter]
        rw [nI_1]
        refine s_goto (pc := 128) (tgt := 21) dX6_carryOut_128 rfl ?_
        exact co_list hk ho hS hend hsz hz r (s + 1) hP2 (fun x hx => hl x (List.mem_cons_of_mem _ hx)) _ _ (m + 1) c (CK_6 hC hO) (by show m + 1 + c ≤ 41 * (X.2.1 + 1); omega) hs (fun I2 m2 C2 T2 M2 => hc I2 m2 C2 (fun j hj => by rw [T2 j hj, up_a (by decide)]) M2) hb
      · rw [one_s h] at hc hb hO
        refine s_ifeq (pc := 103) (tgt := 112) dX6_carryOut_103 rfl (fun h103 => absurd h103 (by decide)) (fun h103 => ?_)
        refine m_inc (pc := 106) (v := 1) dX6_carryOut_106 rfl rfl ?_
        dsimp only [List.set, List.filter]
        rw [nI_1]
        refine s_goto (pc := 109) (tgt := 122) dX6_carryOut_109 rfl ?_
        refine m_inc (pc := 122) (v := 1) dX6_carryOut_122 rfl rfl ?_
        dsimp only [List.set, List.filter]
        rw [nI_1]
        refine m_inc (pc := 125) (v := 1) dX6_carryOut_125 rfl rfl ?_
        dsimp only [List.set, List.filter]
        rw [nI_1]
        refine s_goto (pc := 128) (tgt := 21) dX6_carryOut_128 rfl ?_
        exact co_list hk ho hS hend hsz hz r (s + 1) hP2 (fun x hx => hl x (List.mem_cons_of_mem _ hx)) I1 _ (m + 1) c ⟨fK_t hC.1 (fK_s f1), Wc_fS hC.2.1 (by decide) f1 s1 hO.1, (f1 26 5 (by decide) (by decide) (by decide)).trans hC.2.2.1, (f1 26 6 (by decide) (by decide) (by decide)).trans hC.2.2.2.1, hO⟩ (by show m + 1 + c ≤ 41 * (X.2.1 + 1); omega) hs (fun I2 m2 C2 T2 M2 => hc I2 m2 C2 (fun j hj => by rw [T2 j hj, f1 30 j (by decide) (by decide) (by decide)]) M2) hb
  | .inr (v, x) :: r, s, hP, hl => by
    intro I X m c hC hm hs hc hb
    obtain ⟨e1, e2, e3, e4, e5, e6, hP2⟩ := hP
    have hk4 : v ≤ 40 ∧ so x := hl _ List.mem_cons_self
    have E2 : s + cln ln (.inr (v, x) :: r) = s + 2 + ln x + cln ln r := by simp only [cln]; omega
    rw [E2] at hs hc
    have hX1 := hC.2.2.2.2
    have hX2 := hX1.2.2.1
    have hX3 := hX1.2.2.2.1
    have hX4 := hX1.2.2.2.2
    have ho6 := ho x
    by_cases hX : 200 ≤ X.2.1
    · have E : exL D cs sub (.inr (v, x) :: r) X = X := exL_end hX
      rw [E] at hc hb
      refine s_iload (pc := 21) (i := 6) dX6_carryOut_21 rfl ?_
      refine s_ldc (pc := 23) dX6_carryOut_23 ct_X6_38 ?_
      refine s_icge (pc := 25) (tgt := 131) dX6_carryOut_25 rfl (fun h25 => absurd h25 (ct_m (by omega))) (fun h25 => ?_)
      refine s_iload (pc := 28) (i := 5) dX6_carryOut_28 rfl ?_
      refine s_aload_n (pc := 30) (i := 0) dX6_carryOut_30 rfl rfl ?_
      refine m_gi (pc := 31) dX6_carryOut_31 ff_X6_24 rfl o_26 ?_
      refine m_nm (v' := nI sz) ((hC.1 26 4 (by omega)).trans hsz) ?_
      refine s_icge (pc := 34) (tgt := 131) dX6_carryOut_34 rfl (fun h34 => absurd h34 (nI_ge (a := s) (b := sz) (by omega) (by omega))) (fun h34 => ?_)
      refine s_aload_n (pc := 37) (i := 0) dX6_carryOut_37 rfl rfl ?_
      refine m_gr (pc := 38) dX6_carryOut_38 ff_X6_9 rfl o_26 r_26_0 ?_
      refine s_iload (pc := 41) (i := 5) dX6_carryOut_41 rfl ?_
      refine m_ia (pc := 43) dX6_carryOut_43 a_27 (vp_in_nI (n := s) (by omega) (by decide)) ?_
      refine m_nm (v' := 5) (rdI (j := s) ((hC.1 27 s (by omega)).trans e1) (by omega)) ?_
      refine m_bi (pc := 44) (v := 6) dX6_carryOut_44 rfl ?_
      refine s_icne (pc := 46) (tgt := 60) dX6_carryOut_46 rfl (fun h46 => ?_) (fun h46 => absurd h46 (by decide))
      refine s_iload_n (pc := 60) (i := 3) dX6_carryOut_60 rfl rfl ?_
      refine m_si (pc := 61) (v := 200) dX6_carryOut_61 rfl ?_
      refine s_iclt (pc := 64) (tgt := 70) dX6_carryOut_64 rfl (fun h64 => absurd h64 (nI_nlt (a := X.2.1) (b := 200) (by omega) (by omega))) (fun h64 => ?_)
      refine s_goto (pc := 67) (tgt := 131) dX6_carryOut_67 rfl ?_
      exact hb I s m hX ⟨o, hC⟩
    · have E : exL D cs sub (.inr (v, x) :: r) X = exL D cs sub r (rep (sub x) v (X.1, X.2.1 + 1, X.2.2.1, X.2.2.2)) := by simp only [exL]; rw [if_neg hX]
      rw [E] at hc hb
      have hO : xOk D (X.1, X.2.1 + 1, X.2.2.1, X.2.2.2) := ⟨hX1.1, hX1.2.1, by show X.2.1 + 1 ≤ 200; omega, by show X.2.2.1 ≤ X.2.1 + 1; omega, by show X.2.2.2 ≤ X.2.1 + 1; omega⟩
      have hC1 : CK I0 I D cs (X.1, X.2.1 + 1, X.2.2.1, X.2.2.2) o := ⟨hC.1, hC.2.1, hC.2.2.1, hC.2.2.2.1, hO⟩
      refine s_iload (pc := 21) (i := 6) dX6_carryOut_21 rfl ?_
      refine s_ldc (pc := 23) dX6_carryOut_23 ct_X6_38 ?_
      refine s_icge (pc := 25) (tgt := 131) dX6_carryOut_25 rfl (fun h25 => absurd h25 (ct_m (by omega))) (fun h25 => ?_)
      refine s_iload (pc := 28) (i := 5) dX6_carryOut_28 rfl ?_
      refine s_aload_n (pc := 30) (i := 0) dX6_carryOut_30 rfl rfl ?_
      refine m_gi (pc := 31) dX6_carryOut_31 ff_X6_24 rfl o_26 ?_
      refine m_nm (v' := nI sz) ((hC.1 26 4 (by omega)).trans hsz) ?_
      refine s_icge (pc := 34) (tgt := 131) dX6_carryOut_34 rfl (fun h34 => absurd h34 (nI_ge (a := s) (b := sz) (by omega) (by omega))) (fun h34 => ?_)
      refine s_aload_n (pc := 37) (i := 0) dX6_carryOut_37 rfl rfl ?_
      refine m_gr (pc := 38) dX6_carryOut_38 ff_X6_9 rfl o_26 r_26_0 ?_
      refine s_iload (pc := 41) (i := 5) dX6_carryOut_41 rfl ?_
      refine m_ia (pc := 43) dX6_carryOut_43 a_27 (vp_in_nI (n := s) (by omega) (by decide)) ?_
      refine m_nm (v' := 5) (rdI (j := s) ((hC.1 27 s (by omega)).trans e1) (by omega)) ?_
      refine m_bi (pc := 44) (v := 6) dX6_carryOut_44 rfl ?_
      refine s_icne (pc := 46) (tgt := 60) dX6_carryOut_46 rfl (fun h46 => ?_) (fun h46 => absurd h46 (by decide))
      refine s_iload_n (pc := 60) (i := 3) dX6_carryOut_60 rfl rfl ?_
      refine m_si (pc := 61) (v := 200) dX6_carryOut_61 rfl ?_
      refine s_iclt (pc := 64) (tgt := 70) dX6_carryOut_64 rfl (fun h64 => ?_) (fun h64 => absurd (nI_lt (a := X.2.1) (b := 200) (by omega) (by omega)) h64)
      refine m_inc (pc := 70) (v := 1) dX6_carryOut_70 rfl rfl ?_
      dsimp only [List.set, List.filter]
      rw [nI_1]
      refine s_aload_n (pc := 73) (i := 0) dX6_carryOut_73 rfl rfl ?_
      refine m_gr (pc := 74) dX6_carryOut_74 ff_X6_9 rfl o_26 r_26_0 ?_
      refine s_iload (pc := 77) (i := 5) dX6_carryOut_77 rfl ?_
      refine m_ia (pc := 79) dX6_carryOut_79 a_27 (vp_in_nI (n := s) (by omega) (by decide)) ?_
      refine m_nm (v' := 5) (rdI (j := s) ((hC.1 27 s (by omega)).trans e1) (by omega)) ?_
      refine m_ic (pc := 80) (v := 5) dX6_carryOut_80 rfl ?_
      refine s_icne (pc := 81) (tgt := 95) dX6_carryOut_81 rfl (fun h81 => absurd h81 (by decide)) (fun h81 => ?_)
      refine s_aload_n (pc := 84) (i := 0) dX6_carryOut_84 rfl rfl ?_
      refine s_iload (pc := 85) (i := 5) dX6_carryOut_85 rfl ?_
      refine m_v1 (pc := 87) dX6_carryOut_87 lk_X6_43 ok_X6_enter (rcO o_26 (by decide) rfl) rfl rfl (c_X6_enter (v := v) (e := s + 1 + ln x) ((hC.1 28 s (by omega)).trans e2) ((hC.1 29 s (by omega)).trans e3) (by omega) hk4.1 hC.2.2.1 ho6 (fun z => kt_s ?_) (fun z => kt_s ?_))
      · subst z
        refine s_istore (pc := 90) (i := 5) dX6_carryOut_90 (Nat.le_of_ble_eq_true rfl) ?_
        dsimp only [List.set, List.filter]
        refine s_goto (pc := 92) (tgt := 125) dX6_carryOut_92 rfl ?_
        refine m_inc (pc := 125) (v := 1) dX6_carryOut_125 rfl rfl ?_
        dsimp only [List.set, List.filter]
        rw [nI_1]
        refine s_goto (pc := 128) (tgt := 21) dX6_carryOut_128 rfl ?_
        rw [show s + 1 + ln x + 1 = s + 2 + ln x by omega]
        exact co_list hk ho hS hend hsz hz r (s + 2 + ln x) hP2 (fun x hx => hl x (List.mem_cons_of_mem _ hx)) I _ (m + 1) c hC1 (by show m + 1 + c ≤ 41 * (X.2.1 + 1); omega) hs hc hb
      · obtain ⟨q, eq⟩ : ∃ q, v = q + 1 := ⟨v - 1, by omega⟩
        subst eq
        refine s_istore (pc := 90) (i := 5) dX6_carryOut_90 (Nat.le_of_ble_eq_true rfl) ?_
        dsimp only [List.set, List.filter]
        refine s_goto (pc := 92) (tgt := 125) dX6_carryOut_92 rfl ?_
        refine m_inc (pc := 125) (v := 1) dX6_carryOut_125 rfl rfl ?_
        dsimp only [List.set, List.filter]
        rw [nI_1]
        refine s_goto (pc := 128) (tgt := 21) dX6_carryOut_128 rfl ?_
        refine co_turns (hS x (s + 1) e4 hk4.2) (hend x) e5 e6 hsz hz (by omega) ho6 q _ (X.1, X.2.1 + 1, X.2.2.1, X.2.2.2) (m + 1) c (CK_5 (CK_30 hC1)) (by rw [up_a (by decide), up_s]; rfl) (by omega) (by show m + 1 + (c + q + 1) ≤ 41 * (X.2.1 + 1); omega) (fun I2 m2 C2 T2 M2 => ?_) (fun I2 a2 m2 z1 z2 => ?_)
        · exact co_list hk ho hS hend hsz hz r (s + 2 + ln x) hP2 (fun x hx => hl x (List.mem_cons_of_mem _ hx)) I2 _ m2 c C2 M2 hs (fun I3 m3 C3 T3 M3 => hc I3 m3 C3 (fun j hj => by rw [T3 j hj, T2 j hj, up_a (by decide), up_k (by omega)]) M3) hb
        · rw [exL_end z1] at hb
          exact hb I2 a2 m2 z1 z2
theorem co_T (hk : cOk D) (hsz : I0 26 4 = nI sz) (hz : sz ≤ 150) : ∀ L o, o + L = 7 → ∀ (l : TB L) s, PcT L I0 l s → okT (cb D) (cc D) L l → cXs g (d + 6) J n w D cs I0 Q sz o (clT L l) (exT D cs L l) s
  | 0, _, _, l, _, _, _ => nomatch l
  | L + 1, o, h, l, s, hP, hl => co_list (so := okT (cb D) (cc D) L) (sub := exT D cs L) hk (fun x => by cases L with
      | zero => exact nomatch x
      | succ L => omega) (fun x s h1 h2 => co_T hk hsz hz L (o + 1) (by omega) x s h1 h2) (fun _ _ h => exT_end h) hsz hz l s hP hl
theorem c_X6_carryOut {x : TB 7} (hW : Wc I 33 D cs S) (hY : sY S ≤ 400) (hP : PcT 7 I x 0) (hl : okT (cb D) (cc D) 7 x) (hsz : I 26 4 = nI (clT 7 x)) (hz : clT 7 x ≤ 150) (hq : ∀ I', fK I I' → Wc I' 33 D cs (exT D cs 7 x (S, 0, 0, 0)).1 → I' 26 6 = nI (exT D cs 7 x (S, 0, 0, 0)).2.2.2 → xOk D (exT D cs 7 x (S, 0, 0, 0)) → Q (.inl (some (.int (nI (exT D cs 7 x (S, 0, 0, 0)).2.2.1)))) (Z I' J n w)) : Cn g (d + 6) mX6_carryOut [.ref 26, .ref 31, .ref 33] (Z I J n w) Q := by
  show Rn g (d + 6) mX6_carryOut 0 [.ref 26, .ref 31, .ref 33, .retAddr 0, .retAddr 0, .retAddr 0, .retAddr 0] [] [] (Z I J n w) Q
  refine m_ic (pc := 0) (v := 0) dX6_carryOut_0 rfl ?_
  refine s_istore_n (pc := 1) (i := 3) dX6_carryOut_1 rfl (Nat.le_of_ble_eq_true rfl) ?_
  dsimp only [List.set, List.filter]
  refine m_ic (pc := 2) (v := 0) dX6_carryOut_2 rfl ?_
  refine s_istore (pc := 3) (i := 4) dX6_carryOut_3 (Nat.le_of_ble_eq_true rfl) ?_
  dsimp only [List.set, List.filter]
  refine m_ic (pc := 5) (v := 0) dX6_carryOut_5 rfl ?_
  refine s_istore (pc := 6) (i := 5) dX6_carryOut_6 (Nat.le_of_ble_eq_true rfl) ?_
  dsimp only [List.set, List.filter]
  refine s_aload_n (pc := 8) (i := 0) dX6_carryOut_8 rfl rfl ?_
  refine m_ic (pc := 9) (v := 0) dX6_carryOut_9 rfl ?_
  refine m_pi (pc := 10) dX6_carryOut_10 ff_X6_32 rfl rfl o_26 ?_
  refine s_aload_n (pc := 13) (i := 0) dX6_carryOut_13 rfl rfl ?_
  refine m_ic (pc := 14) (v := 0) dX6_carryOut_14 rfl ?_
  refine m_pi (pc := 15) dX6_carryOut_15 ff_X6_35 rfl rfl o_26 ?_
  refine m_ic (pc := 18) (v := 0) dX6_carryOut_18 rfl ?_
  refine s_istore (pc := 19) (i := 6) dX6_carryOut_19 (Nat.le_of_ble_eq_true rfl) ?_
  dsimp only [List.set, List.filter]
  obtain ⟨I1, e1⟩ : ∃ z, z = up (up I 26 5 0) 26 6 0 := ⟨_, rfl⟩
  rw [← e1]
  have hf : ∀ y j, (y ≠ 26 ∨ j = 4) → I1 y j = I y j := fun y j z => by rw [e1, up_n3 (by omega), up_n3 (by omega)]
  have hW1 : Wc I1 33 D cs S := Wc_o (o := 0) hW (fun y j z => hf y j (by omega)) rfl
  have hC : CK I1 I1 D cs (S, 0, 0, 0) 0 := ⟨fK_r, hW1, by rw [e1, up_k (by decide), up_s]; rfl, by rw [e1, up_s]; rfl, hW.2.2.2.2.2, hY, Nat.zero_le _, Nat.zero_le _, Nat.zero_le _⟩
  have hP1 : PcT 7 I1 x 0 := pF_T 7 I I1 x 0 (fun y j z _ _ => hf y j (by omega)) hP
  have h4 : I1 26 4 = nI (clT 7 x) := (hf 26 4 (by omega)).trans hsz
  have hfk : fK I I1 := fun y j z => hf y j (by omega)
  refine co_T hW.2.1 h4 hz 7 0 rfl x 0 hP1 hl I1 (S, 0, 0, 0) 0 0 hC (Nat.zero_le _) (by omega) (fun I2 m2 C2 T2 M2 => ?_) (fun I2 a2 m2 z1 z2 => ?_)
  · obtain ⟨X, eX⟩ : ∃ z, z = exT D cs 7 x (S, 0, 0, 0) := ⟨_, rfl⟩
    rw [← eX] at C2 M2 hq ⊢
    have hb2 := C2.2.2.2.2.2.2.1
    rw [Nat.zero_add]
    refine s_iload (pc := 21) (i := 6) dX6_carryOut_21 rfl ?_
    refine s_ldc (pc := 23) dX6_carryOut_23 ct_X6_38 ?_
    refine s_icge (pc := 25) (tgt := 131) dX6_carryOut_25 rfl (fun h25 => absurd h25 (ct_m (by omega))) (fun h25 => ?_)
    refine s_iload (pc := 28) (i := 5) dX6_carryOut_28 rfl ?_
    refine s_aload_n (pc := 30) (i := 0) dX6_carryOut_30 rfl rfl ?_
    refine m_gi (pc := 31) dX6_carryOut_31 ff_X6_24 rfl o_26 ?_
    refine m_nm (v' := nI (clT 7 x)) ((C2.1 26 4 (by omega)).trans h4) ?_
    refine s_icge (pc := 34) (tgt := 131) dX6_carryOut_34 rfl (fun h34 => ?_) (fun h34 => absurd (nI_le (a := clT 7 x) (b := clT 7 x) (by omega) (by omega)) h34)
    refine s_iload (pc := 131) (i := 4) dX6_carryOut_131 rfl ?_
    refine s_ireturn (pc := 133) dX6_carryOut_133 rfl rfl ?_
    exact hq I2 (fK_t hfk C2.1) C2.2.1 C2.2.2.2.1 C2.2.2.2.2
  · obtain ⟨o2, C2⟩ := z2
    obtain ⟨X, eX⟩ : ∃ z, z = exT D cs 7 x (S, 0, 0, 0) := ⟨_, rfl⟩
    rw [← eX] at C2 hq ⊢
    refine s_iload (pc := 131) (i := 4) dX6_carryOut_131 rfl ?_
    refine s_ireturn (pc := 133) dX6_carryOut_133 rfl rfl ?_
    exact hq I2 (fK_t hfk C2.1) C2.2.1 C2.2.2.2.1 C2.2.2.2.2
end S
