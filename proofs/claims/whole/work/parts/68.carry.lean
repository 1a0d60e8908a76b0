section S
variable {g : aG} {d : Nat} {I : Nat → Nat → Int32} {J : Nat → Nat → Int64} {n w : Nat} {Q : aO → aS → Prop}
variable {σ : aS} {S : sD} {D : cD} {cs : List Nat} {s : Nat} {β : Type}
theorem stp_0 {u v : Nat} : stp D cs S (0, u, v) = if sF S u = true then none else some (sat D cs S u v) := rfl
theorem stp_1 {u v : Nat} : stp D cs S (1, u, v) = if hnw S u v = true then some (tol S u v 12) else none := rfl
theorem stp_2 {u v : Nat} : stp D cs S (2, u, v) = if sH S = u ∨ ck D < u then none else some (zH S u) := rfl
theorem stp_3 {u v : Nat} : stp D cs S (3, u, v) = if sT S u = 0 then none else some (rst S u) := rfl
theorem stp_4 {u v : Nat} : stp D cs S (4, u, v) = if 400 ≤ sY S then none else some (pss D S) := rfl
theorem c_X6_begin {k u v : Nat} (hW : Wc I 33 D cs S) (hY : sY S ≤ 400) (ok : okS3 (cb D) (cc D) (k, u, v)) (e1 : I 27 s = nI k) (e2 : I 28 s = nI u) (e3 : I 29 s = nI v) (hs : s < 150) (hn : stp D cs S (k, u, v) = none → Q (.inl (some (.int 0))) (Z I J n w)) (hj : ∀ I' S', stp D cs S (k, u, v) = some S' → fS 33 I I' → Sc I' 33 S' → Q (.inl (some (.int 1))) (Z I' J n w)) : Cn g (d + 5) mX6_begin [.ref 26, .ref 31, .ref 33, .int (nI s)] (Z I J n w) Q := by
  have hb7 := hW.2.1.1
  have hc12 := hW.2.1.2.1
  rcases ok with ⟨o0, o1, o2⟩ | ⟨o0, o1, o2⟩ | ⟨o0, o1⟩ | ⟨o0, o1⟩ | o0
  · simp only [] at o0 o1 o2
    subst o0
    show Rn g (d + 5) mX6_begin 0 [.ref 26, .ref 31, .ref 33, .int (nI s)] [] [] (Z I J n w) Q
    refine s_aload_n (pc := 0) (i := 0) dX6_begin_0 rfl rfl ?_
    refine m_gr (pc := 1) dX6_begin_1 ff_X6_9 rfl o_26 r_26_0 ?_
    refine s_iload_n (pc := 4) (i := 3) dX6_begin_4 rfl rfl ?_
    refine m_ia (pc := 5) dX6_begin_5 a_27 (vp_in_nI (n := s) (by omega) (by decide)) ?_
    refine m_nm (v' := 0) (rdI (j := s) (e1) (by omega)) ?_
    refine s_tabIn (pc := 6) (tgt := 36) dX6_begin_6 (by decide) (by decide) rfl rfl ?_
    refine s_aload_n (pc := 36) (i := 1) dX6_begin_36 rfl rfl ?_
    refine s_aload_n (pc := 37) (i := 2) dX6_begin_37 rfl rfl ?_
    refine s_aload_n (pc := 38) (i := 0) dX6_begin_38 rfl rfl ?_
    refine m_gr (pc := 39) dX6_begin_39 ff_X6_15 rfl o_26 r_26_1 ?_
    refine s_iload_n (pc := 42) (i := 3) dX6_begin_42 rfl rfl ?_
    refine m_ia (pc := 43) dX6_begin_43 a_28 (vp_in_nI (n := s) (by omega) (by decide)) ?_
    refine m_nm (v' := nI u) (rdI (j := s) (e2) (by omega)) ?_
    refine s_aload_n (pc := 44) (i := 0) dX6_begin_44 rfl rfl ?_
    refine m_gr (pc := 45) dX6_begin_45 ff_X6_18 rfl o_26 r_26_2 ?_
    refine s_iload_n (pc := 48) (i := 3) dX6_begin_48 rfl rfl ?_
    refine m_ia (pc := 49) dX6_begin_49 a_29 (vp_in_nI (n := s) (by omega) (by decide)) ?_
    refine m_nm (v' := nI v) (rdI (j := s) (e3) (by omega)) ?_
    refine m_v3 (pc := 50) dX6_begin_50 lk_X6_56 ok_X3_sit (rcO o_31 (by decide) rfl) rfl rfl (c_X3_sit (o := 33) sO_33 (by decide) hW o1 o2 (fun h => kt_s ?_) (fun I1 h f1 s1 => kt_s ?_))
    · refine s_ireturn (pc := 53) dX6_begin_53 rfl rfl ?_
      exact hn (by rw [stp_0, if_pos h])
    · refine s_ireturn (pc := 53) dX6_begin_53 rfl rfl ?_
      exact hj I1 _ (by rw [stp_0, if_neg (by rw [h]; decide)]) f1 s1
  · simp only [] at o0 o1 o2
    subst o0
    show Rn g (d + 5) mX6_begin 0 [.ref 26, .ref 31, .ref 33, .int (nI s)] [] [] (Z I J n w) Q
    refine s_aload_n (pc := 0) (i := 0) dX6_begin_0 rfl rfl ?_
    refine m_gr (pc := 1) dX6_begin_1 ff_X6_9 rfl o_26 r_26_0 ?_
    refine s_iload_n (pc := 4) (i := 3) dX6_begin_4 rfl rfl ?_
    refine m_ia (pc := 5) dX6_begin_5 a_27 (vp_in_nI (n := s) (by omega) (by decide)) ?_
    refine m_nm (v' := 1) (rdI (j := s) (e1) (by omega)) ?_
    refine s_tabIn (pc := 6) (tgt := 54) dX6_begin_6 (by decide) (by decide) rfl rfl ?_
    refine s_aload_n (pc := 54) (i := 2) dX6_begin_54 rfl rfl ?_
    refine s_aload_n (pc := 55) (i := 0) dX6_begin_55 rfl rfl ?_
    refine m_gr (pc := 56) dX6_begin_56 ff_X6_15 rfl o_26 r_26_1 ?_
    refine s_iload_n (pc := 59) (i := 3) dX6_begin_59 rfl rfl ?_
    refine m_ia (pc := 60) dX6_begin_60 a_28 (vp_in_nI (n := s) (by omega) (by decide)) ?_
    refine m_nm (v' := nI u) (rdI (j := s) (e2) (by omega)) ?_
    refine s_aload_n (pc := 61) (i := 0) dX6_begin_61 rfl rfl ?_
    refine m_gr (pc := 62) dX6_begin_62 ff_X6_18 rfl o_26 r_26_2 ?_
    refine s_iload_n (pc := 65) (i := 3) dX6_begin_65 rfl rfl ?_
    refine m_ia (pc := 66) dX6_begin_66 a_29 (vp_in_nI (n := s) (by omega) (by decide)) ?_
    refine m_nm (v' := nI v) (rdI (j := s) (e3) (by omega)) ?_
    refine m_v2 (pc := 67) dX6_begin_67 lk_X6_62 ok_X9_tell (rcO (sO_33).1 (by decide) rfl) rfl rfl (c_X9_tell sO_33 hW.2.2.2.2.1 (by omega) (by omega) (fun x y z u => (hW.2.2.2.2.2.2.1 x y z u).1) (fun h => kt_s ?_) (fun I1 h f1 s1 => kt_s ?_))
    · refine s_ireturn (pc := 70) dX6_begin_70 rfl rfl ?_
      exact hn (by rw [stp_1, if_neg (by rw [h]; decide)])
    · refine s_ireturn (pc := 70) dX6_begin_70 rfl rfl ?_
      exact hj I1 _ (by rw [stp_1, if_pos h]) (fS_o f1) s1
  · simp only [] at o0 o1
    subst o0
    show Rn g (d + 5) mX6_begin 0 [.ref 26, .ref 31, .ref 33, .int (nI s)] [] [] (Z I J n w) Q
    refine s_aload_n (pc := 0) (i := 0) dX6_begin_0 rfl rfl ?_
    refine m_gr (pc := 1) dX6_begin_1 ff_X6_9 rfl o_26 r_26_0 ?_
    refine s_iload_n (pc := 4) (i := 3) dX6_begin_4 rfl rfl ?_
    refine m_ia (pc := 5) dX6_begin_5 a_27 (vp_in_nI (n := s) (by omega) (by decide)) ?_
    refine m_nm (v' := 2) (rdI (j := s) (e1) (by omega)) ?_
    refine s_tabIn (pc := 6) (tgt := 71) dX6_begin_6 (by decide) (by decide) rfl rfl ?_
    refine s_aload_n (pc := 71) (i := 1) dX6_begin_71 rfl rfl ?_
    refine s_aload_n (pc := 72) (i := 2) dX6_begin_72 rfl rfl ?_
    refine s_aload_n (pc := 73) (i := 0) dX6_begin_73 rfl rfl ?_
    refine m_gr (pc := 74) dX6_begin_74 ff_X6_15 rfl o_26 r_26_1 ?_
    refine s_iload_n (pc := 77) (i := 3) dX6_begin_77 rfl rfl ?_
    refine m_ia (pc := 78) dX6_begin_78 a_28 (vp_in_nI (n := s) (by omega) (by decide)) ?_
    refine m_nm (v' := nI u) (rdI (j := s) (e2) (by omega)) ?_
    refine m_v2 (pc := 79) dX6_begin_79 lk_X6_68 ok_X3_hold (rcO o_31 (by decide) rfl) rfl rfl (c_X3_hold (o := 33) sO_33 (by decide) hW o1 (fun h => kt_s ?_) (fun I1 h f1 s1 => kt_s ?_))
    · refine s_ireturn (pc := 82) dX6_begin_82 rfl rfl ?_
      exact hn (by rw [stp_2, if_pos h])
    · refine s_ireturn (pc := 82) dX6_begin_82 rfl rfl ?_
      exact hj I1 _ (by rw [stp_2, if_neg h]) f1 s1
  · simp only [] at o0 o1
    subst o0
    show Rn g (d + 5) mX6_begin 0 [.ref 26, .ref 31, .ref 33, .int (nI s)] [] [] (Z I J n w) Q
    refine s_aload_n (pc := 0) (i := 0) dX6_begin_0 rfl rfl ?_
    refine m_gr (pc := 1) dX6_begin_1 ff_X6_9 rfl o_26 r_26_0 ?_
    refine s_iload_n (pc := 4) (i := 3) dX6_begin_4 rfl rfl ?_
    refine m_ia (pc := 5) dX6_begin_5 a_27 (vp_in_nI (n := s) (by omega) (by decide)) ?_
    refine m_nm (v' := 3) (rdI (j := s) (e1) (by omega)) ?_
    refine s_tabIn (pc := 6) (tgt := 83) dX6_begin_6 (by decide) (by decide) rfl rfl ?_
    refine s_aload_n (pc := 83) (i := 2) dX6_begin_83 rfl rfl ?_
    refine s_aload_n (pc := 84) (i := 0) dX6_begin_84 rfl rfl ?_
    refine m_gr (pc := 85) dX6_begin_85 ff_X6_15 rfl o_26 r_26_1 ?_
    refine s_iload_n (pc := 88) (i := 3) dX6_begin_88 rfl rfl ?_
    refine m_ia (pc := 89) dX6_begin_89 a_28 (vp_in_nI (n := s) (by omega) (by decide)) ?_
    refine m_nm (v' := nI u) (rdI (j := s) (e2) (by omega)) ?_
    refine m_v1 (pc := 90) dX6_begin_90 lk_X6_72 ok_X9_rest (rcO (sO_33).1 (by decide) rfl) rfl rfl (c_X9_rest sO_33 hW.2.2.2.2.1 (by omega) (hW.2.2.2.2.2.1 u).1 (fun h => kt_s ?_) (fun I1 h f1 s1 => kt_s ?_))
    · refine s_ireturn (pc := 93) dX6_begin_93 rfl rfl ?_
      exact hn (by rw [stp_3, if_pos h])
    · refine s_ireturn (pc := 93) dX6_begin_93 rfl rfl ?_
      exact hj I1 _ (by rw [stp_3, if_neg h]) (fS_o f1) s1
  · simp only [] at o0 
    subst o0
    show Rn g (d + 5) mX6_begin 0 [.ref 26, .ref 31, .ref 33, .int (nI s)] [] [] (Z I J n w) Q
    refine s_aload_n (pc := 0) (i := 0) dX6_begin_0 rfl rfl ?_
    refine m_gr (pc := 1) dX6_begin_1 ff_X6_9 rfl o_26 r_26_0 ?_
    refine s_iload_n (pc := 4) (i := 3) dX6_begin_4 rfl rfl ?_
    refine m_ia (pc := 5) dX6_begin_5 a_27 (vp_in_nI (n := s) (by omega) (by decide)) ?_
    refine m_nm (v' := 4) (rdI (j := s) (e1) (by omega)) ?_
    refine s_tabOut (pc := 6) (tgt := 94) dX6_begin_6 (by decide) rfl ?_
    refine s_aload_n (pc := 94) (i := 1) dX6_begin_94 rfl rfl ?_
    refine s_aload_n (pc := 95) (i := 2) dX6_begin_95 rfl rfl ?_
    refine m_v1 (pc := 96) dX6_begin_96 lk_X6_76 ok_X3_dawn (rcO o_31 (by decide) rfl) rfl rfl (c_X3_dawn (o := 33) sO_33 (by decide) hW (by omega) (fun h => kt_s ?_) (fun I1 h f1 s1 => kt_s ?_))
    · refine s_ireturn (pc := 99) dX6_begin_99 rfl rfl ?_
      exact hn (by rw [stp_4, if_pos h])
    · refine s_ireturn (pc := 99) dX6_begin_99 rfl rfl ?_
      exact hj I1 _ (by rw [stp_4, if_neg (by omega)]) (fS_o f1) s1
theorem c_X6_enter {v e : Nat} (e2 : I 28 s = nI v) (e3 : I 29 s = nI e) (hs : s < 150) (hv : v ≤ 40) {o : Nat} (h5 : I 26 5 = nI o) (ho : o < 6) (h0 : v = 0 → Q (.inl (some (.int (nI (e + 1))))) (Z I J n w)) (h1 : ¬ v = 0 → Q (.inl (some (.int (nI (s + 1))))) (Z (up (up I 30 o (nI (v - 1))) 26 5 (nI (o + 1))) J n w)) : Cn g (d + 0) mX6_enter [.ref 26, .int (nI s)] (Z I J n w) Q := by
  show Rn g (d + 0) mX6_enter 0 [.ref 26, .int (nI s)] [] [] (Z I J n w) Q
  refine s_aload_n (pc := 0) (i := 0) dX6_enter_0 rfl rfl ?_
  refine m_gr (pc := 1) dX6_enter_1 ff_X6_15 rfl o_26 r_26_1 ?_
  refine s_iload_n (pc := 4) (i := 1) dX6_enter_4 rfl rfl ?_
  refine m_ia (pc := 5) dX6_enter_5 a_28 (vp_in_nI (n := s) (by omega) (by decide)) ?_
  refine m_nm (v' := nI v) (rdI (j := s) (e2) (by omega)) ?_
  refine s_ifeq (pc := 6) (tgt := 18) dX6_enter_6 rfl (fun h6 => ?_) (fun h6 => ?_)
  · have h6 : v = 0 := (nI_eq (a := v) (b := 0) (by omega) (by omega)).mp h6
    refine s_aload_n (pc := 18) (i := 0) dX6_enter_18 rfl rfl ?_
    refine m_gr (pc := 19) dX6_enter_19 ff_X6_18 rfl o_26 r_26_2 ?_
    refine s_iload_n (pc := 22) (i := 1) dX6_enter_22 rfl rfl ?_
    refine m_ia (pc := 23) dX6_enter_23 a_29 (vp_in_nI (n := s) (by omega) (by decide)) ?_
    refine m_nm (v' := nI e) (rdI (j := s) (e3) (by omega)) ?_
    refine m_ic (pc := 24) (v := 1) dX6_enter_24 rfl ?_
    refine s_iadd (pc := 25) dX6_enter_25 ?_
    refine m_nm (v' := nI (e + 1)) (nI_add e 1) ?_
    refine s_ireturn (pc := 26) dX6_enter_26 rfl rfl ?_
    exact h0 h6
  · have h6 : ¬ v = 0 := fun z => h6 ((nI_eq (a := v) (b := 0) (by omega) (by omega)).mpr z)
    refine s_aload_n (pc := 9) (i := 0) dX6_enter_9 rfl rfl ?_
    refine m_gi (pc := 10) dX6_enter_10 ff_X6_32 rfl o_26 ?_
    refine m_nm (v' := nI o) (h5) ?_
    refine m_bi (pc := 13) (v := 6) dX6_enter_13 rfl ?_
    refine s_iclt (pc := 15) (tgt := 27) dX6_enter_15 rfl (fun h15 => ?_) (fun h15 => absurd (nI_lt (a := o) (b := 6) (by omega) (by omega)) h15)
    refine s_aload_n (pc := 27) (i := 0) dX6_enter_27 rfl rfl ?_
    refine m_gr (pc := 28) dX6_enter_28 ff_X6_21 rfl o_26 r_26_3 ?_
    refine s_aload_n (pc := 31) (i := 0) dX6_enter_31 rfl rfl ?_
    refine m_gi (pc := 32) dX6_enter_32 ff_X6_32 rfl o_26 ?_
    refine m_nm (v' := nI o) (h5) ?_
    refine s_aload_n (pc := 35) (i := 0) dX6_enter_35 rfl rfl ?_
    refine m_gr (pc := 36) dX6_enter_36 ff_X6_15 rfl o_26 r_26_1 ?_
    refine s_iload_n (pc := 39) (i := 1) dX6_enter_39 rfl rfl ?_
    refine m_ia (pc := 40) dX6_enter_40 a_28 (vp_in_nI (n := s) (by omega) (by decide)) ?_
    refine m_nm (v' := nI v) (rdI (j := s) (e2) (by omega)) ?_
    refine m_ic (pc := 41) (v := 1) dX6_enter_41 rfl ?_
    refine s_isub (pc := 42) dX6_enter_42 ?_
    refine m_nm (v' := nI (v - 1)) ((show nI v - nI 1 = _ from pk_sub (by omega))) ?_
    refine m_is (pc := 43) dX6_enter_43 a_30 (vp_in_nI (n := o) (by omega) (by decide)) ?_
    rw [nI_clamp (n := o) (by omega)]
    refine s_aload_n (pc := 44) (i := 0) dX6_enter_44 rfl rfl ?_
    refine s_dup (pc := 45) dX6_enter_45 rfl ?_
    refine m_gi (pc := 46) dX6_enter_46 ff_X6_32 rfl o_26 ?_
    refine m_nm (v' := nI o) (by rw [up_a (by decide)]; exact h5) ?_
    refine m_ic (pc := 49) (v := 1) dX6_enter_49 rfl ?_
    refine s_iadd (pc := 50) dX6_enter_50 ?_
    refine m_nm (v' := nI (o + 1)) (nI_add o 1) ?_
    refine m_pi (pc := 51) dX6_enter_51 ff_X6_32 rfl rfl o_26 ?_
    refine s_iload_n (pc := 54) (i := 1) dX6_enter_54 rfl rfl ?_
    refine m_ic (pc := 55) (v := 1) dX6_enter_55 rfl ?_
    refine s_iadd (pc := 56) dX6_enter_56 ?_
    refine m_nm (v' := nI (s + 1)) (nI_add s 1) ?_
    refine s_ireturn (pc := 57) dX6_enter_57 rfl rfl ?_
    exact h1 h6
theorem max_o (o : Nat) (h : o < 2 ^ 31) : (if (0 : Int32) < nI o then nI o else 0) = nI o := by
  by_cases e : o = 0
  · subst e; decide
  · rw [if_pos (show (0 : Int32) < nI o from by rw [show (0 : Int32) = nI 0 from rfl]; exact nI_lt (by omega) h)]
theorem c_X6_turn {hd r : Nat} (e2 : I 28 s = nI hd) (hs : s < 150) {o : Nat} (h5 : I 26 5 = nI (o + 1)) (ho : o < 6) (h30 : I 30 o = nI r) (hr : r ≤ 40) (h0 : r = 0 → Q (.inl (some (.int (nI (s + 1))))) (Z (up I 26 5 (nI o)) J n w)) (h1 : ∀ q, r = q + 1 → Q (.inl (some (.int (nI (hd + 1))))) (Z (up I 30 o (nI q)) J n w)) : Cn g (d + 1) mX6_turn [.ref 26, .int (nI s)] (Z I J n w) Q := by
  show Rn g (d + 1) mX6_turn 0 [.ref 26, .int (nI s)] [] [] (Z I J n w) Q
  refine s_aload_n (pc := 0) (i := 0) dX6_turn_0 rfl rfl ?_
  refine m_gi (pc := 1) dX6_turn_1 ff_X6_32 rfl o_26 ?_
  refine m_nm (v' := nI (o + 1)) (h5) ?_
  refine s_ifle (pc := 4) (tgt := 45) dX6_turn_4 rfl (fun h4 => absurd h4 (nI_ge (a := 0) (b := o + 1) (by omega) (by omega))) (fun h4 => ?_)
  refine s_aload_n (pc := 7) (i := 0) dX6_turn_7 rfl rfl ?_
  refine m_gr (pc := 8) dX6_turn_8 ff_X6_21 rfl o_26 r_26_3 ?_
  refine s_aload_n (pc := 11) (i := 0) dX6_turn_11 rfl rfl ?_
  refine m_gi (pc := 12) dX6_turn_12 ff_X6_32 rfl o_26 ?_
  refine m_nm (v' := nI (o + 1)) (h5) ?_
  refine m_ic (pc := 15) (v := 1) dX6_turn_15 rfl ?_
  refine s_isub (pc := 16) dX6_turn_16 ?_
  refine m_nm (v' := nI o) (nI_pred o) ?_
  refine m_ia (pc := 17) dX6_turn_17 a_30 (vp_in_nI (n := o) (by omega) (by decide)) ?_
  refine m_nm (v' := nI r) (rdI (j := o) (h30) (by omega)) ?_
  refine s_ifle (pc := 18) (tgt := 45) dX6_turn_18 rfl (fun h18 => ?_) (fun h18 => ?_)
  · have h18 : r ≤ 0 := (nI_leI (a := r) (b := 0) (by omega) (by omega)).mp h18
    refine s_aload_n (pc := 45) (i := 0) dX6_turn_45 rfl rfl ?_
    refine m_ic (pc := 46) (v := 0) dX6_turn_46 rfl ?_
    refine s_aload_n (pc := 47) (i := 0) dX6_turn_47 rfl rfl ?_
    refine m_gi (pc := 48) dX6_turn_48 ff_X6_32 rfl o_26 ?_
    refine m_nm (v' := nI (o + 1)) (h5) ?_
    refine m_ic (pc := 51) (v := 1) dX6_turn_51 rfl ?_
    refine s_isub (pc := 52) dX6_turn_52 ?_
    refine m_nm (v' := nI o) (nI_pred o) ?_
    refine m_max (pc := 53) dX6_turn_53 ml_X6_50 (Nat.le_of_ble_eq_true rfl) ?_
    refine m_nm (v' := nI o) (max_o o (by omega)) ?_
    refine m_pi (pc := 56) dX6_turn_56 ff_X6_32 rfl rfl o_26 ?_
    refine s_iload_n (pc := 59) (i := 1) dX6_turn_59 rfl rfl ?_
    refine m_ic (pc := 60) (v := 1) dX6_turn_60 rfl ?_
    refine s_iadd (pc := 61) dX6_turn_61 ?_
    refine m_nm (v' := nI (s + 1)) (nI_add s 1) ?_
    refine s_ireturn (pc := 62) dX6_turn_62 rfl rfl ?_
    exact h0 (by omega)
  · have h18 : ¬ r ≤ 0 := fun z => h18 ((nI_leI (a := r) (b := 0) (by omega) (by omega)).mpr z)
    refine s_aload_n (pc := 21) (i := 0) dX6_turn_21 rfl rfl ?_
    refine m_gr (pc := 22) dX6_turn_22 ff_X6_21 rfl o_26 r_26_3 ?_
    refine s_aload_n (pc := 25) (i := 0) dX6_turn_25 rfl rfl ?_
    refine m_gi (pc := 26) dX6_turn_26 ff_X6_32 rfl o_26 ?_
    refine m_nm (v' := nI (o + 1)) (h5) ?_
    refine m_ic (pc := 29) (v := 1) dX6_turn_29 rfl ?_
    refine s_isub (pc := 30) dX6_turn_30 ?_
    refine m_nm (v' := nI o) (nI_pred o) ?_
    refine s_dup2 (pc := 31) dX6_turn_31 rfl rfl ?_
    refine m_ia (pc := 32) dX6_turn_32 a_30 (vp_in_nI (n := o) (by omega) (by decide)) ?_
    refine m_nm (v' := nI r) (rdI (j := o) (h30) (by omega)) ?_
    refine m_ic (pc := 33) (v := 1) dX6_turn_33 rfl ?_
    refine s_isub (pc := 34) dX6_turn_34 ?_
    refine m_nm (v' := nI (r - 1)) ((show nI r - nI 1 = _ from pk_sub (by omega))) ?_
    refine m_is (pc := 35) dX6_turn_35 a_30 (vp_in_nI (n := o) (by omega) (by decide)) ?_
    rw [nI_clamp (n := o) (by omega)]
    refine s_aload_n (pc := 36) (i := 0) dX6_turn_36 rfl rfl ?_
    refine m_gr (pc := 37) dX6_turn_37 ff_X6_15 rfl o_26 r_26_1 ?_
    refine s_iload_n (pc := 40) (i := 1) dX6_turn_40 rfl rfl ?_
    refine m_ia (pc := 41) dX6_turn_41 a_28 (vp_in_nI (n := s) (by omega) (by decide)) ?_
    refine m_nm (v' := nI hd) (rdI (j := s) (by rw [up_a (by decide)]; exact e2) (by omega)) ?_
    refine m_ic (pc := 42) (v := 1) dX6_turn_42 rfl ?_
    refine s_iadd (pc := 43) dX6_turn_43 ?_
    refine m_nm (v' := nI (hd + 1)) (nI_add hd 1) ?_
    refine s_ireturn (pc := 44) dX6_turn_44 rfl rfl ?_
    exact h1 (r - 1) (by omega)
/-- what carrying out may change -/
def fK (I I' : Nat → Nat → Int32) : Prop := ∀ x j, (x ≠ 16 ∧ x ≠ 17 ∧ x ≠ 30 ∧ (x < 33 ∨ 39 < x) ∧ (x ≠ 26 ∨ j = 4)) → I' x j = I x j
theorem fK_r : fK I I := fun _ _ _ => rfl
theorem fK_t {I' I'' : Nat → Nat → Int32} (h : fK I I') (h2 : fK I' I'') : fK I I'' := fun x j a => (h2 x j a).trans (h x j a)
theorem fK_s {I' : Nat → Nat → Int32} (h : fS 33 I I') : fK I I' := fun x j a => h x j (by omega) (by omega) (by omega)
theorem fK_u {I' : Nat → Nat → Int32} {x k : Nat} {v : Int32} (h : fK I I') (hx : x = 30 ∨ (x = 26 ∧ k ≠ 4)) : fK I (up I' x k v) := fun y j a => by rw [up_n3 (by omega)]; exact h y j a
/-- the heap as the run has it: I0 the heap at its start, o how many are open -/
def CK (I0 I : Nat → Nat → Int32) (D : cD) (cs : List Nat) (X : xD) (o : Nat) : Prop := fK I0 I ∧ Wc I 33 D cs X.1 ∧ I 26 5 = nI o ∧ I 26 6 = nI X.2.2.2 ∧ xOk D X
theorem Wc_o {I' : Nat → Nat → Int32} {o : Nat} (h : Wc I 33 D cs S) (hf : ∀ x j, (x ≠ 26 ∧ x ≠ 30) → I' x j = I x j) (_ : o = o) : Wc I' 33 D cs S := ⟨Co_fr h.1 (fun x j _ _ => hf x j (by omega)), h.2.1, Lw_fr h.2.2.1 (fun x j _ _ => hf x j (by omega)), h.2.2.2.1, Sc_fr h.2.2.2.2.1 (fun x j _ _ => hf x j (by omega)), h.2.2.2.2.2⟩
abbrev lK (X : xD) (at_ m : Nat) : List Value := [.ref 26, .ref 31, .ref 33, .int (nI X.2.1), .int (nI X.2.2.1), .int (nI at_), .int (nI m)]
/-- a row of steps at s, from the loop's head: it comes to the head behind them, or breaks off -/
def cXs (g : aG) (dd : Nat) (J : Nat → Nat → Int64) (n w : Nat) (D : cD) (cs : List Nat) (I0 : Nat → Nat → Int32) (Q : aO → aS → Prop) (sz o : Nat) (len : Nat) (run : xD → xD) (s : Nat) : Prop := ∀ I X m c, CK I0 I D cs X o → m + c ≤ 41 * X.2.1 → s + len ≤ sz →
  (∀ I' m', CK I0 I' D cs (run X) o → (∀ j, j < o → I' 30 j = I 30 j) → m' + c ≤ 41 * (run X).2.1 → Rn g dd mX6_carryOut 21 (lK (run X) (s + len) m') [] [] (Z I' J n w) Q) →
  (∀ I' at_ m', 200 ≤ (run X).2.1 → (∃ o', CK I0 I' D cs (run X) o') → Rn g dd mX6_carryOut 131 (lK (run X) at_ m') [] [] (Z I' J n w) Q) →
  Rn g dd mX6_carryOut 21 (lK X s m) [] [] (Z I J n w) Q
theorem nI_lit (a b : Nat) : nI a + nI b = nI (a + b) := nI_add a b
theorem ct_m {m : Nat} (h : m < 1000000) : ¬ (1000000 : Int32) ≤ nI m := nI_ge (a := m) (b := 1000000) h (by decide)
theorem co_end {I0 : Nat → Nat → Int32} {X : xD} {sz o m e hd r : Nat} (hC : CK I0 I D cs X (o + 1)) (hsz : I 26 4 = nI sz) (hz : sz ≤ 150) (he : e < sz) (ek : I 27 e = 6) (ef : I 28 e = nI hd) (ho : o < 6) (h30 : I 30 o = nI r) (hr : r ≤ 40) (hm : m < 1000000)
  (h0 : r = 0 → Rn g (d + 6) mX6_carryOut 21 (lK X (e + 1) (m + 1)) [] [] (Z (up I 26 5 (nI o)) J n w) Q) (h1 : ∀ q, r = q + 1 → Rn g (d + 6) mX6_carryOut 21 (lK X (hd + 1) (m + 1)) [] [] (Z (up I 30 o (nI q)) J n w) Q) : Rn g (d + 6) mX6_carryOut 21 (lK X e m) [] [] (Z I J n w) Q := by
  refine s_iload (pc := 21) (i := 6) dX6_carryOut_21 rfl ?_
  refine s_ldc (pc := 23) dX6_carryOut_23 ct_X6_38 ?_
  refine s_icge (pc := 25) (tgt := 131) dX6_carryOut_25 rfl (fun h25 => absurd h25 (ct_m hm)) (fun h25 => ?_)
  refine s_iload (pc := 28) (i := 5) dX6_carryOut_28 rfl ?_
  refine s_aload_n (pc := 30) (i := 0) dX6_carryOut_30 rfl rfl ?_
  refine m_gi (pc := 31) dX6_carryOut_31 ff_X6_24 rfl o_26 ?_
  refine m_nm (v' := nI sz) (hsz) ?_
  refine s_icge (pc := 34) (tgt := 131) dX6_carryOut_34 rfl (fun h34 => absurd h34 (nI_ge (a := e) (b := sz) (by omega) (by omega))) (fun h34 => ?_)
  refine s_aload_n (pc := 37) (i := 0) dX6_carryOut_37 rfl rfl ?_
  refine m_gr (pc := 38) dX6_carryOut_38 ff_X6_9 rfl o_26 r_26_0 ?_
  refine s_iload (pc := 41) (i := 5) dX6_carryOut_41 rfl ?_
  refine m_ia (pc := 43) dX6_carryOut_43 a_27 (vp_in_nI (n := e) (by omega) (by decide)) ?_
  refine m_nm (v' := 6) (rdI (j := e) (ek) (by omega)) ?_
  refine m_bi (pc := 44) (v := 6) dX6_carryOut_44 rfl ?_
  refine s_icne (pc := 46) (tgt := 60) dX6_carryOut_46 rfl (fun h46 => absurd h46 (by decide)) (fun h46 => ?_)
  refine s_aload_n (pc := 49) (i := 0) dX6_carryOut_49 rfl rfl ?_
  refine s_iload (pc := 50) (i := 5) dX6_carryOut_50 rfl ?_
  refine m_v1 (pc := 52) dX6_carryOut_52 lk_X6_39 ok_X6_turn (rcO o_26 (by decide) rfl) rfl rfl (c_X6_turn ef (by omega) hC.2.2.1 ho h30 hr (fun z => kt_s ?_) (fun q z => kt_s ?_))
  · refine s_istore (pc := 55) (i := 5) dX6_carryOut_55 (Nat.le_of_ble_eq_true rfl) ?_
    dsimp only [List.set, List.filter]
    refine s_goto (pc := 57) (tgt := 125) dX6_carryOut_57 rfl ?_
    refine m_inc (pc := 125) (v := 1) dX6_carryOut_125 rfl rfl ?_
    dsimp only [List.set, List.filter]
    rw [nI_1]
    refine s_goto (pc := 128) (tgt := 21) dX6_carryOut_128 rfl ?_
    exact h0 z
  · refine s_istore (pc := 55) (i := 5) dX6_carryOut_55 (Nat.le_of_ble_eq_true rfl) ?_
    dsimp only [List.set, List.filter]
    refine s_goto (pc := 57) (tgt := 125) dX6_carryOut_57 rfl ?_
    refine m_inc (pc := 125) (v := 1) dX6_carryOut_125 rfl rfl ?_
    dsimp only [List.set, List.filter]
    rw [nI_1]
    refine s_goto (pc := 128) (tgt := 21) dX6_carryOut_128 rfl ?_
    exact h1 q z
end S
