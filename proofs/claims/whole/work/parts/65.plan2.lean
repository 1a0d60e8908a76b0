section S
variable {g : aG} {d : Nat} {I : Nat → Nat → Int32} {J : Nat → Nat → Int64} {n w : Nat} {Q : aO → aS → Prop}
variable {t : Nat → Nat} {N a wf wt s : Nat} {fk fp : Int32} {σ : aS} {D : cD} {β : Type}
theorem c_step0 {ln : β → Nat} {sp : (Nat → Nat → Int32) → β → Nat → Prop} {R : Nat → eT β} : cSt g 5 t N D ln sp (stR t N (cb D) (cc D) false R) (nI 6) := by
  intro d I J n w Q a wf wt fk fp s hx ha hN hD hk hs hs2 hb hg
  have hc7 := hk.1
  have hc12 := hk.2.1
  have hw1 := wE_ge (t := t) (N := N) (a := a)
  have hw2 := wE_le (t := t) ha
  have hp2 := sk_ge (t := t) (N := N) (a := wE t N a)
  have hp := sk_le (t := t) hw2
  show Rn g (d + 5) mX6_readStep 0 [.ref 26, .ref 2, .ref 4, .int (nI 6)] [] [] (Z (tp I a wf wt fk fp) J n w) Q
  refine s_aload_n (pc := 0) (i := 1) dX6_readStep_0 rfl rfl ?_
  refine m_v0 (pc := 1) dX6_readStep_1 lk_X6_96 ok_X10_takeWord (rcO o_2 (by decide) rfl) rfl rfl (c_X10_takeWord hx ha (kt_v ?_))
  refine s_aload_n (pc := 4) (i := 1) dX6_readStep_4 rfl rfl ?_
  refine s_ldcS (pc := 5) (j := 13) dX6_readStep_5 sr_X6_99 rfl ?_
  refine m_v1 (pc := 7) dX6_readStep_7 lk_X6_100 ok_X10_isWord (rcO o_2 (by decide) rfl) rfl rfl (c_X10_isWord (j := 13) hx (by decide) hw1 hw2 (fun q => kt_s ?_) (fun q => kt_s ?_))
  · have b13 := wB_m.mpr q
    refine s_ifeq (pc := 10) (tgt := 32) dX6_readStep_10 rfl (fun h10 => absurd h10 (by decide)) (fun h10 => ?_)
    refine s_aload_n (pc := 13) (i := 0) dX6_readStep_13 rfl rfl ?_
    refine s_aload_n (pc := 14) (i := 1) dX6_readStep_14 rfl rfl ?_
    refine m_ic (pc := 15) (v := 0) dX6_readStep_15 rfl ?_
    refine s_aload_n (pc := 16) (i := 2) dX6_readStep_16 rfl rfl ?_
    refine m_gi (pc := 17) dX6_readStep_17 ff_X6_104 rfl o_4 ?_
    refine m_nm (v' := nI (cb D)) (by rw [tp_o (by decide)]; exact hD.1) ?_
    refine m_ic (pc := 20) (v := 1) dX6_readStep_20 rfl ?_
    refine s_isub (pc := 21) dX6_readStep_21 ?_
    refine s_aload_n (pc := 22) (i := 2) dX6_readStep_22 rfl rfl ?_
    refine m_gi (pc := 23) dX6_readStep_23 ff_X6_109 rfl o_4 ?_
    refine m_nm (v' := nI (cc D)) (by rw [tp_o (by decide)]; exact hD.2.1) ?_
    refine m_ic (pc := 26) (v := 1) dX6_readStep_26 rfl ?_
    refine s_isub (pc := 27) dX6_readStep_27 ?_
    refine m_v4 (pc := 28) dX6_readStep_28 lk_X6_112 ok_X6_readNumbers (rcO o_26 (by decide) rfl) rfl rfl (c_X6_readNumbers (h1 := cb D) (h2 := cc D) hx hp hs (by omega) rfl rfl (by omega) (by omega) (fun e a1 q1 => kt_s ?_) (fun v z u p1 I1 q1 q2 v1 f1 x1 f2 w1 w2 w3 w4 => kt_s ?_))
    · have E : stR t N (cb D) (cc D) false R a = .inl e := by
        unfold stR; rw [if_pos b13]; unfold num2
        rcases q1 with q1 | ⟨v, z, q1, q2⟩
        · rw [q1]
        · rw [q1]; simp only []; rw [q2]
      refine s_ireturn (pc := 31) dX6_readStep_31 rfl rfl ?_
      exact hb e a1 _ _ I E fC_r
    · refine s_ireturn (pc := 31) dX6_readStep_31 rfl rfl ?_
      exact hg p1 (.inl (0, v, u)) I1 _ _ (by unfold stR; rw [if_pos b13]; unfold num2; rw [q1]; simp only []; rw [q2]) f1 f2 w1 ⟨w2, w3, w4, trivial⟩
  · have b13 := wB_f.mpr q
    refine s_ifeq (pc := 10) (tgt := 32) dX6_readStep_10 rfl (fun h10 => ?_) (fun h10 => absurd h10 (by decide))
    refine s_aload_n (pc := 32) (i := 1) dX6_readStep_32 rfl rfl ?_
    refine s_ldcS (pc := 33) (j := 14) dX6_readStep_33 sr_X6_116 rfl ?_
    refine m_v1 (pc := 35) dX6_readStep_35 lk_X6_100 ok_X10_isWord (rcO o_2 (by decide) rfl) rfl rfl (c_X10_isWord (j := 14) hx (by decide) hw1 hw2 (fun q => kt_s ?_) (fun q => kt_s ?_))
    · have b14 := wB_m.mpr q
      refine s_ifeq (pc := 38) (tgt := 60) dX6_readStep_38 rfl (fun h38 => absurd h38 (by decide)) (fun h38 => ?_)
      refine s_aload_n (pc := 41) (i := 0) dX6_readStep_41 rfl rfl ?_
      refine s_aload_n (pc := 42) (i := 1) dX6_readStep_42 rfl rfl ?_
      refine m_ic (pc := 43) (v := 1) dX6_readStep_43 rfl ?_
      refine s_aload_n (pc := 44) (i := 2) dX6_readStep_44 rfl rfl ?_
      refine m_gi (pc := 45) dX6_readStep_45 ff_X6_104 rfl o_4 ?_
      refine m_nm (v' := nI (cb D)) (by rw [tp_o (by decide)]; exact hD.1) ?_
      refine m_ic (pc := 48) (v := 1) dX6_readStep_48 rfl ?_
      refine s_isub (pc := 49) dX6_readStep_49 ?_
      refine s_aload_n (pc := 50) (i := 2) dX6_readStep_50 rfl rfl ?_
      refine m_gi (pc := 51) dX6_readStep_51 ff_X6_104 rfl o_4 ?_
      refine m_nm (v' := nI (cb D)) (by rw [tp_o (by decide)]; exact hD.1) ?_
      refine m_ic (pc := 54) (v := 1) dX6_readStep_54 rfl ?_
      refine s_isub (pc := 55) dX6_readStep_55 ?_
      refine m_v4 (pc := 56) dX6_readStep_56 lk_X6_112 ok_X6_readNumbers (rcO o_26 (by decide) rfl) rfl rfl (c_X6_readNumbers (h1 := cb D) (h2 := cb D) hx hp hs (by omega) rfl rfl (by omega) (by omega) (fun e a1 q1 => kt_s ?_) (fun v z u p1 I1 q1 q2 v1 f1 x1 f2 w1 w2 w3 w4 => kt_s ?_))
      · have E : stR t N (cb D) (cc D) false R a = .inl e := by
          unfold stR; rw [if_neg (by rw [b13]; decide), if_pos b14]; unfold num2
          rcases q1 with q1 | ⟨v, z, q1, q2⟩
          · rw [q1]
          · rw [q1]; simp only []; rw [q2]
        refine s_ireturn (pc := 59) dX6_readStep_59 rfl rfl ?_
        exact hb e a1 _ _ I E fC_r
      · refine s_ireturn (pc := 59) dX6_readStep_59 rfl rfl ?_
        exact hg p1 (.inl (1, v, u)) I1 _ _ (by unfold stR; rw [if_neg (by rw [b13]; decide), if_pos b14]; unfold num2; rw [q1]; simp only []; rw [q2]) f1 f2 w1 ⟨w2, w3, w4, trivial⟩
    · have b14 := wB_f.mpr q
      refine s_ifeq (pc := 38) (tgt := 60) dX6_readStep_38 rfl (fun h38 => ?_) (fun h38 => absurd h38 (by decide))
      refine s_aload_n (pc := 60) (i := 1) dX6_readStep_60 rfl rfl ?_
      refine s_ldcS (pc := 61) (j := 15) dX6_readStep_61 sr_X6_117 rfl ?_
      refine m_v1 (pc := 63) dX6_readStep_63 lk_X6_100 ok_X10_isWord (rcO o_2 (by decide) rfl) rfl rfl (c_X10_isWord (j := 15) hx (by decide) hw1 hw2 (fun q => kt_s ?_) (fun q => kt_s ?_))
      · have b15 := wB_m.mpr q
        refine s_ifeq (pc := 66) (tgt := 78) dX6_readStep_66 rfl (fun h66 => absurd h66 (by decide)) (fun h66 => ?_)
        refine s_aload_n (pc := 69) (i := 0) dX6_readStep_69 rfl rfl ?_
        refine s_aload_n (pc := 70) (i := 1) dX6_readStep_70 rfl rfl ?_
        refine m_ic (pc := 71) (v := 2) dX6_readStep_71 rfl ?_
        refine m_bi (pc := 72) (v := 40) dX6_readStep_72 rfl ?_
        refine m_v3 (pc := 74) dX6_readStep_74 lk_X6_118 ok_X6_readNumber (rcO o_26 (by decide) rfl) rfl rfl (c_X6_readNumber (h1 := 41) hx hp hs (by omega) rfl (by omega) (fun e a1 q1 => kt_s ?_) (fun v p1 I1 q1 v1 f1 x1 f2 w1 w2 w3 w4 => kt_s ?_))
        · refine s_ireturn (pc := 77) dX6_readStep_77 rfl rfl ?_
          exact hb e a1 _ _ I (by unfold stR; rw [if_neg (by rw [b13]; decide), if_neg (by rw [b14]; decide), if_pos b15]; unfold num1; rw [q1]) fC_r
        · refine s_ireturn (pc := 77) dX6_readStep_77 rfl rfl ?_
          exact hg p1 (.inl (2, v, 0)) I1 _ _ (by unfold stR; rw [if_neg (by rw [b13]; decide), if_neg (by rw [b14]; decide), if_pos b15]; unfold num1; rw [q1]) f1 f2 w1 ⟨w2, w3, w4, trivial⟩
      · have b15 := wB_f.mpr q
        refine s_ifeq (pc := 66) (tgt := 78) dX6_readStep_66 rfl (fun h66 => ?_) (fun h66 => absurd h66 (by decide))
        refine s_aload_n (pc := 78) (i := 1) dX6_readStep_78 rfl rfl ?_
        refine s_ldcS (pc := 79) (j := 16) dX6_readStep_79 sr_X6_122 rfl ?_
        refine m_v1 (pc := 81) dX6_readStep_81 lk_X6_100 ok_X10_isWord (rcO o_2 (by decide) rfl) rfl rfl (c_X10_isWord (j := 16) hx (by decide) hw1 hw2 (fun q => kt_s ?_) (fun q => kt_s ?_))
        · have b16 := wB_m.mpr q
          refine s_ifeq (pc := 84) (tgt := 100) dX6_readStep_84 rfl (fun h84 => absurd h84 (by decide)) (fun h84 => ?_)
          refine s_aload_n (pc := 87) (i := 0) dX6_readStep_87 rfl rfl ?_
          refine s_aload_n (pc := 88) (i := 1) dX6_readStep_88 rfl rfl ?_
          refine m_ic (pc := 89) (v := 3) dX6_readStep_89 rfl ?_
          refine s_aload_n (pc := 90) (i := 2) dX6_readStep_90 rfl rfl ?_
          refine m_gi (pc := 91) dX6_readStep_91 ff_X6_104 rfl o_4 ?_
          refine m_nm (v' := nI (cb D)) (by rw [tp_o (by decide)]; exact hD.1) ?_
          refine m_ic (pc := 94) (v := 1) dX6_readStep_94 rfl ?_
          refine s_isub (pc := 95) dX6_readStep_95 ?_
          refine m_v3 (pc := 96) dX6_readStep_96 lk_X6_118 ok_X6_readNumber (rcO o_26 (by decide) rfl) rfl rfl (c_X6_readNumber (h1 := cb D) hx hp hs (by omega) rfl (by omega) (fun e a1 q1 => kt_s ?_) (fun v p1 I1 q1 v1 f1 x1 f2 w1 w2 w3 w4 => kt_s ?_))
          · refine s_ireturn (pc := 99) dX6_readStep_99 rfl rfl ?_
            exact hb e a1 _ _ I (by unfold stR; rw [if_neg (by rw [b13]; decide), if_neg (by rw [b14]; decide), if_neg (by rw [b15]; decide), if_pos b16]; unfold num1; rw [q1]) fC_r
          · refine s_ireturn (pc := 99) dX6_readStep_99 rfl rfl ?_
            exact hg p1 (.inl (3, v, 0)) I1 _ _ (by unfold stR; rw [if_neg (by rw [b13]; decide), if_neg (by rw [b14]; decide), if_neg (by rw [b15]; decide), if_pos b16]; unfold num1; rw [q1]) f1 f2 w1 ⟨w2, w3, w4, trivial⟩
        · have b16 := wB_f.mpr q
          refine s_ifeq (pc := 84) (tgt := 100) dX6_readStep_84 rfl (fun h84 => ?_) (fun h84 => absurd h84 (by decide))
          refine s_aload_n (pc := 100) (i := 1) dX6_readStep_100 rfl rfl ?_
          refine s_ldcS (pc := 101) (j := 10) dX6_readStep_101 sr_X6_123 rfl ?_
          refine m_v1 (pc := 103) dX6_readStep_103 lk_X6_100 ok_X10_isWord (rcO o_2 (by decide) rfl) rfl rfl (c_X10_isWord (j := 10) hx (by decide) hw1 hw2 (fun q => kt_s ?_) (fun q => kt_s ?_))
          · have b10 := wB_m.mpr q
            refine s_ifeq (pc := 106) (tgt := 117) dX6_readStep_106 rfl (fun h106 => absurd h106 (by decide)) (fun h106 => ?_)
            refine s_aload_n (pc := 109) (i := 0) dX6_readStep_109 rfl rfl ?_
            refine m_ic (pc := 110) (v := 4) dX6_readStep_110 rfl ?_
            refine m_ic (pc := 111) (v := 0) dX6_readStep_111 rfl ?_
            refine m_ic (pc := 112) (v := 0) dX6_readStep_112 rfl ?_
            refine m_v3 (pc := 113) dX6_readStep_113 lk_X6_125 ok_X6_add (rcO o_26 (by decide) rfl) rfl rfl (c_X6_add hx hs (by omega) (fun I1 f1 x1 f2 w1 w2 w3 w4 => kt_s ?_))
            · refine s_ireturn (pc := 116) dX6_readStep_116 rfl rfl ?_
              exact hg _ (.inl (4, 0, 0)) I1 _ _ (by unfold stR; rw [if_neg (by rw [b13]; decide), if_neg (by rw [b14]; decide), if_neg (by rw [b15]; decide), if_neg (by rw [b16]; decide), if_pos b10]) f1 f2 w1 ⟨w2, w3, w4, trivial⟩
          · have b10 := wB_f.mpr q
            refine s_ifeq (pc := 106) (tgt := 117) dX6_readStep_106 rfl (fun h106 => ?_) (fun h106 => absurd h106 (by decide))
            refine s_aload_n (pc := 117) (i := 1) dX6_readStep_117 rfl rfl ?_
            refine s_ldcS (pc := 118) (j := 17) dX6_readStep_118 sr_X6_129 rfl ?_
            refine m_v1 (pc := 120) dX6_readStep_120 lk_X6_100 ok_X10_isWord (rcO o_2 (by decide) rfl) rfl rfl (c_X10_isWord (j := 17) hx (by decide) hw1 hw2 (fun q => kt_s ?_) (fun q => kt_s ?_))
            · have b17 := wB_m.mpr q
              refine s_ifeq (pc := 123) (tgt := 136) dX6_readStep_123 rfl (fun h123 => absurd h123 (by decide)) (fun h123 => ?_)
              refine s_aload_n (pc := 126) (i := 0) dX6_readStep_126 rfl rfl ?_
              refine s_aload_n (pc := 127) (i := 1) dX6_readStep_127 rfl rfl ?_
              refine s_aload_n (pc := 128) (i := 2) dX6_readStep_128 rfl rfl ?_
              refine s_iload_n (pc := 129) (i := 3) dX6_readStep_129 rfl rfl ?_
              refine m_v3 (pc := 130) dX6_readStep_130 lk_X6_131 ok_X6_readAgain (rcO o_26 (by decide) rfl) rfl rfl (c_again6 (kt_s ?_))
              · refine s_goto (pc := 133) (tgt := 141) dX6_readStep_133 rfl ?_
                refine s_ireturn (pc := 141) dX6_readStep_141 rfl rfl ?_
                exact hb (3, a) _ _ _ I (by unfold stR; rw [if_neg (by rw [b13]; decide), if_neg (by rw [b14]; decide), if_neg (by rw [b15]; decide), if_neg (by rw [b16]; decide), if_neg (by rw [b10]; decide), if_pos b17]; rw [if_neg (by decide)]) fC_r
            · have b17 := wB_f.mpr q
              refine s_ifeq (pc := 123) (tgt := 136) dX6_readStep_123 rfl (fun h123 => ?_) (fun h123 => absurd h123 (by decide))
              refine s_aload_n (pc := 136) (i := 1) dX6_readStep_136 rfl rfl ?_
              refine m_ic (pc := 137) (v := 1) dX6_readStep_137 rfl ?_
              refine m_v1 (pc := 138) dX6_readStep_138 lk_X6_134 ok_X10_failWord (rcO o_2 (by decide) rfl) rfl rfl (c_X10_failWord (kt_s ?_))
              · refine s_ireturn (pc := 141) dX6_readStep_141 rfl rfl ?_
                exact hb (1, a) _ _ _ I (by unfold stR; rw [if_neg (by rw [b13]; decide), if_neg (by rw [b14]; decide), if_neg (by rw [b15]; decide), if_neg (by rw [b16]; decide), if_neg (by rw [b10]; decide), if_neg (by rw [b17]; decide)]) fC_r
theorem c_stepk {k dp : Nat} {ln : β → Nat} {mn : β → Nat} {sp : (Nat → Nat → Int32) → β → Nat → Prop} {R : Nat → eT (List (iT β))} (hS : cSs g (k + 6) t N D ln sp R (nI (dp + 1))) (hG : gT N (mln mn) R) (hln : ∀ x, ln x ≤ 2 * mn x) (hF : pF sp ln) (hd : dp < 6) : cSt g (k + 8) t N D (cln ln) (PcL sp ln) (stR t N (cb D) (cc D) true R) (nI dp) := by
  intro d I J n w Q a wf wt fk fp s hx ha hN hD hk hs hs2 hb hg
  have hc7 := hk.1
  have hc12 := hk.2.1
  have hw1 := wE_ge (t := t) (N := N) (a := a)
  have hw2 := wE_le (t := t) ha
  have hp2 := sk_ge (t := t) (N := N) (a := wE t N a)
  have hp := sk_le (t := t) hw2
  show Rn g (d + (k + 8)) mX6_readStep 0 [.ref 26, .ref 2, .ref 4, .int (nI dp)] [] [] (Z (tp I a wf wt fk fp) J n w) Q
  refine s_aload_n (pc := 0) (i := 1) dX6_readStep_0 rfl rfl ?_
  refine m_v0 (pc := 1) dX6_readStep_1 lk_X6_96 ok_X10_takeWord (rcO o_2 (by decide) rfl) rfl rfl (c_X10_takeWord hx ha (kt_v ?_))
  refine s_aload_n (pc := 4) (i := 1) dX6_readStep_4 rfl rfl ?_
  refine s_ldcS (pc := 5) (j := 13) dX6_readStep_5 sr_X6_99 rfl ?_
  refine m_v1 (pc := 7) dX6_readStep_7 lk_X6_100 ok_X10_isWord (rcO o_2 (by decide) rfl) rfl rfl (c_X10_isWord (j := 13) hx (by decide) hw1 hw2 (fun q => kt_s ?_) (fun q => kt_s ?_))
  · have b13 := wB_m.mpr q
    refine s_ifeq (pc := 10) (tgt := 32) dX6_readStep_10 rfl (fun h10 => absurd h10 (by decide)) (fun h10 => ?_)
    refine s_aload_n (pc := 13) (i := 0) dX6_readStep_13 rfl rfl ?_
    refine s_aload_n (pc := 14) (i := 1) dX6_readStep_14 rfl rfl ?_
    refine m_ic (pc := 15) (v := 0) dX6_readStep_15 rfl ?_
    refine s_aload_n (pc := 16) (i := 2) dX6_readStep_16 rfl rfl ?_
    refine m_gi (pc := 17) dX6_readStep_17 ff_X6_104 rfl o_4 ?_
    refine m_nm (v' := nI (cb D)) (by rw [tp_o (by decide)]; exact hD.1) ?_
    refine m_ic (pc := 20) (v := 1) dX6_readStep_20 rfl ?_
    refine s_isub (pc := 21) dX6_readStep_21 ?_
    refine s_aload_n (pc := 22) (i := 2) dX6_readStep_22 rfl rfl ?_
    refine m_gi (pc := 23) dX6_readStep_23 ff_X6_109 rfl o_4 ?_
    refine m_nm (v' := nI (cc D)) (by rw [tp_o (by decide)]; exact hD.2.1) ?_
    refine m_ic (pc := 26) (v := 1) dX6_readStep_26 rfl ?_
    refine s_isub (pc := 27) dX6_readStep_27 ?_
    refine m_v4 (pc := 28) dX6_readStep_28 lk_X6_112 ok_X6_readNumbers (rcO o_26 (by decide) rfl) rfl rfl (c_X6_readNumbers (h1 := cb D) (h2 := cc D) hx hp hs (by omega) rfl rfl (by omega) (by omega) (fun e a1 q1 => kt_s ?_) (fun v z u p1 I1 q1 q2 v1 f1 x1 f2 w1 w2 w3 w4 => kt_s ?_))
    · have E : stR t N (cb D) (cc D) true R a = .inl e := by
        unfold stR; rw [if_pos b13]; unfold num2
        rcases q1 with q1 | ⟨v, z, q1, q2⟩
        · rw [q1]
        · rw [q1]; simp only []; rw [q2]
      refine s_ireturn (pc := 31) dX6_readStep_31 rfl rfl ?_
      exact hb e a1 _ _ I E fC_r
    · refine s_ireturn (pc := 31) dX6_readStep_31 rfl rfl ?_
      exact hg p1 (.inl (0, v, u)) I1 _ _ (by unfold stR; rw [if_pos b13]; unfold num2; rw [q1]; simp only []; rw [q2]) f1 f2 w1 ⟨w2, w3, w4, trivial⟩
  · have b13 := wB_f.mpr q
    refine s_ifeq (pc := 10) (tgt := 32) dX6_readStep_10 rfl (fun h10 => ?_) (fun h10 => absurd h10 (by decide))
    refine s_aload_n (pc := 32) (i := 1) dX6_readStep_32 rfl rfl ?_
    refine s_ldcS (pc := 33) (j := 14) dX6_readStep_33 sr_X6_116 rfl ?_
    refine m_v1 (pc := 35) dX6_readStep_35 lk_X6_100 ok_X10_isWord (rcO o_2 (by decide) rfl) rfl rfl (c_X10_isWord (j := 14) hx (by decide) hw1 hw2 (fun q => kt_s ?_) (fun q => kt_s ?_))
    · have b14 := wB_m.mpr q
      refine s_ifeq (pc := 38) (tgt := 60) dX6_readStep_38 rfl (fun h38 => absurd h38 (by decide)) (fun h38 => ?_)
      refine s_aload_n (pc := 41) (i := 0) dX6_readStep_41 rfl rfl ?_
      refine s_aload_n (pc := 42) (i := 1) dX6_readStep_42 rfl rfl ?_
      refine m_ic (pc := 43) (v := 1) dX6_readStep_43 rfl ?_
      refine s_aload_n (pc := 44) (i := 2) dX6_readStep_44 rfl rfl ?_
      refine m_gi (pc := 45) dX6_readStep_45 ff_X6_104 rfl o_4 ?_
      refine m_nm (v' := nI (cb D)) (by rw [tp_o (by decide)]; exact hD.1) ?_
      refine m_ic (pc := 48) (v := 1) dX6_readStep_48 rfl ?_
      refine s_isub (pc := 49) dX6_readStep_49 ?_
      refine s_aload_n (pc := 50) (i := 2) dX6_readStep_50 rfl rfl ?_
      refine m_gi (pc := 51) dX6_readStep_51 ff_X6_104 rfl o_4 ?_
      refine m_nm (v' := nI (cb D)) (by rw [tp_o (by decide)]; exact hD.1) ?_
      refine m_ic (pc := 54) (v := 1) dX6_readStep_54 rfl ?_
      refine s_isub (pc := 55) dX6_readStep_55 ?_
      refine m_v4 (pc := 56) dX6_readStep_56 lk_X6_112 ok_X6_readNumbers (rcO o_26 (by decide) rfl) rfl rfl (c_X6_readNumbers (h1 := cb D) (h2 := cb D) hx hp hs (by omega) rfl rfl (by omega) (by omega) (fun e a1 q1 => kt_s ?_) (fun v z u p1 I1 q1 q2 v1 f1 x1 f2 w1 w2 w3 w4 => kt_s ?_))
      · have E : stR t N (cb D) (cc D) true R a = .inl e := by
          unfold stR; rw [if_neg (by rw [b13]; decide), if_pos b14]; unfold num2
          rcases q1 with q1 | ⟨v, z, q1, q2⟩
          · rw [q1]
          · rw [q1]; simp only []; rw [q2]
        refine s_ireturn (pc := 59) dX6_readStep_59 rfl rfl ?_
        exact hb e a1 _ _ I E fC_r
      · refine s_ireturn (pc := 59) dX6_readStep_59 rfl rfl ?_
        exact hg p1 (.inl (1, v, u)) I1 _ _ (by unfold stR; rw [if_neg (by rw [b13]; decide), if_pos b14]; unfold num2; rw [q1]; simp only []; rw [q2]) f1 f2 w1 ⟨w2, w3, w4, trivial⟩
    · have b14 := wB_f.mpr q
      refine s_ifeq (pc := 38) (tgt := 60) dX6_readStep_38 rfl (fun h38 => ?_) (fun h38 => absurd h38 (by decide))
      refine s_aload_n (pc := 60) (i := 1) dX6_readStep_60 rfl rfl ?_
      refine s_ldcS (pc := 61) (j := 15) dX6_readStep_61 sr_X6_117 rfl ?_
      refine m_v1 (pc := 63) dX6_readStep_63 lk_X6_100 ok_X10_isWord (rcO o_2 (by decide) rfl) rfl rfl (c_X10_isWord (j := 15) hx (by decide) hw1 hw2 (fun q => kt_s ?_) (fun q => kt_s ?_))
      · have b15 := wB_m.mpr q
        refine s_ifeq (pc := 66) (tgt := 78) dX6_readStep_66 rfl (fun h66 => absurd h66 (by decide)) (fun h66 => ?_)
        refine s_aload_n (pc := 69) (i := 0) dX6_readStep_69 rfl rfl ?_
        refine s_aload_n (pc := 70) (i := 1) dX6_readStep_70 rfl rfl ?_
        refine m_ic (pc := 71) (v := 2) dX6_readStep_71 rfl ?_
        refine m_bi (pc := 72) (v := 40) dX6_readStep_72 rfl ?_
        refine m_v3 (pc := 74) dX6_readStep_74 lk_X6_118 ok_X6_readNumber (rcO o_26 (by decide) rfl) rfl rfl (c_X6_readNumber (h1 := 41) hx hp hs (by omega) rfl (by omega) (fun e a1 q1 => kt_s ?_) (fun v p1 I1 q1 v1 f1 x1 f2 w1 w2 w3 w4 => kt_s ?_))
        · refine s_ireturn (pc := 77) dX6_readStep_77 rfl rfl ?_
          exact hb e a1 _ _ I (by unfold stR; rw [if_neg (by rw [b13]; decide), if_neg (by rw [b14]; decide), if_pos b15]; unfold num1; rw [q1]) fC_r
        · refine s_ireturn (pc := 77) dX6_readStep_77 rfl rfl ?_
          exact hg p1 (.inl (2, v, 0)) I1 _ _ (by unfold stR; rw [if_neg (by rw [b13]; decide), if_neg (by rw [b14]; decide), if_pos b15]; unfold num1; rw [q1]) f1 f2 w1 ⟨w2, w3, w4, trivial⟩
      · have b15 := wB_f.mpr q
        refine s_ifeq (pc := 66) (tgt := 78) dX6_readStep_66 rfl (fun h66 => ?_) (fun h66 => absurd h66 (by decide))
        refine s_aload_n (pc := 78) (i := 1) dX6_readStep_78 rfl rfl ?_
        refine s_ldcS (pc := 79) (j := 16) dX6_readStep_79 sr_X6_122 rfl ?_
        refine m_v1 (pc := 81) dX6_readStep_81 lk_X6_100 ok_X10_isWord (rcO o_2 (by decide) rfl) rfl rfl (c_X10_isWord (j := 16) hx (by decide) hw1 hw2 (fun q => kt_s ?_) (fun q => kt_s ?_))
        · have b16 := wB_m.mpr q
          refine s_ifeq (pc := 84) (tgt := 100) dX6_readStep_84 rfl (fun h84 => absurd h84 (by decide)) (fun h84 => ?_)
          refine s_aload_n (pc := 87) (i := 0) dX6_readStep_87 rfl rfl ?_
          refine s_aload_n (pc := 88) (i := 1) dX6_readStep_88 rfl rfl ?_
          refine m_ic (pc := 89) (v := 3) dX6_readStep_89 rfl ?_
          refine s_aload_n (pc := 90) (i := 2) dX6_readStep_90 rfl rfl ?_
          refine m_gi (pc := 91) dX6_readStep_91 ff_X6_104 rfl o_4 ?_
          refine m_nm (v' := nI (cb D)) (by rw [tp_o (by decide)]; exact hD.1) ?_
          refine m_ic (pc := 94) (v := 1) dX6_readStep_94 rfl ?_
          refine s_isub (pc := 95) dX6_readStep_95 ?_
          refine m_v3 (pc := 96) dX6_readStep_96 lk_X6_118 ok_X6_readNumber (rcO o_26 (by decide) rfl) rfl rfl (c_X6_readNumber (h1 := cb D) hx hp hs (by omega) rfl (by omega) (fun e a1 q1 => kt_s ?_) (fun v p1 I1 q1 v1 f1 x1 f2 w1 w2 w3 w4 => kt_s ?_))
          · refine s_ireturn (pc := 99) dX6_readStep_99 rfl rfl ?_
            exact hb e a1 _ _ I (by unfold stR; rw [if_neg (by rw [b13]; decide), if_neg (by rw [b14]; decide), if_neg (by rw [b15]; decide), if_pos b16]; unfold num1; rw [q1]) fC_r
          · refine s_ireturn (pc := 99) dX6_readStep_99 rfl rfl ?_
            exact hg p1 (.inl (3, v, 0)) I1 _ _ (by unfold stR; rw [if_neg (by rw [b13]; decide), if_neg (by rw [b14]; decide), if_neg (by rw [b15]; decide), if_pos b16]; unfold num1; rw [q1]) f1 f2 w1 ⟨w2, w3, w4, trivial⟩
        · have b16 := wB_f.mpr q
          refine s_ifeq (pc := 84) (tgt := 100) dX6_readStep_84 rfl (fun h84 => ?_) (fun h84 => absurd h84 (by decide))
          refine s_aload_n (pc := 100) (i := 1) dX6_readStep_100 rfl rfl ?_
          refine s_ldcS (pc := 101) (j := 10) dX6_readStep_101 sr_X6_123 rfl ?_
          refine m_v1 (pc := 103) dX6_readStep_103 lk_X6_100 ok_X10_isWord (rcO o_2 (by decide) rfl) rfl rfl (c_X10_isWord (j := 10) hx (by decide) hw1 hw2 (fun q => kt_s ?_) (fun q => kt_s ?_))
          · have b10 := wB_m.mpr q
            refine s_ifeq (pc := 106) (tgt := 117) dX6_readStep_106 rfl (fun h106 => absurd h106 (by decide)) (fun h106 => ?_)
            refine s_aload_n (pc := 109) (i := 0) dX6_readStep_109 rfl rfl ?_
            refine m_ic (pc := 110) (v := 4) dX6_readStep_110 rfl ?_
            refine m_ic (pc := 111) (v := 0) dX6_readStep_111 rfl ?_
            refine m_ic (pc := 112) (v := 0) dX6_readStep_112 rfl ?_
            refine m_v3 (pc := 113) dX6_readStep_113 lk_X6_125 ok_X6_add (rcO o_26 (by decide) rfl) rfl rfl (c_X6_add hx hs (by omega) (fun I1 f1 x1 f2 w1 w2 w3 w4 => kt_s ?_))
            · refine s_ireturn (pc := 116) dX6_readStep_116 rfl rfl ?_
              exact hg _ (.inl (4, 0, 0)) I1 _ _ (by unfold stR; rw [if_neg (by rw [b13]; decide), if_neg (by rw [b14]; decide), if_neg (by rw [b15]; decide), if_neg (by rw [b16]; decide), if_pos b10]) f1 f2 w1 ⟨w2, w3, w4, trivial⟩
          · have b10 := wB_f.mpr q
            refine s_ifeq (pc := 106) (tgt := 117) dX6_readStep_106 rfl (fun h106 => ?_) (fun h106 => absurd h106 (by decide))
            refine s_aload_n (pc := 117) (i := 1) dX6_readStep_117 rfl rfl ?_
            refine s_ldcS (pc := 118) (j := 17) dX6_readStep_118 sr_X6_129 rfl ?_
            refine m_v1 (pc := 120) dX6_readStep_120 lk_X6_100 ok_X10_isWord (rcO o_2 (by decide) rfl) rfl rfl (c_X10_isWord (j := 17) hx (by decide) hw1 hw2 (fun q => kt_s ?_) (fun q => kt_s ?_))
            · have b17 := wB_m.mpr q
              refine s_ifeq (pc := 123) (tgt := 136) dX6_readStep_123 rfl (fun h123 => absurd h123 (by decide)) (fun h123 => ?_)
              refine s_aload_n (pc := 126) (i := 0) dX6_readStep_126 rfl rfl ?_
              refine s_aload_n (pc := 127) (i := 1) dX6_readStep_127 rfl rfl ?_
              refine s_aload_n (pc := 128) (i := 2) dX6_readStep_128 rfl rfl ?_
              refine s_iload_n (pc := 129) (i := 3) dX6_readStep_129 rfl rfl ?_
              refine m_v3 (pc := 130) dX6_readStep_130 lk_X6_131 ok_X6_readAgain (rcO o_26 (by decide) rfl) rfl rfl (c_X6_readAgain (k := k) hS hG hln hF hd hx hp hN hD hk hs (by omega) (fun e a1 wf1 wt1 I1 q1 f1 => kt_s ?_) (fun p1 x I1 wf1 wt1 q1 f1 f2 w1 w2 => kt_s ?_))
              · refine s_goto (pc := 133) (tgt := 141) dX6_readStep_133 rfl ?_
                refine s_ireturn (pc := 141) dX6_readStep_141 rfl rfl ?_
                exact hb e a1 wf1 wt1 I1 (by unfold stR; rw [if_neg (by rw [b13]; decide), if_neg (by rw [b14]; decide), if_neg (by rw [b15]; decide), if_neg (by rw [b16]; decide), if_neg (by rw [b10]; decide), if_pos b17]; rw [if_pos rfl]; exact q1) f1
              · refine s_goto (pc := 133) (tgt := 141) dX6_readStep_133 rfl ?_
                refine s_ireturn (pc := 141) dX6_readStep_141 rfl rfl ?_
                exact hg p1 x I1 wf1 wt1 (by unfold stR; rw [if_neg (by rw [b13]; decide), if_neg (by rw [b14]; decide), if_neg (by rw [b15]; decide), if_neg (by rw [b16]; decide), if_neg (by rw [b10]; decide), if_pos b17]; rw [if_pos rfl]; exact q1) f1 f2 w1 w2
            · have b17 := wB_f.mpr q
              refine s_ifeq (pc := 123) (tgt := 136) dX6_readStep_123 rfl (fun h123 => ?_) (fun h123 => absurd h123 (by decide))
              refine s_aload_n (pc := 136) (i := 1) dX6_readStep_136 rfl rfl ?_
              refine m_ic (pc := 137) (v := 1) dX6_readStep_137 rfl ?_
              refine m_v1 (pc := 138) dX6_readStep_138 lk_X6_134 ok_X10_failWord (rcO o_2 (by decide) rfl) rfl rfl (c_X10_failWord (kt_s ?_))
              · refine s_ireturn (pc := 141) dX6_readStep_141 rfl rfl ?_
                exact hb (1, a) _ _ _ I (by unfold stR; rw [if_neg (by rw [b13]; decide), if_neg (by rw [b14]; decide), if_neg (by rw [b15]; decide), if_neg (by rw [b16]; decide), if_neg (by rw [b10]; decide), if_neg (by rw [b17]; decide)]) fC_r
theorem rs_lp0 {k : Nat} {ln : β → Nat} {mn : β → Nat} {sp : (Nat → Nat → Int32) → β → Nat → Prop} {R : Nat → eT (iT β)} (hSt : cSt g (k + 5) t N D ln sp R (nI 0)) (hG : gI N mn R) (hln : ∀ x, ln x ≤ 2 * mn x) (hF : pF sp ln) (hN : N ≤ 150) (hk : cOk D) : ∀ f i I a wf wt s, tx I t N → a ≤ N → N - a ≤ f → i + f = 150 → Co I 4 D → I 26 4 = nI s → 2 * s ≤ a →
  (∀ e a' wf' wt' I', lsR t N R (stopE N) f a = .inl e → fC I I' → Q (.inl (some (.int 0))) (Z (tp I' a' wf' wt' (nI e.1) (nI e.2)) J n w)) →
  (∀ p x I' wf' wt', lsR t N R (stopE N) f a = .inr (p, x) → fC I I' → fP s I I' → I' 26 4 = nI (s + cln ln x) → PcL sp ln I' x s → Q (.inl (some (.int 1))) (Z (tp I' p wf' wt' fk fp) J n w)) → Rn g (d + (k + 6)) mX6_readSteps 3 [.ref 26, .ref 2, .ref 4, .int 0, .int (nI i)] [] [] (Z (tp I a wf wt fk fp) J n w) Q := by
  intro f
  induction f with
  | zero =>
    intro i I a wf wt s hx ha hf hi hD hs hs2 hb hg
    have ei : i = 150 := by omega
    subst ei
    refine s_iload (pc := 3) (i := 4) dX6_readSteps_3 rfl ?_
    refine m_si (pc := 5) (v := 150) dX6_readSteps_5 rfl ?_
    refine s_icge (pc := 8) (tgt := 63) dX6_readSteps_8 rfl (fun h8 => ?_) (fun h8 => absurd (nI_le (a := 150) (b := 150) (by omega) (by omega)) h8)
    refine s_aload_n (pc := 63) (i := 1) dX6_readSteps_63 rfl rfl ?_
    refine m_v0 (pc := 64) dX6_readSteps_64 lk_X6_86 ok_X10_isAtEnd (rcO o_2 (by decide) rfl) rfl rfl (c_X10_isAtEnd hx ha (fun h => kt_s ?_) (fun h => absurd h (by omega)))
    · refine s_ireturn (pc := 67) dX6_readSteps_67 rfl rfl ?_
      exact hg a [] I wf wt rfl fC_r (fun _ _ _ _ => rfl) hs trivial
  | succ f ih =>
    intro i I a wf wt s hx ha hf hi hD hs hs2 hb hg
    refine s_iload (pc := 3) (i := 4) dX6_readSteps_3 rfl ?_
    refine m_si (pc := 5) (v := 150) dX6_readSteps_5 rfl ?_
    refine s_icge (pc := 8) (tgt := 63) dX6_readSteps_8 rfl (fun h8 => absurd h8 (nI_ge (a := i) (b := 150) (by omega) (by omega))) (fun h8 => ?_)
    refine s_iload_n (pc := 11) (i := 3) dX6_readSteps_11 rfl rfl ?_
    refine s_ifle (pc := 12) (tgt := 27) dX6_readSteps_12 rfl (fun h12 => ?_) (fun h12 => absurd h12 (by decide))
    refine s_aload_n (pc := 27) (i := 1) dX6_readSteps_27 rfl rfl ?_
    refine m_v0 (pc := 28) dX6_readSteps_28 lk_X6_86 ok_X10_isAtEnd (rcO o_2 (by decide) rfl) rfl rfl (c_X10_isAtEnd hx ha (fun h => kt_s ?_) (fun h => kt_s ?_))
    · have E : stopE N a = true := decide_eq_true (by omega)
      rw [lsR, if_pos E] at hg
      refine s_ifeq (pc := 31) (tgt := 36) dX6_readSteps_31 rfl (fun h31 => absurd h31 (by decide)) (fun h31 => ?_)
      refine m_ic (pc := 34) (v := 1) dX6_readSteps_34 rfl ?_
      refine s_ireturn (pc := 35) dX6_readSteps_35 rfl rfl ?_
      exact hg a [] I wf wt rfl fC_r (fun _ _ _ _ => rfl) hs trivial
    · have E : ¬ stopE N a = true := fun z => absurd (of_decide_eq_true z) (by omega)
      refine s_ifeq (pc := 31) (tgt := 36) dX6_readSteps_31 rfl (fun h31 => ?_) (fun h31 => absurd h31 (by decide))
      refine s_aload_n (pc := 36) (i := 0) dX6_readSteps_36 rfl rfl ?_
      refine s_aload_n (pc := 37) (i := 1) dX6_readSteps_37 rfl rfl ?_
      refine s_aload_n (pc := 38) (i := 2) dX6_readSteps_38 rfl rfl ?_
      refine s_iload_n (pc := 39) (i := 3) dX6_readSteps_39 rfl rfl ?_
      refine m_v3 (pc := 40) dX6_readSteps_40 lk_X6_90 ok_X6_readStep (rcO o_26 (by decide) rfl) rfl rfl (hSt _ I _ _ _ _ a wf wt fk fp s hx ha hN hD hk hs hs2 (fun e a1 wf1 wt1 I1 q1 f1 => kt_s ?_) (fun p1 x I1 wf1 wt1 q1 f1 f2 w1 w2 => kt_s ?_))
      · rw [lsR, if_neg E, q1] at hb
        refine s_ifeq (pc := 43) (tgt := 55) dX6_readSteps_43 rfl (fun h43 => ?_) (fun h43 => absurd h43 (by decide))
        refine m_ic (pc := 55) (v := 0) dX6_readSteps_55 rfl ?_
        refine s_ireturn (pc := 56) dX6_readSteps_56 rfl rfl ?_
        exact hb e a1 wf1 wt1 I1 rfl f1
      · have g1 := hG _ _ _ ha q1
        have g2 := cln_le hln [x]
        rw [lsR, if_neg E, q1] at hb hg
        simp only [] at hb hg
        have hx := tx_f hx f1
        refine s_ifeq (pc := 43) (tgt := 55) dX6_readSteps_43 rfl (fun h43 => absurd h43 (by decide)) (fun h43 => ?_)
        refine s_aload_n (pc := 46) (i := 1) dX6_readSteps_46 rfl rfl ?_
        refine m_bi (pc := 47) (v := 59) dX6_readSteps_47 rfl ?_
        refine m_v1 (pc := 49) dX6_readSteps_49 lk_X6_93 ok_X10_needSign (rcO o_2 (by decide) rfl) rfl rfl (c_ns (c := 59) hx g1.2.2 (by decide) rfl (fun y s1 s2 s3 => kt_s ?_) (fun e s1 => kt_s ?_))
        · rw [s1] at hb hg
          simp only [] at hb hg
          refine s_ifne (pc := 52) (tgt := 57) dX6_readSteps_52 rfl (fun h52 => ?_) (fun h52 => absurd h52 (by decide))
          refine m_inc (pc := 57) (v := 1) dX6_readSteps_57 rfl rfl ?_
          dsimp only [List.set, List.filter]
          rw [nI_1]
          refine s_goto (pc := 60) (tgt := 3) dX6_readSteps_60 rfl ?_
          refine ih (i + 1) I1 y wf1 wt1 (s + cln ln [x]) hx s2 (by omega) (by omega) (Co_fr hD (fun y j z1 z2 => f1 y j (by omega))) w1 (by omega) (fun e a' wf' wt' I' z1 z2 => ?_) (fun p r I' wf' wt' z1 z2 z3 z4 z5 => ?_)
          · rw [z1] at hb; exact hb e a' wf' wt' I' rfl (fC_t f1 z2)
          · rw [z1] at hg
            exact hg p (x :: r) I' wf' wt' rfl (fC_t f1 z2) (fP_t f2 (by omega) z3) (by rw [z4, cln_c (x := x) (r := r), Nat.add_assoc]) (PcL_c (PcL_fr hF [x] s I1 I' (fun y j u1 u2 u3 => z3 y j u1 u3) w2) z5)
        · rw [s1] at hb
          refine s_ifne (pc := 52) (tgt := 57) dX6_readSteps_52 rfl (fun h52 => absurd h52 (by decide)) (fun h52 => ?_)
          refine m_ic (pc := 55) (v := 0) dX6_readSteps_55 rfl ?_
          refine s_ireturn (pc := 56) dX6_readSteps_56 rfl rfl ?_
          exact hb e _ _ _ I1 rfl f1
theorem rs_lp1 {k dp : Nat} {ln : β → Nat} {mn : β → Nat} {sp : (Nat → Nat → Int32) → β → Nat → Prop} {R : Nat → eT (iT β)} (hSt : cSt g (k + 5) t N D ln sp R (nI dp)) (hG : gI N mn R) (hln : ∀ x, ln x ≤ 2 * mn x) (hF : pF sp ln) (hN : N ≤ 150) (hk : cOk D) (hdp : 0 < dp) (hdp6 : dp ≤ 6) : ∀ f i I a wf wt s, tx I t N → a ≤ N → N - a ≤ f → i + f = 150 → Co I 4 D → I 26 4 = nI s → 2 * s ≤ a →
  (∀ e a' wf' wt' I', lsR t N R (stopB t N) f a = .inl e → fC I I' → Q (.inl (some (.int 0))) (Z (tp I' a' wf' wt' (nI e.1) (nI e.2)) J n w)) →
  (∀ p x I' wf' wt', lsR t N R (stopB t N) f a = .inr (p, x) → fC I I' → fP s I I' → I' 26 4 = nI (s + cln ln x) → PcL sp ln I' x s → Q (.inl (some (.int 1))) (Z (tp I' p wf' wt' fk fp) J n w)) → Rn g (d + (k + 6)) mX6_readSteps 3 [.ref 26, .ref 2, .ref 4, .int (nI dp), .int (nI i)] [] [] (Z (tp I a wf wt fk fp) J n w) Q := by
  intro f
  induction f with
  | zero =>
    intro i I a wf wt s hx ha hf hi hD hs hs2 hb hg
    have ei : i = 150 := by omega
    subst ei
    refine s_iload (pc := 3) (i := 4) dX6_readSteps_3 rfl ?_
    refine m_si (pc := 5) (v := 150) dX6_readSteps_5 rfl ?_
    refine s_icge (pc := 8) (tgt := 63) dX6_readSteps_8 rfl (fun h8 => ?_) (fun h8 => absurd (nI_le (a := 150) (b := 150) (by omega) (by omega)) h8)
    refine s_aload_n (pc := 63) (i := 1) dX6_readSteps_63 rfl rfl ?_
    refine m_v0 (pc := 64) dX6_readSteps_64 lk_X6_86 ok_X10_isAtEnd (rcO o_2 (by decide) rfl) rfl rfl (c_X10_isAtEnd hx ha (fun h => kt_s ?_) (fun h => absurd h (by omega)))
    · refine s_ireturn (pc := 67) dX6_readSteps_67 rfl rfl ?_
      exact hg a [] I wf wt rfl fC_r (fun _ _ _ _ => rfl) hs trivial
  | succ f ih =>
    intro i I a wf wt s hx ha hf hi hD hs hs2 hb hg
    refine s_iload (pc := 3) (i := 4) dX6_readSteps_3 rfl ?_
    refine m_si (pc := 5) (v := 150) dX6_readSteps_5 rfl ?_
    refine s_icge (pc := 8) (tgt := 63) dX6_readSteps_8 rfl (fun h8 => absurd h8 (nI_ge (a := i) (b := 150) (by omega) (by omega))) (fun h8 => ?_)
    refine s_iload_n (pc := 11) (i := 3) dX6_readSteps_11 rfl rfl ?_
    refine s_ifle (pc := 12) (tgt := 27) dX6_readSteps_12 rfl (fun h12 => absurd h12 (nI_ge (a := 0) (b := dp) (by omega) (by omega))) (fun h12 => ?_)
    refine s_aload_n (pc := 15) (i := 1) dX6_readSteps_15 rfl rfl ?_
    refine m_bi (pc := 16) (v := 93) dX6_readSteps_16 rfl ?_
    refine m_v1 (pc := 18) dX6_readSteps_18 lk_X6_80 ok_X10_isAt (rcO o_2 (by decide) rfl) rfl rfl (c_X10_isAt (c := 93) hx ha (by decide) (fun h3 h4 => kt_s ?_) (fun n4 => kt_s ?_))
    · have E : stopB t N a = true := by unfold stopB; simp [h3, h4]
      rw [lsR, if_pos E] at hg
      refine s_ifeq (pc := 21) (tgt := 36) dX6_readSteps_21 rfl (fun h21 => absurd h21 (by decide)) (fun h21 => ?_)
      refine s_goto (pc := 24) (tgt := 34) dX6_readSteps_24 rfl ?_
      refine m_ic (pc := 34) (v := 1) dX6_readSteps_34 rfl ?_
      refine s_ireturn (pc := 35) dX6_readSteps_35 rfl rfl ?_
      exact hg a [] I wf wt rfl fC_r (fun _ _ _ _ => rfl) hs trivial
    · have E : ¬ stopB t N a = true := fun z => by
        unfold stopB at z
        simp at z
        rcases n4 with n4 | n4
        · omega
        · exact n4 z.2
      refine s_ifeq (pc := 21) (tgt := 36) dX6_readSteps_21 rfl (fun h21 => ?_) (fun h21 => absurd h21 (by decide))
      refine s_aload_n (pc := 36) (i := 0) dX6_readSteps_36 rfl rfl ?_
      refine s_aload_n (pc := 37) (i := 1) dX6_readSteps_37 rfl rfl ?_
      refine s_aload_n (pc := 38) (i := 2) dX6_readSteps_38 rfl rfl ?_
      refine s_iload_n (pc := 39) (i := 3) dX6_readSteps_39 rfl rfl ?_
      refine m_v3 (pc := 40) dX6_readSteps_40 lk_X6_90 ok_X6_readStep (rcO o_26 (by decide) rfl) rfl rfl (hSt _ I _ _ _ _ a wf wt fk fp s hx ha hN hD hk hs hs2 (fun e a1 wf1 wt1 I1 q1 f1 => kt_s ?_) (fun p1 x I1 wf1 wt1 q1 f1 f2 w1 w2 => kt_s ?_))
      · rw [lsR, if_neg E, q1] at hb
        refine s_ifeq (pc := 43) (tgt := 55) dX6_readSteps_43 rfl (fun h43 => ?_) (fun h43 => absurd h43 (by decide))
        refine m_ic (pc := 55) (v := 0) dX6_readSteps_55 rfl ?_
        refine s_ireturn (pc := 56) dX6_readSteps_56 rfl rfl ?_
        exact hb e a1 wf1 wt1 I1 rfl f1
      · have g1 := hG _ _ _ ha q1
        have g2 := cln_le hln [x]
        rw [lsR, if_neg E, q1] at hb hg
        simp only [] at hb hg
        have hx := tx_f hx f1
        refine s_ifeq (pc := 43) (tgt := 55) dX6_readSteps_43 rfl (fun h43 => absurd h43 (by decide)) (fun h43 => ?_)
        refine s_aload_n (pc := 46) (i := 1) dX6_readSteps_46 rfl rfl ?_
        refine m_bi (pc := 47) (v := 59) dX6_readSteps_47 rfl ?_
        refine m_v1 (pc := 49) dX6_readSteps_49 lk_X6_93 ok_X10_needSign (rcO o_2 (by decide) rfl) rfl rfl (c_ns (c := 59) hx g1.2.2 (by decide) rfl (fun y s1 s2 s3 => kt_s ?_) (fun e s1 => kt_s ?_))
        · rw [s1] at hb hg
          simp only [] at hb hg
          refine s_ifne (pc := 52) (tgt := 57) dX6_readSteps_52 rfl (fun h52 => ?_) (fun h52 => absurd h52 (by decide))
          refine m_inc (pc := 57) (v := 1) dX6_readSteps_57 rfl rfl ?_
          dsimp only [List.set, List.filter]
          rw [nI_1]
          refine s_goto (pc := 60) (tgt := 3) dX6_readSteps_60 rfl ?_
          refine ih (i + 1) I1 y wf1 wt1 (s + cln ln [x]) hx s2 (by omega) (by omega) (Co_fr hD (fun y j z1 z2 => f1 y j (by omega))) w1 (by omega) (fun e a' wf' wt' I' z1 z2 => ?_) (fun p r I' wf' wt' z1 z2 z3 z4 z5 => ?_)
          · rw [z1] at hb; exact hb e a' wf' wt' I' rfl (fC_t f1 z2)
          · rw [z1] at hg
            exact hg p (x :: r) I' wf' wt' rfl (fC_t f1 z2) (fP_t f2 (by omega) z3) (by rw [z4, cln_c (x := x) (r := r), Nat.add_assoc]) (PcL_c (PcL_fr hF [x] s I1 I' (fun y j u1 u2 u3 => z3 y j u1 u3) w2) z5)
        · rw [s1] at hb
          refine s_ifne (pc := 52) (tgt := 57) dX6_readSteps_52 rfl (fun h52 => absurd h52 (by decide)) (fun h52 => ?_)
          refine m_ic (pc := 55) (v := 0) dX6_readSteps_55 rfl ?_
          refine s_ireturn (pc := 56) dX6_readSteps_56 rfl rfl ?_
          exact hb e _ _ _ I1 rfl f1
theorem c_stepsB {k dp : Nat} {ln : β → Nat} {mn : β → Nat} {sp : (Nat → Nat → Int32) → β → Nat → Prop} {R : Nat → eT (iT β)} (hSt : cSt g (k + 5) t N D ln sp R (nI dp)) (hG : gI N mn R) (hln : ∀ x, ln x ≤ 2 * mn x) (hF : pF sp ln) (hdp : 0 < dp) (hdp6 : dp ≤ 6) : cSs g (k + 6) t N D ln sp (lsR t N R (stopB t N) 150) (nI dp) := by
  intro d I J n w Q a wf wt fk fp s hx ha hN hD hk hs hs2 hb hg
  show Rn g (d + (k + 6)) mX6_readSteps 0 [.ref 26, .ref 2, .ref 4, .int (nI dp), .retAddr 0] [] [] (Z (tp I a wf wt fk fp) J n w) Q
  refine m_ic (pc := 0) (v := 0) dX6_readSteps_0 rfl ?_
  refine s_istore (pc := 1) (i := 4) dX6_readSteps_1 (Nat.le_of_ble_eq_true rfl) ?_
  dsimp only [List.set, List.filter]
  exact rs_lp1 hSt hG hln hF hN hk hdp hdp6 150 0 I a wf wt s hx ha (by omega) rfl hD hs hs2 hb hg
theorem c_stepsE {k : Nat} {ln : β → Nat} {mn : β → Nat} {sp : (Nat → Nat → Int32) → β → Nat → Prop} {R : Nat → eT (iT β)} (hSt : cSt g (k + 5) t N D ln sp R (nI 0)) (hG : gI N mn R) (hln : ∀ x, ln x ≤ 2 * mn x) (hF : pF sp ln) : cSs g (k + 6) t N D ln sp (lsR t N R (stopE N) 150) 0 := by
  intro d I J n w Q a wf wt fk fp s hx ha hN hD hk hs hs2 hb hg
  show Rn g (d + (k + 6)) mX6_readSteps 0 [.ref 26, .ref 2, .ref 4, .int 0, .retAddr 0] [] [] (Z (tp I a wf wt fk fp) J n w) Q
  refine m_ic (pc := 0) (v := 0) dX6_readSteps_0 rfl ?_
  refine s_istore (pc := 1) (i := 4) dX6_readSteps_1 (Nat.le_of_ble_eq_true rfl) ?_
  dsimp only [List.set, List.filter]
  exact rs_lp0 hSt hG hln hF hN hk 150 0 I a wf wt s hx ha (by omega) rfl hD hs hs2 hb hg
theorem c_stepsL : ∀ L, L ≤ 5 → cSs g (3 * L + 6) t N D (clT L) (PcT L) (pT t N (cb D) (cc D) L) (nI (6 - L))
  | 0, _ => c_stepsB (k := 0) (mn := mlT 0) c_step0 (stR_g (fun h => by cases h)) (clT_le 0) (pF_T 0) (by decide) (by decide)
  | L + 1, h => by
    have ih := c_stepsL L (by omega)
    rw [show 6 - L = (6 - (L + 1)) + 1 by omega] at ih
    exact c_stepsB (k := 3 * L + 3) (mn := mlT (L + 1)) (c_stepk (k := 3 * L) (mn := mlT L) ih (pT_g L) (clT_le L) (pF_T L) (by omega)) (stR_g (fun _ => pT_g L)) (clT_le (L + 1)) (pF_T (L + 1)) (by omega) (by omega)
theorem c_stepsT : cSs g 24 t N D (clT 6) (PcT 6) (pTop t N (cb D) (cc D)) 0 := by
  have ih := c_stepsL (g := g) (t := t) (N := N) (D := D) 5 (by decide)
  exact c_stepsE (k := 18) (mn := mlT 6) (c_stepk (k := 15) (dp := 0) (mn := mlT 5) ih (pT_g 5) (clT_le 5) (pF_T 5) (by decide)) (stR_g (fun _ => pT_g 5)) (clT_le 6) (pF_T 6)
theorem c_X6_readFrom (hx : tx I t N) (ha : a ≤ N) (hN : N ≤ 150) (hD : Co I 4 D) (hk : cOk D)
  (hb : ∀ e a' wf' wt' I', pTop t N (cb D) (cc D) a = .inl e → fC I I' → Q (.inl (some (.int 0))) (Z (tp I' a' wf' wt' (nI e.1) (nI e.2)) J n w))
  (hg : ∀ p x I' wf' wt', pTop t N (cb D) (cc D) a = .inr (p, x) → fC I I' → I' 26 4 = nI (clT 7 x) → PcT 7 I' x 0 → Q (.inl (some (.int 1))) (Z (tp I' p wf' wt' fk fp) J n w)) : Cn g (d + 25) mX6_readFrom [.ref 26, .ref 2, .ref 4] (Z (tp I a wf wt fk fp) J n w) Q := by
  show Rn g (d + 25) mX6_readFrom 0 [.ref 26, .ref 2, .ref 4] [] [] (Z (tp I a wf wt fk fp) J n w) Q
  refine s_aload_n (pc := 0) (i := 0) dX6_readFrom_0 rfl rfl ?_
  refine m_ic (pc := 1) (v := 0) dX6_readFrom_1 rfl ?_
  refine m_pi (pc := 2) dX6_readFrom_2 ff_X6_24 rfl rfl o_26 ?_
  refine st_tp hx (by decide) (by decide) (fun I2 e2 hx => ?_)
  refine s_aload_n (pc := 5) (i := 0) dX6_readFrom_5 rfl rfl ?_
  refine s_aload_n (pc := 6) (i := 1) dX6_readFrom_6 rfl rfl ?_
  refine s_aload_n (pc := 7) (i := 2) dX6_readFrom_7 rfl rfl ?_
  refine m_ic (pc := 8) (v := 0) dX6_readFrom_8 rfl ?_
  refine m_v3 (pc := 9) dX6_readFrom_9 lk_X6_28 ok_X6_readSteps (rcO o_26 (by decide) rfl) rfl rfl (c_stepsT _ I2 _ _ _ _ a wf wt fk fp 0 hx ha hN (Co_fr hD (fun y j z1 z2 => by rw [e2, up_a (by omega)])) hk (by rw [e2, up_s]; rfl) (by omega) (fun e a1 wf1 wt1 I1 q1 f1 => kt_s ?_) (fun p1 x I1 wf1 wt1 q1 f1 f2 w1 w2 => kt_s ?_))
  · refine s_ireturn (pc := 12) dX6_readFrom_12 rfl rfl ?_
    exact hb e a1 wf1 wt1 I1 q1 (fC_t (by rw [e2]; exact fC_u fC_r (by decide)) f1)
  · refine s_ireturn (pc := 12) dX6_readFrom_12 rfl rfl ?_
    exact hg p1 x I1 wf1 wt1 q1 (fC_t (by rw [e2]; exact fC_u fC_r (by decide)) f1) (by rw [w1, Nat.zero_add]; rfl) w2
end S
