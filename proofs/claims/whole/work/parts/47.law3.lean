section S
variable {g : aG} {d : Nat} {I : Nat → Nat → Int32} {J : Nat → Nat → Int64} {n w : Nat} {Q : aO → aS → Prop}
variable {t : Nat → Nat} {N a wf wt : Nat} {fk fp : Int32} {σ : aS}
theorem c_unit6 : cRd g mX4_readUnit 6 t N (lU t N (fun _ _ => .inl (0, 0)) 0) (nI 6) := by
  intro d I J n w Q a wf wt fk fp cs hx ha hN hL hl hb hg
  have hw1 := wE_ge (t := t) (N := N) (a := a)
  have hw2 := wE_le (t := t) ha
  have hp2 := sk_ge (t := t) (N := N) (a := wE t N a)
  have hp := sk_le (t := t) hw2
  show Rn g (d + 6) mX4_readUnit 0 [.ref 18, .ref 2, .int (nI 6), .retAddr 0, .retAddr 0] [] [] (Z (tp I a wf wt fk fp) J n w) Q
  refine s_aload_n (pc := 0) (i := 1) dX4_readUnit_0 rfl rfl ?_
  refine m_v0 (pc := 1) dX4_readUnit_1 lk_X4_72 ok_X10_isAtDigit (rcO o_2 (by decide) rfl) rfl rfl (c_X10_isAtDigit hx ha (fun h1 h2 => kt_s ?_) (fun h => kt_s ?_))
  · refine s_ifeq (pc := 4) (tgt := 35) dX4_readUnit_4 rfl (fun h4 => absurd h4 (by decide)) (fun h4 => ?_)
    refine s_aload_n (pc := 7) (i := 1) dX4_readUnit_7 rfl rfl ?_
    refine m_ic (pc := 8) (v := 0) dX4_readUnit_8 rfl ?_
    refine m_si (pc := 9) (v := 999) dX4_readUnit_9 rfl ?_
    refine m_v2 (pc := 12) dX4_readUnit_12 lk_X4_75 ok_X10_needNumber (rcO o_2 (by decide) rfl) rfl rfl (c_nn hx ha (lo1 := 0) (hi1 := 1000) rfl rfl (by decide) (fun e a1 q1 => kt_s ?_) (fun v p1 q1 q2 q3 q4 => kt_s ?_))
    · refine s_istore_n (pc := 15) (i := 3) dX4_readUnit_15 rfl (Nat.le_of_ble_eq_true rfl) ?_
      dsimp only [List.set, List.filter]
      refine s_iload_n (pc := 16) (i := 3) dX4_readUnit_16 rfl rfl ?_
      refine m_ic (pc := 17) (v := -1) dX4_readUnit_17 rfl ?_
      refine s_iceq (pc := 18) (tgt := 33) dX4_readUnit_18 rfl (fun h18 => ?_) (fun h18 => absurd h18 (by decide))
      refine m_ic (pc := 33) (v := 0) dX4_readUnit_33 rfl ?_
      refine s_ireturn (pc := 34) dX4_readUnit_34 rfl rfl ?_
      exact hb e a1 _ _ I (by unfold lU; rw [if_pos ⟨h1, h2⟩]; unfold lUn; rw [q1]) fC_r
    · refine s_istore_n (pc := 15) (i := 3) dX4_readUnit_15 rfl (Nat.le_of_ble_eq_true rfl) ?_
      dsimp only [List.set, List.filter]
      refine s_iload_n (pc := 16) (i := 3) dX4_readUnit_16 rfl rfl ?_
      refine m_ic (pc := 17) (v := -1) dX4_readUnit_17 rfl ?_
      refine s_iceq (pc := 18) (tgt := 33) dX4_readUnit_18 rfl (fun h18 => absurd h18 (nI_m1 (by omega))) (fun h18 => ?_)
      refine s_aload_n (pc := 21) (i := 0) dX4_readUnit_21 rfl rfl ?_
      refine s_iload_n (pc := 22) (i := 3) dX4_readUnit_22 rfl rfl ?_
      refine m_v1 (pc := 23) dX4_readUnit_23 lk_X4_28 ok_X4_add (rcO o_18 (by decide) rfl) rfl rfl (c_ad (v := v) hx hL (by omega) rfl (fun I2 r1 r2 r3 => kt_s ?_))
      · refine s_ifeq (pc := 26) (tgt := 33) dX4_readUnit_26 rfl (fun h26 => absurd h26 (by decide)) (fun h26 => ?_)
        refine m_ic (pc := 29) (v := 1) dX4_readUnit_29 rfl ?_
        refine s_goto (pc := 30) (tgt := 34) dX4_readUnit_30 rfl ?_
        refine s_ireturn (pc := 34) dX4_readUnit_34 rfl rfl ?_
        exact hg p1 _ I2 _ _ (by unfold lU; rw [if_pos ⟨h1, h2⟩]; unfold lUn; rw [q1]) r1 r3
  · have nd : ¬ (a < N ∧ dg (t a) = true) := by
      rintro ⟨z1, z2⟩
      rcases h with h | h
      · omega
      · rw [h] at z2; cases z2
    refine s_ifeq (pc := 4) (tgt := 35) dX4_readUnit_4 rfl (fun h4 => ?_) (fun h4 => absurd h4 (by decide))
    refine s_aload_n (pc := 35) (i := 1) dX4_readUnit_35 rfl rfl ?_
    refine m_bi (pc := 36) (v := 40) dX4_readUnit_36 rfl ?_
    refine m_v1 (pc := 38) dX4_readUnit_38 lk_X4_58 ok_X10_isAt (rcO o_2 (by decide) rfl) rfl rfl (c_X10_isAt (c := 40) hx ha (by decide) (fun h3 h4 => kt_s ?_) (fun n4 => kt_s ?_))
    · refine s_ifeq (pc := 41) (tgt := 51) dX4_readUnit_41 rfl (fun h41 => absurd h41 (by decide)) (fun h41 => ?_)
      refine s_aload_n (pc := 44) (i := 0) dX4_readUnit_44 rfl rfl ?_
      refine s_aload_n (pc := 45) (i := 1) dX4_readUnit_45 rfl rfl ?_
      refine s_iload_n (pc := 46) (i := 2) dX4_readUnit_46 rfl rfl ?_
      refine m_v2 (pc := 47) dX4_readUnit_47 lk_X4_79 ok_X4_readInner (rcO o_18 (by decide) rfl) rfl rfl (c_inn6 (kt_s ?_))
      · refine s_ireturn (pc := 50) dX4_readUnit_50 rfl rfl ?_
        exact hb (3, a) _ _ _ I (by unfold lU; rw [if_neg nd, if_pos ⟨h3, h4⟩, if_pos rfl]) fC_r
    · have np : ¬ (a < N ∧ t a = 40) := by
        rintro ⟨z1, z2⟩
        rcases n4 with n4 | n4
        · omega
        · exact n4 z2
      refine s_ifeq (pc := 41) (tgt := 51) dX4_readUnit_41 rfl (fun h41 => ?_) (fun h41 => absurd h41 (by decide))
      refine s_aload_n (pc := 51) (i := 1) dX4_readUnit_51 rfl rfl ?_
      refine m_v0 (pc := 52) dX4_readUnit_52 lk_X4_82 ok_X10_takeWord (rcO o_2 (by decide) rfl) rfl rfl (c_X10_takeWord hx ha (kt_v ?_))
      refine s_aload_n (pc := 55) (i := 1) dX4_readUnit_55 rfl rfl ?_
      refine s_ldcS (pc := 56) (j := 11) dX4_readUnit_56 sr_X4_85 rfl ?_
      refine m_v1 (pc := 58) dX4_readUnit_58 lk_X4_87 ok_X10_isWord (rcO o_2 (by decide) rfl) rfl rfl (c_X10_isWord (j := 11) hx (by decide) hw1 hw2 (fun q => kt_s ?_) (fun q => kt_s ?_))
      · have b11 := wB_m.mpr q
        have hw : wB t N a 11 = true ∨ wB t N a 12 = true := Or.inl b11
        refine s_istore_n (pc := 61) (i := 3) dX4_readUnit_61 rfl (Nat.le_of_ble_eq_true rfl) ?_
        dsimp only [List.set, List.filter]
        refine s_iload_n (pc := 62) (i := 3) dX4_readUnit_62 rfl rfl ?_
        refine s_ifne (pc := 63) (tgt := 75) dX4_readUnit_63 rfl (fun h63 => ?_) (fun h63 => absurd h63 (by decide))
        refine s_aload_n (pc := 75) (i := 0) dX4_readUnit_75 rfl rfl ?_
        refine s_aload_n (pc := 76) (i := 1) dX4_readUnit_76 rfl rfl ?_
        refine s_iload_n (pc := 77) (i := 2) dX4_readUnit_77 rfl rfl ?_
        refine m_v2 (pc := 78) dX4_readUnit_78 lk_X4_93 ok_X4_readPair (rcO o_18 (by decide) rfl) rfl rfl (c_pair6 (kt_s ?_))
        · refine s_ifeq (pc := 81) (tgt := 108) dX4_readUnit_81 rfl (fun h81 => ?_) (fun h81 => absurd h81 (by decide))
          refine m_ic (pc := 108) (v := 0) dX4_readUnit_108 rfl ?_
          refine s_ireturn (pc := 109) dX4_readUnit_109 rfl rfl ?_
          exact hb (3, a) _ _ _ I (by unfold lU; rw [if_neg nd, if_neg np, if_pos hw, if_pos rfl]) fC_r
      · have b11 := wB_f.mpr q
        refine s_istore_n (pc := 61) (i := 3) dX4_readUnit_61 rfl (Nat.le_of_ble_eq_true rfl) ?_
        dsimp only [List.set, List.filter]
        refine s_iload_n (pc := 62) (i := 3) dX4_readUnit_62 rfl rfl ?_
        refine s_ifne (pc := 63) (tgt := 75) dX4_readUnit_63 rfl (fun h63 => absurd h63 (by decide)) (fun h63 => ?_)
        refine s_aload_n (pc := 66) (i := 1) dX4_readUnit_66 rfl rfl ?_
        refine s_ldcS (pc := 67) (j := 12) dX4_readUnit_67 sr_X4_91 rfl ?_
        refine m_v1 (pc := 69) dX4_readUnit_69 lk_X4_87 ok_X10_isWord (rcO o_2 (by decide) rfl) rfl rfl (c_X10_isWord (j := 12) hx (by decide) hw1 hw2 (fun q => kt_s ?_) (fun q => kt_s ?_))
        · have b12 := wB_m.mpr q
          have hw : wB t N a 11 = true ∨ wB t N a 12 = true := Or.inr b12
          refine s_ifeq (pc := 72) (tgt := 110) dX4_readUnit_72 rfl (fun h72 => absurd h72 (by decide)) (fun h72 => ?_)
          refine s_aload_n (pc := 75) (i := 0) dX4_readUnit_75 rfl rfl ?_
          refine s_aload_n (pc := 76) (i := 1) dX4_readUnit_76 rfl rfl ?_
          refine s_iload_n (pc := 77) (i := 2) dX4_readUnit_77 rfl rfl ?_
          refine m_v2 (pc := 78) dX4_readUnit_78 lk_X4_93 ok_X4_readPair (rcO o_18 (by decide) rfl) rfl rfl (c_pair6 (kt_s ?_))
          · refine s_ifeq (pc := 81) (tgt := 108) dX4_readUnit_81 rfl (fun h81 => ?_) (fun h81 => absurd h81 (by decide))
            refine m_ic (pc := 108) (v := 0) dX4_readUnit_108 rfl ?_
            refine s_ireturn (pc := 109) dX4_readUnit_109 rfl rfl ?_
            exact hb (3, a) _ _ _ I (by unfold lU; rw [if_neg nd, if_neg np, if_pos hw, if_pos rfl]) fC_r
        · have b12 := wB_f.mpr q
          have nw : ¬ (wB t N a 11 = true ∨ wB t N a 12 = true) := by rw [b11, b12]; decide
          refine s_ifeq (pc := 72) (tgt := 110) dX4_readUnit_72 rfl (fun h72 => ?_) (fun h72 => absurd h72 (by decide))
          refine s_aload_n (pc := 110) (i := 1) dX4_readUnit_110 rfl rfl ?_
          refine m_s1 (pc := 111) dX4_readUnit_111 lk_X4_96 ok_X4_thingOf rfl rfl (c_X4_thingOf hx hw2 (fun h5 => kt_s ?_) (fun i h5 => kt_s ?_))
          · refine s_istore (pc := 114) (i := 4) dX4_readUnit_114 (Nat.le_of_ble_eq_true rfl) ?_
            dsimp only [List.set, List.filter]
            refine s_iload (pc := 116) (i := 4) dX4_readUnit_116 rfl ?_
            refine m_ic (pc := 118) (v := -1) dX4_readUnit_118 rfl ?_
            refine s_icne (pc := 119) (tgt := 130) dX4_readUnit_119 rfl (fun h119 => absurd h119 (by decide)) (fun h119 => ?_)
            refine s_aload_n (pc := 122) (i := 1) dX4_readUnit_122 rfl rfl ?_
            refine m_ic (pc := 123) (v := 1) dX4_readUnit_123 rfl ?_
            refine m_v1 (pc := 124) dX4_readUnit_124 lk_X4_100 ok_X10_failWord (rcO o_2 (by decide) rfl) rfl rfl (c_X10_failWord (kt_s ?_))
            refine s_goto (pc := 127) (tgt := 136) dX4_readUnit_127 rfl ?_
            refine s_ireturn (pc := 136) dX4_readUnit_136 rfl rfl ?_
            exact hb (1, a) _ _ _ I (by unfold lU; rw [if_neg nd, if_neg np, if_neg nw]; unfold lUw; rw [h5]) fC_r
          · have gi := thW_gt h5
            refine s_istore (pc := 114) (i := 4) dX4_readUnit_114 (Nat.le_of_ble_eq_true rfl) ?_
            dsimp only [List.set, List.filter]
            refine s_iload (pc := 116) (i := 4) dX4_readUnit_116 rfl ?_
            refine m_ic (pc := 118) (v := -1) dX4_readUnit_118 rfl ?_
            refine s_icne (pc := 119) (tgt := 130) dX4_readUnit_119 rfl (fun h119 => ?_) (fun h119 => absurd h119 (nI_m1 (by omega)))
            refine s_aload_n (pc := 130) (i := 0) dX4_readUnit_130 rfl rfl ?_
            refine s_iload (pc := 131) (i := 4) dX4_readUnit_131 rfl ?_
            refine m_v1 (pc := 133) dX4_readUnit_133 lk_X4_28 ok_X4_add (rcO o_18 (by decide) rfl) rfl rfl (c_ad (v := 1000 + i) hx hL (by omega) rfl (fun I2 r1 r2 r3 => kt_s ?_))
            refine s_ireturn (pc := 136) dX4_readUnit_136 rfl rfl ?_
            exact hg _ _ I2 _ _ (by unfold lU; rw [if_neg nd, if_neg np, if_neg nw]; unfold lUw; rw [h5]) r1 r3
theorem c_unit {k o L : Nat} {S : Nat → List Nat → lT} (hS : cRd g mX4_readSum (k + 6) t N S (nI (o + 1))) (hG : gU N S) (ho : o < 6) (hL0 : L ≠ 0) : cRd g mX4_readUnit (k + 8) t N (lU t N S L) (nI o) := by
  intro d I J n w Q a wf wt fk fp cs hx ha hN hL hl hb hg
  have hw1 := wE_ge (t := t) (N := N) (a := a)
  have hw2 := wE_le (t := t) ha
  have hp2 := sk_ge (t := t) (N := N) (a := wE t N a)
  have hp := sk_le (t := t) hw2
  show Rn g (d + (k + 8)) mX4_readUnit 0 [.ref 18, .ref 2, .int (nI o), .retAddr 0, .retAddr 0] [] [] (Z (tp I a wf wt fk fp) J n w) Q
  refine s_aload_n (pc := 0) (i := 1) dX4_readUnit_0 rfl rfl ?_
  refine m_v0 (pc := 1) dX4_readUnit_1 lk_X4_72 ok_X10_isAtDigit (rcO o_2 (by decide) rfl) rfl rfl (c_X10_isAtDigit hx ha (fun h1 h2 => kt_s ?_) (fun h => kt_s ?_))
  · refine s_ifeq (pc := 4) (tgt := 35) dX4_readUnit_4 rfl (fun h4 => absurd h4 (by decide)) (fun h4 => ?_)
    refine s_aload_n (pc := 7) (i := 1) dX4_readUnit_7 rfl rfl ?_
    refine m_ic (pc := 8) (v := 0) dX4_readUnit_8 rfl ?_
    refine m_si (pc := 9) (v := 999) dX4_readUnit_9 rfl ?_
    refine m_v2 (pc := 12) dX4_readUnit_12 lk_X4_75 ok_X10_needNumber (rcO o_2 (by decide) rfl) rfl rfl (c_nn hx ha (lo1 := 0) (hi1 := 1000) rfl rfl (by decide) (fun e a1 q1 => kt_s ?_) (fun v p1 q1 q2 q3 q4 => kt_s ?_))
    · refine s_istore_n (pc := 15) (i := 3) dX4_readUnit_15 rfl (Nat.le_of_ble_eq_true rfl) ?_
      dsimp only [List.set, List.filter]
      refine s_iload_n (pc := 16) (i := 3) dX4_readUnit_16 rfl rfl ?_
      refine m_ic (pc := 17) (v := -1) dX4_readUnit_17 rfl ?_
      refine s_iceq (pc := 18) (tgt := 33) dX4_readUnit_18 rfl (fun h18 => ?_) (fun h18 => absurd h18 (by decide))
      refine m_ic (pc := 33) (v := 0) dX4_readUnit_33 rfl ?_
      refine s_ireturn (pc := 34) dX4_readUnit_34 rfl rfl ?_
      exact hb e a1 _ _ I (by unfold lU; rw [if_pos ⟨h1, h2⟩]; unfold lUn; rw [q1]) fC_r
    · refine s_istore_n (pc := 15) (i := 3) dX4_readUnit_15 rfl (Nat.le_of_ble_eq_true rfl) ?_
      dsimp only [List.set, List.filter]
      refine s_iload_n (pc := 16) (i := 3) dX4_readUnit_16 rfl rfl ?_
      refine m_ic (pc := 17) (v := -1) dX4_readUnit_17 rfl ?_
      refine s_iceq (pc := 18) (tgt := 33) dX4_readUnit_18 rfl (fun h18 => absurd h18 (nI_m1 (by omega))) (fun h18 => ?_)
      refine s_aload_n (pc := 21) (i := 0) dX4_readUnit_21 rfl rfl ?_
      refine s_iload_n (pc := 22) (i := 3) dX4_readUnit_22 rfl rfl ?_
      refine m_v1 (pc := 23) dX4_readUnit_23 lk_X4_28 ok_X4_add (rcO o_18 (by decide) rfl) rfl rfl (c_ad (v := v) hx hL (by omega) rfl (fun I2 r1 r2 r3 => kt_s ?_))
      · refine s_ifeq (pc := 26) (tgt := 33) dX4_readUnit_26 rfl (fun h26 => absurd h26 (by decide)) (fun h26 => ?_)
        refine m_ic (pc := 29) (v := 1) dX4_readUnit_29 rfl ?_
        refine s_goto (pc := 30) (tgt := 34) dX4_readUnit_30 rfl ?_
        refine s_ireturn (pc := 34) dX4_readUnit_34 rfl rfl ?_
        exact hg p1 _ I2 _ _ (by unfold lU; rw [if_pos ⟨h1, h2⟩]; unfold lUn; rw [q1]) r1 r3
  · have nd : ¬ (a < N ∧ dg (t a) = true) := by
      rintro ⟨z1, z2⟩
      rcases h with h | h
      · omega
      · rw [h] at z2; cases z2
    refine s_ifeq (pc := 4) (tgt := 35) dX4_readUnit_4 rfl (fun h4 => ?_) (fun h4 => absurd h4 (by decide))
    refine s_aload_n (pc := 35) (i := 1) dX4_readUnit_35 rfl rfl ?_
    refine m_bi (pc := 36) (v := 40) dX4_readUnit_36 rfl ?_
    refine m_v1 (pc := 38) dX4_readUnit_38 lk_X4_58 ok_X10_isAt (rcO o_2 (by decide) rfl) rfl rfl (c_X10_isAt (c := 40) hx ha (by decide) (fun h3 h4 => kt_s ?_) (fun n4 => kt_s ?_))
    · refine s_ifeq (pc := 41) (tgt := 51) dX4_readUnit_41 rfl (fun h41 => absurd h41 (by decide)) (fun h41 => ?_)
      refine s_aload_n (pc := 44) (i := 0) dX4_readUnit_44 rfl rfl ?_
      refine s_aload_n (pc := 45) (i := 1) dX4_readUnit_45 rfl rfl ?_
      refine s_iload_n (pc := 46) (i := 2) dX4_readUnit_46 rfl rfl ?_
      refine m_v2 (pc := 47) dX4_readUnit_47 lk_X4_79 ok_X4_readInner (rcO o_18 (by decide) rfl) rfl rfl (c_X4_readInner hS hG ho hx hN hL h3 hl (fun e a1 wf1 wt1 I1 q1 q2 => kt_s ?_) (fun p1 c2 I1 wf1 wt1 q1 q2 q3 => kt_s ?_))
      · refine s_ireturn (pc := 50) dX4_readUnit_50 rfl rfl ?_
        exact hb e a1 wf1 wt1 I1 (by unfold lU; rw [if_neg nd, if_pos ⟨h3, h4⟩, if_neg hL0]; exact q1) q2
      · refine s_ireturn (pc := 50) dX4_readUnit_50 rfl rfl ?_
        exact hg p1 c2 I1 wf1 wt1 (by unfold lU; rw [if_neg nd, if_pos ⟨h3, h4⟩, if_neg hL0]; exact q1) q2 q3
    · have np : ¬ (a < N ∧ t a = 40) := by
        rintro ⟨z1, z2⟩
        rcases n4 with n4 | n4
        · omega
        · exact n4 z2
      refine s_ifeq (pc := 41) (tgt := 51) dX4_readUnit_41 rfl (fun h41 => ?_) (fun h41 => absurd h41 (by decide))
      refine s_aload_n (pc := 51) (i := 1) dX4_readUnit_51 rfl rfl ?_
      refine m_v0 (pc := 52) dX4_readUnit_52 lk_X4_82 ok_X10_takeWord (rcO o_2 (by decide) rfl) rfl rfl (c_X10_takeWord hx ha (kt_v ?_))
      refine s_aload_n (pc := 55) (i := 1) dX4_readUnit_55 rfl rfl ?_
      refine s_ldcS (pc := 56) (j := 11) dX4_readUnit_56 sr_X4_85 rfl ?_
      refine m_v1 (pc := 58) dX4_readUnit_58 lk_X4_87 ok_X10_isWord (rcO o_2 (by decide) rfl) rfl rfl (c_X10_isWord (j := 11) hx (by decide) hw1 hw2 (fun q => kt_s ?_) (fun q => kt_s ?_))
      · have b11 := wB_m.mpr q
        have hw : wB t N a 11 = true ∨ wB t N a 12 = true := Or.inl b11
        refine s_istore_n (pc := 61) (i := 3) dX4_readUnit_61 rfl (Nat.le_of_ble_eq_true rfl) ?_
        dsimp only [List.set, List.filter]
        refine s_iload_n (pc := 62) (i := 3) dX4_readUnit_62 rfl rfl ?_
        refine s_ifne (pc := 63) (tgt := 75) dX4_readUnit_63 rfl (fun h63 => ?_) (fun h63 => absurd h63 (by decide))
        refine s_aload_n (pc := 75) (i := 0) dX4_readUnit_75 rfl rfl ?_
        refine s_aload_n (pc := 76) (i := 1) dX4_readUnit_76 rfl rfl ?_
        refine s_iload_n (pc := 77) (i := 2) dX4_readUnit_77 rfl rfl ?_
        refine m_v2 (pc := 78) dX4_readUnit_78 lk_X4_93 ok_X4_readPair (rcO o_18 (by decide) rfl) rfl rfl (c_X4_readPair hS hG ho hx hN hL ha hl (fun e a1 wf1 wt1 I1 q1 q2 => kt_s ?_) (fun p1 c2 I1 wf1 wt1 q1 q2 q3 q4 => kt_s ?_))
        · refine s_ifeq (pc := 81) (tgt := 108) dX4_readUnit_81 rfl (fun h81 => ?_) (fun h81 => absurd h81 (by decide))
          refine m_ic (pc := 108) (v := 0) dX4_readUnit_108 rfl ?_
          refine s_ireturn (pc := 109) dX4_readUnit_109 rfl rfl ?_
          exact hb e a1 wf1 wt1 I1 (by unfold lU; rw [if_neg nd, if_neg np, if_pos hw, if_neg hL0]; exact q1) q2
        · have hp1 : p1 ≤ N := (gU_U (t := t) (L := L) (fun _ => hG) a cs p1 _ ha (by unfold lU; rw [if_neg nd, if_neg np, if_pos hw, if_neg hL0]; exact q1)).2.1
          refine s_ifeq (pc := 81) (tgt := 108) dX4_readUnit_81 rfl (fun h81 => absurd h81 (by decide)) (fun h81 => ?_)
          refine s_aload_n (pc := 84) (i := 0) dX4_readUnit_84 rfl rfl ?_
          refine s_iload_n (pc := 85) (i := 3) dX4_readUnit_85 rfl rfl ?_
          refine s_ifeq (pc := 86) (tgt := 95) dX4_readUnit_86 rfl (fun h86 => absurd h86 (by decide)) (fun h86 => ?_)
          refine m_si (pc := 89) (v := 2000) dX4_readUnit_89 rfl ?_
          refine s_goto (pc := 92) (tgt := 98) dX4_readUnit_92 rfl ?_
          refine m_v1 (pc := 98) dX4_readUnit_98 lk_X4_28 ok_X4_add (rcO o_18 (by decide) rfl) rfl rfl (c_ad (v := 2000) (tx_f hx q2) q3 (by omega) rfl (fun I2 r1 r2 r3 => kt_s ?_))
          · refine s_ifeq (pc := 101) (tgt := 108) dX4_readUnit_101 rfl (fun h101 => absurd h101 (by decide)) (fun h101 => ?_)
            refine m_ic (pc := 104) (v := 1) dX4_readUnit_104 rfl ?_
            refine s_goto (pc := 105) (tgt := 109) dX4_readUnit_105 rfl ?_
            refine s_ireturn (pc := 109) dX4_readUnit_109 rfl rfl ?_
            exact hg p1 _ I2 wf1 wt1 (by unfold lU; rw [if_neg nd, if_neg np, if_pos hw, if_neg hL0]; rw [q1]; rw [if_pos b11]) (fC_t q2 r1) r3
      · have b11 := wB_f.mpr q
        refine s_istore_n (pc := 61) (i := 3) dX4_readUnit_61 rfl (Nat.le_of_ble_eq_true rfl) ?_
        dsimp only [List.set, List.filter]
        refine s_iload_n (pc := 62) (i := 3) dX4_readUnit_62 rfl rfl ?_
        refine s_ifne (pc := 63) (tgt := 75) dX4_readUnit_63 rfl (fun h63 => absurd h63 (by decide)) (fun h63 => ?_)
        refine s_aload_n (pc := 66) (i := 1) dX4_readUnit_66 rfl rfl ?_
        refine s_ldcS (pc := 67) (j := 12) dX4_readUnit_67 sr_X4_91 rfl ?_
        refine m_v1 (pc := 69) dX4_readUnit_69 lk_X4_87 ok_X10_isWord (rcO o_2 (by decide) rfl) rfl rfl (c_X10_isWord (j := 12) hx (by decide) hw1 hw2 (fun q => kt_s ?_) (fun q => kt_s ?_))
        · have b12 := wB_m.mpr q
          have hw : wB t N a 11 = true ∨ wB t N a 12 = true := Or.inr b12
          refine s_ifeq (pc := 72) (tgt := 110) dX4_readUnit_72 rfl (fun h72 => absurd h72 (by decide)) (fun h72 => ?_)
          refine s_aload_n (pc := 75) (i := 0) dX4_readUnit_75 rfl rfl ?_
          refine s_aload_n (pc := 76) (i := 1) dX4_readUnit_76 rfl rfl ?_
          refine s_iload_n (pc := 77) (i := 2) dX4_readUnit_77 rfl rfl ?_
          refine m_v2 (pc := 78) dX4_readUnit_78 lk_X4_93 ok_X4_readPair (rcO o_18 (by decide) rfl) rfl rfl (c_X4_readPair hS hG ho hx hN hL ha hl (fun e a1 wf1 wt1 I1 q1 q2 => kt_s ?_) (fun p1 c2 I1 wf1 wt1 q1 q2 q3 q4 => kt_s ?_))
          · refine s_ifeq (pc := 81) (tgt := 108) dX4_readUnit_81 rfl (fun h81 => ?_) (fun h81 => absurd h81 (by decide))
            refine m_ic (pc := 108) (v := 0) dX4_readUnit_108 rfl ?_
            refine s_ireturn (pc := 109) dX4_readUnit_109 rfl rfl ?_
            exact hb e a1 wf1 wt1 I1 (by unfold lU; rw [if_neg nd, if_neg np, if_pos hw, if_neg hL0]; exact q1) q2
          · have hp1 : p1 ≤ N := (gU_U (t := t) (L := L) (fun _ => hG) a cs p1 _ ha (by unfold lU; rw [if_neg nd, if_neg np, if_pos hw, if_neg hL0]; exact q1)).2.1
            refine s_ifeq (pc := 81) (tgt := 108) dX4_readUnit_81 rfl (fun h81 => absurd h81 (by decide)) (fun h81 => ?_)
            refine s_aload_n (pc := 84) (i := 0) dX4_readUnit_84 rfl rfl ?_
            refine s_iload_n (pc := 85) (i := 3) dX4_readUnit_85 rfl rfl ?_
            refine s_ifeq (pc := 86) (tgt := 95) dX4_readUnit_86 rfl (fun h86 => ?_) (fun h86 => absurd h86 (by decide))
            refine m_si (pc := 95) (v := 2001) dX4_readUnit_95 rfl ?_
            refine m_v1 (pc := 98) dX4_readUnit_98 lk_X4_28 ok_X4_add (rcO o_18 (by decide) rfl) rfl rfl (c_ad (v := 2001) (tx_f hx q2) q3 (by omega) rfl (fun I2 r1 r2 r3 => kt_s ?_))
            · refine s_ifeq (pc := 101) (tgt := 108) dX4_readUnit_101 rfl (fun h101 => absurd h101 (by decide)) (fun h101 => ?_)
              refine m_ic (pc := 104) (v := 1) dX4_readUnit_104 rfl ?_
              refine s_goto (pc := 105) (tgt := 109) dX4_readUnit_105 rfl ?_
              refine s_ireturn (pc := 109) dX4_readUnit_109 rfl rfl ?_
              exact hg p1 _ I2 wf1 wt1 (by unfold lU; rw [if_neg nd, if_neg np, if_pos hw, if_neg hL0]; rw [q1]; rw [if_neg (by rw [b11]; decide)]) (fC_t q2 r1) r3
        · have b12 := wB_f.mpr q
          have nw : ¬ (wB t N a 11 = true ∨ wB t N a 12 = true) := by rw [b11, b12]; decide
          refine s_ifeq (pc := 72) (tgt := 110) dX4_readUnit_72 rfl (fun h72 => ?_) (fun h72 => absurd h72 (by decide))
          refine s_aload_n (pc := 110) (i := 1) dX4_readUnit_110 rfl rfl ?_
          refine m_s1 (pc := 111) dX4_readUnit_111 lk_X4_96 ok_X4_thingOf rfl rfl (c_X4_thingOf hx hw2 (fun h5 => kt_s ?_) (fun i h5 => kt_s ?_))
          · refine s_istore (pc := 114) (i := 4) dX4_readUnit_114 (Nat.le_of_ble_eq_true rfl) ?_
            dsimp only [List.set, List.filter]
            refine s_iload (pc := 116) (i := 4) dX4_readUnit_116 rfl ?_
            refine m_ic (pc := 118) (v := -1) dX4_readUnit_118 rfl ?_
            refine s_icne (pc := 119) (tgt := 130) dX4_readUnit_119 rfl (fun h119 => absurd h119 (by decide)) (fun h119 => ?_)
            refine s_aload_n (pc := 122) (i := 1) dX4_readUnit_122 rfl rfl ?_
            refine m_ic (pc := 123) (v := 1) dX4_readUnit_123 rfl ?_
            refine m_v1 (pc := 124) dX4_readUnit_124 lk_X4_100 ok_X10_failWord (rcO o_2 (by decide) rfl) rfl rfl (c_X10_failWord (kt_s ?_))
            refine s_goto (pc := 127) (tgt := 136) dX4_readUnit_127 rfl ?_
            refine s_ireturn (pc := 136) dX4_readUnit_136 rfl rfl ?_
            exact hb (1, a) _ _ _ I (by unfold lU; rw [if_neg nd, if_neg np, if_neg nw]; unfold lUw; rw [h5]) fC_r
          · have gi := thW_gt h5
            refine s_istore (pc := 114) (i := 4) dX4_readUnit_114 (Nat.le_of_ble_eq_true rfl) ?_
            dsimp only [List.set, List.filter]
            refine s_iload (pc := 116) (i := 4) dX4_readUnit_116 rfl ?_
            refine m_ic (pc := 118) (v := -1) dX4_readUnit_118 rfl ?_
            refine s_icne (pc := 119) (tgt := 130) dX4_readUnit_119 rfl (fun h119 => ?_) (fun h119 => absurd h119 (nI_m1 (by omega)))
            refine s_aload_n (pc := 130) (i := 0) dX4_readUnit_130 rfl rfl ?_
            refine s_iload (pc := 131) (i := 4) dX4_readUnit_131 rfl ?_
            refine m_v1 (pc := 133) dX4_readUnit_133 lk_X4_28 ok_X4_add (rcO o_18 (by decide) rfl) rfl rfl (c_ad (v := 1000 + i) hx hL (by omega) rfl (fun I2 r1 r2 r3 => kt_s ?_))
            refine s_ireturn (pc := 136) dX4_readUnit_136 rfl rfl ?_
            exact hg _ _ I2 _ _ (by unfold lU; rw [if_neg nd, if_neg np, if_neg nw]; unfold lUw; rw [h5]) r1 r3
theorem c_sumL : ∀ L, L ≤ 6 → cRd g mX4_readSum (2 + 4 * L + 6) t N (lS t N L) (nI (6 - L))
  | 0, _ => c_X4_readSum (k := 1) (c_X4_readProduct (k := 0) c_unit6 (gU_U (fun h => absurd rfl h))) (gU_F (gU_U (fun h => absurd rfl h)))
  | L + 1, h => by
    have ih := c_sumL L (by omega)
    rw [show 6 - L = (6 - (L + 1)) + 1 by omega] at ih
    have u := c_unit (g := g) (t := t) (N := N) (k := 2 + 4 * L) (o := 6 - (L + 1)) (L := L + 1) ih (gU_S L) (by omega) (by omega)
    have q := c_X4_readProduct (k := 2 + 4 * L + 2) u (gU_U (fun _ => gU_S L))
    have s := c_X4_readSum (k := 2 + 4 * L + 3) q (gU_F (gU_U (fun _ => gU_S L)))
    exact s
end S
