section S
variable {g : aG} {d : Nat} {I : Nat → Nat → Int32} {J : Nat → Nat → Int64} {n w : Nat} {Q : aO → aS → Prop}
variable {t : Nat → Nat} {N a s : Nat} {bad bk op : Int32} {σ : aS} {D : cD} {β : Type}
theorem c_mstep0 {mn : β → Nat} {sp : (Nat → Int32) → β → Nat → Prop} {R : Nat → eT β} : cMs g 6 t N D mn sp (stR t N (cb D) (cc D) false R) (nI 6) := by
  intro d I J n w Q a bk s hm ha hN h17 h18 hk hs hs2 hb hg
  have hc7 := hk.1
  have hc12 := hk.2.1
  have hsk := sk_le (t := t) ha
  have hwE := wE_le (t := t) hsk
  have hwg := wE_ge (t := t) (N := N) (a := sk t N a)
  show Rn g (d + 6) mX12_readStep 0 [.ref 534, .retAddr 0, .retAddr 0] [] [] (Z (mp I a (-1) bk (nI 6)) J n w) Q
  refine s_aload_n (pc := 0) (i := 0) dX12_readStep_0 rfl rfl ?_
  refine m_v0 (pc := 1) dX12_readStep_1 lk_X12_208 ok_X12_wordHere (rcO o_534 (by decide) rfl) rfl rfl (c_X12_wordHere hm ha (kt_s ?_))
  refine m_s1 (pc := 4) dX12_readStep_4 lk_X12_301 ok_X12_stepOf rfl rfl (c_X12_stepOf (fun x13 => kt_s ?_) (fun x13 x14 => kt_s ?_) (fun x13 x14 x15 => kt_s ?_) (fun x13 x14 x15 x16 => kt_s ?_) (fun x13 x14 x15 x16 x10 => kt_s ?_) (fun x13 x14 x15 x16 x10 x17 => kt_s ?_) (fun x13 x14 x15 x16 x10 x17 => kt_s ?_))
  · have b13 : wB t N (sk t N a) 13 = true := wB_m.mpr ((wv_oc hsk (by decide) (by decide +kernel)).mp x13)
    refine s_istore_n (pc := 7) (i := 1) dX12_readStep_7 rfl (Nat.le_of_ble_eq_true rfl) ?_
    dsimp only [List.set, List.filter]
    refine s_iload_n (pc := 8) (i := 1) dX12_readStep_8 rfl rfl ?_
    refine m_ic (pc := 9) (v := -1) dX12_readStep_9 rfl ?_
    refine s_icne (pc := 10) (tgt := 25) dX12_readStep_10 rfl (fun h10 => ?_) (fun h10 => absurd h10 (by decide))
    refine s_iload_n (pc := 25) (i := 1) dX12_readStep_25 rfl rfl ?_
    refine m_ic (pc := 26) (v := 5) dX12_readStep_26 rfl ?_
    refine s_icne (pc := 27) (tgt := 37) dX12_readStep_27 rfl (fun h27 => ?_) (fun h27 => absurd h27 (by decide))
    refine s_aload_n (pc := 37) (i := 0) dX12_readStep_37 rfl rfl ?_
    refine m_v0 (pc := 38) dX12_readStep_38 lk_X12_217 ok_X12_pass (rcO o_534 (by decide) rfl) rfl rfl (c_X12_pass hm hsk (kt_v ?_))
    refine s_iload_n (pc := 41) (i := 1) dX12_readStep_41 rfl rfl ?_
    refine m_ic (pc := 42) (v := 4) dX12_readStep_42 rfl ?_
    refine s_icne (pc := 43) (tgt := 50) dX12_readStep_43 rfl (fun h43 => ?_) (fun h43 => absurd h43 (by decide))
    refine s_iload_n (pc := 50) (i := 1) dX12_readStep_50 rfl rfl ?_
    refine m_ic (pc := 51) (v := 2) dX12_readStep_51 rfl ?_
    refine s_icne (pc := 52) (tgt := 65) dX12_readStep_52 rfl (fun h52 => ?_) (fun h52 => absurd h52 (by decide))
    refine s_aload_n (pc := 65) (i := 0) dX12_readStep_65 rfl rfl ?_
    refine m_v0 (pc := 66) dX12_readStep_66 lk_X12_307 ok_X12_readBack (rcO o_534 (by decide) rfl) rfl rfl (c_X12_readBack h17 (by omega) hm hwE (fun e a1 q1 q2 q3 => kt_s ?_) (fun v a1 q1 q2 q3 q4 => kt_s ?_))
    · have hbad : nI e.2 ≠ -1 := (nI_m1 (by omega))
      refine s_istore_n (pc := 69) (i := 2) dX12_readStep_69 rfl (Nat.le_of_ble_eq_true rfl) ?_
      dsimp only [List.set, List.filter]
      refine s_aload_n (pc := 70) (i := 0) dX12_readStep_70 rfl rfl ?_
      refine s_iload_n (pc := 71) (i := 1) dX12_readStep_71 rfl rfl ?_
      refine s_iload_n (pc := 72) (i := 2) dX12_readStep_72 rfl rfl ?_
      refine s_iload_n (pc := 73) (i := 1) dX12_readStep_73 rfl rfl ?_
      refine s_ifne (pc := 74) (tgt := 91) dX12_readStep_74 rfl (fun h74 => absurd h74 (by decide)) (fun h74 => ?_)
      refine s_aload_n (pc := 77) (i := 0) dX12_readStep_77 rfl rfl ?_
      refine m_ic (pc := 78) (v := 0) dX12_readStep_78 rfl ?_
      refine s_aload_n (pc := 79) (i := 0) dX12_readStep_79 rfl rfl ?_
      refine m_gi (pc := 80) dX12_readStep_80 ff_X12_157 rfl o_534 ?_
      refine m_nm (v' := nI (cc D)) (by rw [mp_x (by decide)]; exact h18) ?_
      refine m_ic (pc := 83) (v := 1) dX12_readStep_83 rfl ?_
      refine s_isub (pc := 84) dX12_readStep_84 ?_
      refine m_v2 (pc := 85) dX12_readStep_85 lk_X12_188 ok_X12_readNumber (rcO o_534 (by decide) rfl) rfl rfl (c_X12_readNumber_n hbad (kt_s ?_))
      · refine s_goto (pc := 88) (tgt := 104) dX12_readStep_88 rfl ?_
        refine m_v3 (pc := 104) dX12_readStep_104 lk_X12_294 ok_X12_tellsStep (rcO o_534 (by decide) rfl) rfl rfl (c_tells_n hbad (kt_v ?_))
        refine s_aload_n (pc := 107) (i := 0) dX12_readStep_107 rfl rfl ?_
        refine m_bi (pc := 108) (v := 59) dX12_readStep_108 rfl ?_
        refine m_v1 (pc := 110) dX12_readStep_110 lk_X12_223 ok_X12_sign (rcO o_534 (by decide) rfl) rfl rfl (c_X12_sign_n hbad (kt_v ?_))
        refine s_return (pc := 113) dX12_readStep_113 rfl ?_
        have E : stR t N (cb D) (cc D) false R (sk t N a) = .inl e := by unfold stR; rw [if_pos b13]; unfold num2; rw [q1]
        exact hb e _ I _ (by unfold itS; rw [E]) fM_r q3
    · refine s_istore_n (pc := 69) (i := 2) dX12_readStep_69 rfl (Nat.le_of_ble_eq_true rfl) ?_
      dsimp only [List.set, List.filter]
      refine s_aload_n (pc := 70) (i := 0) dX12_readStep_70 rfl rfl ?_
      refine s_iload_n (pc := 71) (i := 1) dX12_readStep_71 rfl rfl ?_
      refine s_iload_n (pc := 72) (i := 2) dX12_readStep_72 rfl rfl ?_
      refine s_iload_n (pc := 73) (i := 1) dX12_readStep_73 rfl rfl ?_
      refine s_ifne (pc := 74) (tgt := 91) dX12_readStep_74 rfl (fun h74 => absurd h74 (by decide)) (fun h74 => ?_)
      refine s_aload_n (pc := 77) (i := 0) dX12_readStep_77 rfl rfl ?_
      refine m_ic (pc := 78) (v := 0) dX12_readStep_78 rfl ?_
      refine s_aload_n (pc := 79) (i := 0) dX12_readStep_79 rfl rfl ?_
      refine m_gi (pc := 80) dX12_readStep_80 ff_X12_157 rfl o_534 ?_
      refine m_nm (v' := nI (cc D)) (by rw [mp_x (by decide)]; exact h18) ?_
      refine m_ic (pc := 83) (v := 1) dX12_readStep_83 rfl ?_
      refine s_isub (pc := 84) dX12_readStep_84 ?_
      refine m_v2 (pc := 85) dX12_readStep_85 lk_X12_188 ok_X12_readNumber (rcO o_534 (by decide) rfl) rfl rfl (c_rn2 hm q3 (lo1 := 0) (hi1 := cc D) rfl rfl (by omega) (fun e a2 u1 u2 u3 => kt_s ?_) (fun u a2 u1 u2 u3 u4 u5 => kt_s ?_))
      · have hbad : nI e.2 ≠ -1 := (nI_m1 (by omega))
        refine s_goto (pc := 88) (tgt := 104) dX12_readStep_88 rfl ?_
        refine m_v3 (pc := 104) dX12_readStep_104 lk_X12_294 ok_X12_tellsStep (rcO o_534 (by decide) rfl) rfl rfl (c_tells_n hbad (kt_v ?_))
        refine s_aload_n (pc := 107) (i := 0) dX12_readStep_107 rfl rfl ?_
        refine m_bi (pc := 108) (v := 59) dX12_readStep_108 rfl ?_
        refine m_v1 (pc := 110) dX12_readStep_110 lk_X12_223 ok_X12_sign (rcO o_534 (by decide) rfl) rfl rfl (c_X12_sign_n hbad (kt_v ?_))
        refine s_return (pc := 113) dX12_readStep_113 rfl ?_
        have E : stR t N (cb D) (cc D) false R (sk t N a) = .inl e := by unfold stR; rw [if_pos b13]; unfold num2; rw [q1]; simp only []; rw [u1]
        exact hb e _ I _ (by unfold itS; rw [E]) fM_r u3
      · refine s_goto (pc := 88) (tgt := 104) dX12_readStep_88 rfl ?_
        refine m_v3 (pc := 104) dX12_readStep_104 lk_X12_294 ok_X12_tellsStep (rcO o_534 (by decide) rfl) rfl rfl (c_X12_tellsStep hm hs (by omega) (fun I1 f1 x1 f2 w1 w2 w3 w4 => kt_v ?_))
        · refine s_aload_n (pc := 107) (i := 0) dX12_readStep_107 rfl rfl ?_
          refine m_bi (pc := 108) (v := 59) dX12_readStep_108 rfl ?_
          refine m_v1 (pc := 110) dX12_readStep_110 lk_X12_223 ok_X12_sign (rcO o_534 (by decide) rfl) rfl rfl (c_sg (c := 59) (mx_f hm f1) u4 (by decide) (by decide) rfl (fun a9 r1 r2 r3 => kt_v ?_) (fun e r1 r2 r3 => kt_v ?_))
          · have E : stR t N (cb D) (cc D) false R (sk t N a) = .inr (sk t N a2, .inl (0, v, u)) := by unfold stR; rw [if_pos b13]; unfold num2; rw [q1]; simp only []; rw [u1]
            refine s_return (pc := 113) dX12_readStep_113 rfl ?_
            exact hg a9 (.inl (0, v, u)) I1 (by unfold itS; rw [E]; simp only []; rw [r1]) r2 f1 f2 w1 ⟨w2, w3, w4, trivial⟩
          · have E : stR t N (cb D) (cc D) false R (sk t N a) = .inr (sk t N a2, .inl (0, v, u)) := by unfold stR; rw [if_pos b13]; unfold num2; rw [q1]; simp only []; rw [u1]
            refine s_return (pc := 113) dX12_readStep_113 rfl ?_
            exact hb e _ I1 _ (by unfold itS; rw [E]; simp only []; rw [r1]) f1 r3
  · have b13 : wB t N (sk t N a) 13 = false := wB_f.mpr (fun z => x13 ((wv_oc hsk (by decide) (by decide +kernel)).mpr z))
    have b14 : wB t N (sk t N a) 14 = true := wB_m.mpr ((wv_oc hsk (by decide) (by decide +kernel)).mp x14)
    refine s_istore_n (pc := 7) (i := 1) dX12_readStep_7 rfl (Nat.le_of_ble_eq_true rfl) ?_
    dsimp only [List.set, List.filter]
    refine s_iload_n (pc := 8) (i := 1) dX12_readStep_8 rfl rfl ?_
    refine m_ic (pc := 9) (v := -1) dX12_readStep_9 rfl ?_
    refine s_icne (pc := 10) (tgt := 25) dX12_readStep_10 rfl (fun h10 => ?_) (fun h10 => absurd h10 (by decide))
    refine s_iload_n (pc := 25) (i := 1) dX12_readStep_25 rfl rfl ?_
    refine m_ic (pc := 26) (v := 5) dX12_readStep_26 rfl ?_
    refine s_icne (pc := 27) (tgt := 37) dX12_readStep_27 rfl (fun h27 => ?_) (fun h27 => absurd h27 (by decide))
    refine s_aload_n (pc := 37) (i := 0) dX12_readStep_37 rfl rfl ?_
    refine m_v0 (pc := 38) dX12_readStep_38 lk_X12_217 ok_X12_pass (rcO o_534 (by decide) rfl) rfl rfl (c_X12_pass hm hsk (kt_v ?_))
    refine s_iload_n (pc := 41) (i := 1) dX12_readStep_41 rfl rfl ?_
    refine m_ic (pc := 42) (v := 4) dX12_readStep_42 rfl ?_
    refine s_icne (pc := 43) (tgt := 50) dX12_readStep_43 rfl (fun h43 => ?_) (fun h43 => absurd h43 (by decide))
    refine s_iload_n (pc := 50) (i := 1) dX12_readStep_50 rfl rfl ?_
    refine m_ic (pc := 51) (v := 2) dX12_readStep_51 rfl ?_
    refine s_icne (pc := 52) (tgt := 65) dX12_readStep_52 rfl (fun h52 => ?_) (fun h52 => absurd h52 (by decide))
    refine s_aload_n (pc := 65) (i := 0) dX12_readStep_65 rfl rfl ?_
    refine m_v0 (pc := 66) dX12_readStep_66 lk_X12_307 ok_X12_readBack (rcO o_534 (by decide) rfl) rfl rfl (c_X12_readBack h17 (by omega) hm hwE (fun e a1 q1 q2 q3 => kt_s ?_) (fun v a1 q1 q2 q3 q4 => kt_s ?_))
    · have hbad : nI e.2 ≠ -1 := (nI_m1 (by omega))
      refine s_istore_n (pc := 69) (i := 2) dX12_readStep_69 rfl (Nat.le_of_ble_eq_true rfl) ?_
      dsimp only [List.set, List.filter]
      refine s_aload_n (pc := 70) (i := 0) dX12_readStep_70 rfl rfl ?_
      refine s_iload_n (pc := 71) (i := 1) dX12_readStep_71 rfl rfl ?_
      refine s_iload_n (pc := 72) (i := 2) dX12_readStep_72 rfl rfl ?_
      refine s_iload_n (pc := 73) (i := 1) dX12_readStep_73 rfl rfl ?_
      refine s_ifne (pc := 74) (tgt := 91) dX12_readStep_74 rfl (fun h74 => ?_) (fun h74 => absurd h74 (by decide))
      refine s_iload_n (pc := 91) (i := 1) dX12_readStep_91 rfl rfl ?_
      refine m_ic (pc := 92) (v := 1) dX12_readStep_92 rfl ?_
      refine s_icne (pc := 93) (tgt := 103) dX12_readStep_93 rfl (fun h93 => absurd h93 (by decide)) (fun h93 => ?_)
      refine s_aload_n (pc := 96) (i := 0) dX12_readStep_96 rfl rfl ?_
      refine m_v0 (pc := 97) dX12_readStep_97 lk_X12_307 ok_X12_readBack (rcO o_534 (by decide) rfl) rfl rfl (c_readBack_n h17 hbad (kt_s ?_))
      · refine s_goto (pc := 100) (tgt := 104) dX12_readStep_100 rfl ?_
        refine m_v3 (pc := 104) dX12_readStep_104 lk_X12_294 ok_X12_tellsStep (rcO o_534 (by decide) rfl) rfl rfl (c_tells_n hbad (kt_v ?_))
        refine s_aload_n (pc := 107) (i := 0) dX12_readStep_107 rfl rfl ?_
        refine m_bi (pc := 108) (v := 59) dX12_readStep_108 rfl ?_
        refine m_v1 (pc := 110) dX12_readStep_110 lk_X12_223 ok_X12_sign (rcO o_534 (by decide) rfl) rfl rfl (c_X12_sign_n hbad (kt_v ?_))
        refine s_return (pc := 113) dX12_readStep_113 rfl ?_
        have E : stR t N (cb D) (cc D) false R (sk t N a) = .inl e := by unfold stR; rw [if_neg (by rw [b13]; decide), if_pos b14]; unfold num2; rw [q1]
        exact hb e _ I _ (by unfold itS; rw [E]) fM_r q3
    · refine s_istore_n (pc := 69) (i := 2) dX12_readStep_69 rfl (Nat.le_of_ble_eq_true rfl) ?_
      dsimp only [List.set, List.filter]
      refine s_aload_n (pc := 70) (i := 0) dX12_readStep_70 rfl rfl ?_
      refine s_iload_n (pc := 71) (i := 1) dX12_readStep_71 rfl rfl ?_
      refine s_iload_n (pc := 72) (i := 2) dX12_readStep_72 rfl rfl ?_
      refine s_iload_n (pc := 73) (i := 1) dX12_readStep_73 rfl rfl ?_
      refine s_ifne (pc := 74) (tgt := 91) dX12_readStep_74 rfl (fun h74 => ?_) (fun h74 => absurd h74 (by decide))
      refine s_iload_n (pc := 91) (i := 1) dX12_readStep_91 rfl rfl ?_
      refine m_ic (pc := 92) (v := 1) dX12_readStep_92 rfl ?_
      refine s_icne (pc := 93) (tgt := 103) dX12_readStep_93 rfl (fun h93 => absurd h93 (by decide)) (fun h93 => ?_)
      refine s_aload_n (pc := 96) (i := 0) dX12_readStep_96 rfl rfl ?_
      refine m_v0 (pc := 97) dX12_readStep_97 lk_X12_307 ok_X12_readBack (rcO o_534 (by decide) rfl) rfl rfl (c_X12_readBack h17 (by omega) hm q3 (fun e a2 u1 u2 u3 => kt_s ?_) (fun u a2 u1 u3 u4 u5 => kt_s ?_))
      · have hbad : nI e.2 ≠ -1 := (nI_m1 (by omega))
        refine s_goto (pc := 100) (tgt := 104) dX12_readStep_100 rfl ?_
        refine m_v3 (pc := 104) dX12_readStep_104 lk_X12_294 ok_X12_tellsStep (rcO o_534 (by decide) rfl) rfl rfl (c_tells_n hbad (kt_v ?_))
        refine s_aload_n (pc := 107) (i := 0) dX12_readStep_107 rfl rfl ?_
        refine m_bi (pc := 108) (v := 59) dX12_readStep_108 rfl ?_
        refine m_v1 (pc := 110) dX12_readStep_110 lk_X12_223 ok_X12_sign (rcO o_534 (by decide) rfl) rfl rfl (c_X12_sign_n hbad (kt_v ?_))
        refine s_return (pc := 113) dX12_readStep_113 rfl ?_
        have E : stR t N (cb D) (cc D) false R (sk t N a) = .inl e := by unfold stR; rw [if_neg (by rw [b13]; decide), if_pos b14]; unfold num2; rw [q1]; simp only []; rw [u1]
        exact hb e _ I _ (by unfold itS; rw [E]) fM_r u3
      · refine s_goto (pc := 100) (tgt := 104) dX12_readStep_100 rfl ?_
        refine m_v3 (pc := 104) dX12_readStep_104 lk_X12_294 ok_X12_tellsStep (rcO o_534 (by decide) rfl) rfl rfl (c_X12_tellsStep hm hs (by omega) (fun I1 f1 x1 f2 w1 w2 w3 w4 => kt_v ?_))
        · refine s_aload_n (pc := 107) (i := 0) dX12_readStep_107 rfl rfl ?_
          refine m_bi (pc := 108) (v := 59) dX12_readStep_108 rfl ?_
          refine m_v1 (pc := 110) dX12_readStep_110 lk_X12_223 ok_X12_sign (rcO o_534 (by decide) rfl) rfl rfl (c_sg (c := 59) (mx_f hm f1) u4 (by decide) (by decide) rfl (fun a9 r1 r2 r3 => kt_v ?_) (fun e r1 r2 r3 => kt_v ?_))
          · have E : stR t N (cb D) (cc D) false R (sk t N a) = .inr (sk t N a2, .inl (1, v, u)) := by unfold stR; rw [if_neg (by rw [b13]; decide), if_pos b14]; unfold num2; rw [q1]; simp only []; rw [u1]
            refine s_return (pc := 113) dX12_readStep_113 rfl ?_
            exact hg a9 (.inl (1, v, u)) I1 (by unfold itS; rw [E]; simp only []; rw [r1]) r2 f1 f2 w1 ⟨w2, w3, w4, trivial⟩
          · have E : stR t N (cb D) (cc D) false R (sk t N a) = .inr (sk t N a2, .inl (1, v, u)) := by unfold stR; rw [if_neg (by rw [b13]; decide), if_pos b14]; unfold num2; rw [q1]; simp only []; rw [u1]
            refine s_return (pc := 113) dX12_readStep_113 rfl ?_
            exact hb e _ I1 _ (by unfold itS; rw [E]; simp only []; rw [r1]) f1 r3
  · have b13 : wB t N (sk t N a) 13 = false := wB_f.mpr (fun z => x13 ((wv_oc hsk (by decide) (by decide +kernel)).mpr z))
    have b14 : wB t N (sk t N a) 14 = false := wB_f.mpr (fun z => x14 ((wv_oc hsk (by decide) (by decide +kernel)).mpr z))
    have b15 : wB t N (sk t N a) 15 = true := wB_m.mpr ((wv_oc hsk (by decide) (by decide +kernel)).mp x15)
    refine s_istore_n (pc := 7) (i := 1) dX12_readStep_7 rfl (Nat.le_of_ble_eq_true rfl) ?_
    dsimp only [List.set, List.filter]
    refine s_iload_n (pc := 8) (i := 1) dX12_readStep_8 rfl rfl ?_
    refine m_ic (pc := 9) (v := -1) dX12_readStep_9 rfl ?_
    refine s_icne (pc := 10) (tgt := 25) dX12_readStep_10 rfl (fun h10 => ?_) (fun h10 => absurd h10 (by decide))
    refine s_iload_n (pc := 25) (i := 1) dX12_readStep_25 rfl rfl ?_
    refine m_ic (pc := 26) (v := 5) dX12_readStep_26 rfl ?_
    refine s_icne (pc := 27) (tgt := 37) dX12_readStep_27 rfl (fun h27 => ?_) (fun h27 => absurd h27 (by decide))
    refine s_aload_n (pc := 37) (i := 0) dX12_readStep_37 rfl rfl ?_
    refine m_v0 (pc := 38) dX12_readStep_38 lk_X12_217 ok_X12_pass (rcO o_534 (by decide) rfl) rfl rfl (c_X12_pass hm hsk (kt_v ?_))
    refine s_iload_n (pc := 41) (i := 1) dX12_readStep_41 rfl rfl ?_
    refine m_ic (pc := 42) (v := 4) dX12_readStep_42 rfl ?_
    refine s_icne (pc := 43) (tgt := 50) dX12_readStep_43 rfl (fun h43 => ?_) (fun h43 => absurd h43 (by decide))
    refine s_iload_n (pc := 50) (i := 1) dX12_readStep_50 rfl rfl ?_
    refine m_ic (pc := 51) (v := 2) dX12_readStep_51 rfl ?_
    refine s_icne (pc := 52) (tgt := 65) dX12_readStep_52 rfl (fun h52 => absurd h52 (by decide)) (fun h52 => ?_)
    refine s_aload_n (pc := 55) (i := 0) dX12_readStep_55 rfl rfl ?_
    refine m_ic (pc := 56) (v := 0) dX12_readStep_56 rfl ?_
    refine m_bi (pc := 57) (v := 40) dX12_readStep_57 rfl ?_
    refine m_v2 (pc := 59) dX12_readStep_59 lk_X12_188 ok_X12_readNumber (rcO o_534 (by decide) rfl) rfl rfl (c_rn2 hm hwE (lo1 := 0) (hi1 := 41) rfl rfl (by decide) (fun e a1 q1 q2 q3 => kt_s ?_) (fun v a1 q1 q2 q3 q4 q5 => kt_s ?_))
    · have hbad : nI e.2 ≠ -1 := (nI_m1 (by omega))
      refine s_goto (pc := 62) (tgt := 69) dX12_readStep_62 rfl ?_
      refine s_istore_n (pc := 69) (i := 2) dX12_readStep_69 rfl (Nat.le_of_ble_eq_true rfl) ?_
      dsimp only [List.set, List.filter]
      refine s_aload_n (pc := 70) (i := 0) dX12_readStep_70 rfl rfl ?_
      refine s_iload_n (pc := 71) (i := 1) dX12_readStep_71 rfl rfl ?_
      refine s_iload_n (pc := 72) (i := 2) dX12_readStep_72 rfl rfl ?_
      refine s_iload_n (pc := 73) (i := 1) dX12_readStep_73 rfl rfl ?_
      refine s_ifne (pc := 74) (tgt := 91) dX12_readStep_74 rfl (fun h74 => ?_) (fun h74 => absurd h74 (by decide))
      refine s_iload_n (pc := 91) (i := 1) dX12_readStep_91 rfl rfl ?_
      refine m_ic (pc := 92) (v := 1) dX12_readStep_92 rfl ?_
      refine s_icne (pc := 93) (tgt := 103) dX12_readStep_93 rfl (fun h93 => ?_) (fun h93 => absurd h93 (by decide))
      refine m_ic (pc := 103) (v := 0) dX12_readStep_103 rfl ?_
      refine m_v3 (pc := 104) dX12_readStep_104 lk_X12_294 ok_X12_tellsStep (rcO o_534 (by decide) rfl) rfl rfl (c_tells_n hbad (kt_v ?_))
      refine s_aload_n (pc := 107) (i := 0) dX12_readStep_107 rfl rfl ?_
      refine m_bi (pc := 108) (v := 59) dX12_readStep_108 rfl ?_
      refine m_v1 (pc := 110) dX12_readStep_110 lk_X12_223 ok_X12_sign (rcO o_534 (by decide) rfl) rfl rfl (c_X12_sign_n hbad (kt_v ?_))
      refine s_return (pc := 113) dX12_readStep_113 rfl ?_
      have E : stR t N (cb D) (cc D) false R (sk t N a) = .inl e := by unfold stR; rw [if_neg (by rw [b13]; decide), if_neg (by rw [b14]; decide), if_pos b15]; unfold num1; rw [q1]
      exact hb e _ I _ (by unfold itS; rw [E]) fM_r q3
    · refine s_goto (pc := 62) (tgt := 69) dX12_readStep_62 rfl ?_
      refine s_istore_n (pc := 69) (i := 2) dX12_readStep_69 rfl (Nat.le_of_ble_eq_true rfl) ?_
      dsimp only [List.set, List.filter]
      refine s_aload_n (pc := 70) (i := 0) dX12_readStep_70 rfl rfl ?_
      refine s_iload_n (pc := 71) (i := 1) dX12_readStep_71 rfl rfl ?_
      refine s_iload_n (pc := 72) (i := 2) dX12_readStep_72 rfl rfl ?_
      refine s_iload_n (pc := 73) (i := 1) dX12_readStep_73 rfl rfl ?_
      refine s_ifne (pc := 74) (tgt := 91) dX12_readStep_74 rfl (fun h74 => ?_) (fun h74 => absurd h74 (by decide))
      refine s_iload_n (pc := 91) (i := 1) dX12_readStep_91 rfl rfl ?_
      refine m_ic (pc := 92) (v := 1) dX12_readStep_92 rfl ?_
      refine s_icne (pc := 93) (tgt := 103) dX12_readStep_93 rfl (fun h93 => ?_) (fun h93 => absurd h93 (by decide))
      refine m_ic (pc := 103) (v := 0) dX12_readStep_103 rfl ?_
      refine m_v3 (pc := 104) dX12_readStep_104 lk_X12_294 ok_X12_tellsStep (rcO o_534 (by decide) rfl) rfl rfl (c_X12_tellsStep hm hs (by omega) (fun I1 f1 x1 f2 w1 w2 w3 w4 => kt_v ?_))
      · refine s_aload_n (pc := 107) (i := 0) dX12_readStep_107 rfl rfl ?_
        refine m_bi (pc := 108) (v := 59) dX12_readStep_108 rfl ?_
        refine m_v1 (pc := 110) dX12_readStep_110 lk_X12_223 ok_X12_sign (rcO o_534 (by decide) rfl) rfl rfl (c_sg (c := 59) (mx_f hm f1) q4 (by decide) (by decide) rfl (fun a9 r1 r2 r3 => kt_v ?_) (fun e r1 r2 r3 => kt_v ?_))
        · have E : stR t N (cb D) (cc D) false R (sk t N a) = .inr (sk t N a1, .inl (2, v, 0)) := by unfold stR; rw [if_neg (by rw [b13]; decide), if_neg (by rw [b14]; decide), if_pos b15]; unfold num1; rw [q1]
          refine s_return (pc := 113) dX12_readStep_113 rfl ?_
          exact hg a9 (.inl (2, v, 0)) I1 (by unfold itS; rw [E]; simp only []; rw [r1]) r2 f1 f2 w1 ⟨w2, w3, w4, trivial⟩
        · have E : stR t N (cb D) (cc D) false R (sk t N a) = .inr (sk t N a1, .inl (2, v, 0)) := by unfold stR; rw [if_neg (by rw [b13]; decide), if_neg (by rw [b14]; decide), if_pos b15]; unfold num1; rw [q1]
          refine s_return (pc := 113) dX12_readStep_113 rfl ?_
          exact hb e _ I1 _ (by unfold itS; rw [E]; simp only []; rw [r1]) f1 r3
  · have b13 : wB t N (sk t N a) 13 = false := wB_f.mpr (fun z => x13 ((wv_oc hsk (by decide) (by decide +kernel)).mpr z))
    have b14 : wB t N (sk t N a) 14 = false := wB_f.mpr (fun z => x14 ((wv_oc hsk (by decide) (by decide +kernel)).mpr z))
    have b15 : wB t N (sk t N a) 15 = false := wB_f.mpr (fun z => x15 ((wv_oc hsk (by decide) (by decide +kernel)).mpr z))
    have b16 : wB t N (sk t N a) 16 = true := wB_m.mpr ((wv_oc hsk (by decide) (by decide +kernel)).mp x16)
    refine s_istore_n (pc := 7) (i := 1) dX12_readStep_7 rfl (Nat.le_of_ble_eq_true rfl) ?_
    dsimp only [List.set, List.filter]
    refine s_iload_n (pc := 8) (i := 1) dX12_readStep_8 rfl rfl ?_
    refine m_ic (pc := 9) (v := -1) dX12_readStep_9 rfl ?_
    refine s_icne (pc := 10) (tgt := 25) dX12_readStep_10 rfl (fun h10 => ?_) (fun h10 => absurd h10 (by decide))
    refine s_iload_n (pc := 25) (i := 1) dX12_readStep_25 rfl rfl ?_
    refine m_ic (pc := 26) (v := 5) dX12_readStep_26 rfl ?_
    refine s_icne (pc := 27) (tgt := 37) dX12_readStep_27 rfl (fun h27 => ?_) (fun h27 => absurd h27 (by decide))
    refine s_aload_n (pc := 37) (i := 0) dX12_readStep_37 rfl rfl ?_
    refine m_v0 (pc := 38) dX12_readStep_38 lk_X12_217 ok_X12_pass (rcO o_534 (by decide) rfl) rfl rfl (c_X12_pass hm hsk (kt_v ?_))
    refine s_iload_n (pc := 41) (i := 1) dX12_readStep_41 rfl rfl ?_
    refine m_ic (pc := 42) (v := 4) dX12_readStep_42 rfl ?_
    refine s_icne (pc := 43) (tgt := 50) dX12_readStep_43 rfl (fun h43 => ?_) (fun h43 => absurd h43 (by decide))
    refine s_iload_n (pc := 50) (i := 1) dX12_readStep_50 rfl rfl ?_
    refine m_ic (pc := 51) (v := 2) dX12_readStep_51 rfl ?_
    refine s_icne (pc := 52) (tgt := 65) dX12_readStep_52 rfl (fun h52 => ?_) (fun h52 => absurd h52 (by decide))
    refine s_aload_n (pc := 65) (i := 0) dX12_readStep_65 rfl rfl ?_
    refine m_v0 (pc := 66) dX12_readStep_66 lk_X12_307 ok_X12_readBack (rcO o_534 (by decide) rfl) rfl rfl (c_X12_readBack h17 (by omega) hm hwE (fun e a1 q1 q2 q3 => kt_s ?_) (fun v a1 q1 q2 q3 q4 => kt_s ?_))
    · have hbad : nI e.2 ≠ -1 := (nI_m1 (by omega))
      refine s_istore_n (pc := 69) (i := 2) dX12_readStep_69 rfl (Nat.le_of_ble_eq_true rfl) ?_
      dsimp only [List.set, List.filter]
      refine s_aload_n (pc := 70) (i := 0) dX12_readStep_70 rfl rfl ?_
      refine s_iload_n (pc := 71) (i := 1) dX12_readStep_71 rfl rfl ?_
      refine s_iload_n (pc := 72) (i := 2) dX12_readStep_72 rfl rfl ?_
      refine s_iload_n (pc := 73) (i := 1) dX12_readStep_73 rfl rfl ?_
      refine s_ifne (pc := 74) (tgt := 91) dX12_readStep_74 rfl (fun h74 => ?_) (fun h74 => absurd h74 (by decide))
      refine s_iload_n (pc := 91) (i := 1) dX12_readStep_91 rfl rfl ?_
      refine m_ic (pc := 92) (v := 1) dX12_readStep_92 rfl ?_
      refine s_icne (pc := 93) (tgt := 103) dX12_readStep_93 rfl (fun h93 => ?_) (fun h93 => absurd h93 (by decide))
      refine m_ic (pc := 103) (v := 0) dX12_readStep_103 rfl ?_
      refine m_v3 (pc := 104) dX12_readStep_104 lk_X12_294 ok_X12_tellsStep (rcO o_534 (by decide) rfl) rfl rfl (c_tells_n hbad (kt_v ?_))
      refine s_aload_n (pc := 107) (i := 0) dX12_readStep_107 rfl rfl ?_
      refine m_bi (pc := 108) (v := 59) dX12_readStep_108 rfl ?_
      refine m_v1 (pc := 110) dX12_readStep_110 lk_X12_223 ok_X12_sign (rcO o_534 (by decide) rfl) rfl rfl (c_X12_sign_n hbad (kt_v ?_))
      refine s_return (pc := 113) dX12_readStep_113 rfl ?_
      have E : stR t N (cb D) (cc D) false R (sk t N a) = .inl e := by unfold stR; rw [if_neg (by rw [b13]; decide), if_neg (by rw [b14]; decide), if_neg (by rw [b15]; decide), if_pos b16]; unfold num1; rw [q1]
      exact hb e _ I _ (by unfold itS; rw [E]) fM_r q3
    · refine s_istore_n (pc := 69) (i := 2) dX12_readStep_69 rfl (Nat.le_of_ble_eq_true rfl) ?_
      dsimp only [List.set, List.filter]
      refine s_aload_n (pc := 70) (i := 0) dX12_readStep_70 rfl rfl ?_
      refine s_iload_n (pc := 71) (i := 1) dX12_readStep_71 rfl rfl ?_
      refine s_iload_n (pc := 72) (i := 2) dX12_readStep_72 rfl rfl ?_
      refine s_iload_n (pc := 73) (i := 1) dX12_readStep_73 rfl rfl ?_
      refine s_ifne (pc := 74) (tgt := 91) dX12_readStep_74 rfl (fun h74 => ?_) (fun h74 => absurd h74 (by decide))
      refine s_iload_n (pc := 91) (i := 1) dX12_readStep_91 rfl rfl ?_
      refine m_ic (pc := 92) (v := 1) dX12_readStep_92 rfl ?_
      refine s_icne (pc := 93) (tgt := 103) dX12_readStep_93 rfl (fun h93 => ?_) (fun h93 => absurd h93 (by decide))
      refine m_ic (pc := 103) (v := 0) dX12_readStep_103 rfl ?_
      refine m_v3 (pc := 104) dX12_readStep_104 lk_X12_294 ok_X12_tellsStep (rcO o_534 (by decide) rfl) rfl rfl (c_X12_tellsStep hm hs (by omega) (fun I1 f1 x1 f2 w1 w2 w3 w4 => kt_v ?_))
      · refine s_aload_n (pc := 107) (i := 0) dX12_readStep_107 rfl rfl ?_
        refine m_bi (pc := 108) (v := 59) dX12_readStep_108 rfl ?_
        refine m_v1 (pc := 110) dX12_readStep_110 lk_X12_223 ok_X12_sign (rcO o_534 (by decide) rfl) rfl rfl (c_sg (c := 59) (mx_f hm f1) q3 (by decide) (by decide) rfl (fun a9 r1 r2 r3 => kt_v ?_) (fun e r1 r2 r3 => kt_v ?_))
        · have E : stR t N (cb D) (cc D) false R (sk t N a) = .inr (sk t N a1, .inl (3, v, 0)) := by unfold stR; rw [if_neg (by rw [b13]; decide), if_neg (by rw [b14]; decide), if_neg (by rw [b15]; decide), if_pos b16]; unfold num1; rw [q1]
          refine s_return (pc := 113) dX12_readStep_113 rfl ?_
          exact hg a9 (.inl (3, v, 0)) I1 (by unfold itS; rw [E]; simp only []; rw [r1]) r2 f1 f2 w1 ⟨w2, w3, w4, trivial⟩
        · have E : stR t N (cb D) (cc D) false R (sk t N a) = .inr (sk t N a1, .inl (3, v, 0)) := by unfold stR; rw [if_neg (by rw [b13]; decide), if_neg (by rw [b14]; decide), if_neg (by rw [b15]; decide), if_pos b16]; unfold num1; rw [q1]
          refine s_return (pc := 113) dX12_readStep_113 rfl ?_
          exact hb e _ I1 _ (by unfold itS; rw [E]; simp only []; rw [r1]) f1 r3
  · have b13 : wB t N (sk t N a) 13 = false := wB_f.mpr (fun z => x13 ((wv_oc hsk (by decide) (by decide +kernel)).mpr z))
    have b14 : wB t N (sk t N a) 14 = false := wB_f.mpr (fun z => x14 ((wv_oc hsk (by decide) (by decide +kernel)).mpr z))
    have b15 : wB t N (sk t N a) 15 = false := wB_f.mpr (fun z => x15 ((wv_oc hsk (by decide) (by decide +kernel)).mpr z))
    have b16 : wB t N (sk t N a) 16 = false := wB_f.mpr (fun z => x16 ((wv_oc hsk (by decide) (by decide +kernel)).mpr z))
    have b10 : wB t N (sk t N a) 10 = true := wB_m.mpr ((wv_oc hsk (by decide) (by decide +kernel)).mp x10)
    refine s_istore_n (pc := 7) (i := 1) dX12_readStep_7 rfl (Nat.le_of_ble_eq_true rfl) ?_
    dsimp only [List.set, List.filter]
    refine s_iload_n (pc := 8) (i := 1) dX12_readStep_8 rfl rfl ?_
    refine m_ic (pc := 9) (v := -1) dX12_readStep_9 rfl ?_
    refine s_icne (pc := 10) (tgt := 25) dX12_readStep_10 rfl (fun h10 => ?_) (fun h10 => absurd h10 (by decide))
    refine s_iload_n (pc := 25) (i := 1) dX12_readStep_25 rfl rfl ?_
    refine m_ic (pc := 26) (v := 5) dX12_readStep_26 rfl ?_
    refine s_icne (pc := 27) (tgt := 37) dX12_readStep_27 rfl (fun h27 => ?_) (fun h27 => absurd h27 (by decide))
    refine s_aload_n (pc := 37) (i := 0) dX12_readStep_37 rfl rfl ?_
    refine m_v0 (pc := 38) dX12_readStep_38 lk_X12_217 ok_X12_pass (rcO o_534 (by decide) rfl) rfl rfl (c_X12_pass hm hsk (kt_v ?_))
    refine s_iload_n (pc := 41) (i := 1) dX12_readStep_41 rfl rfl ?_
    refine m_ic (pc := 42) (v := 4) dX12_readStep_42 rfl ?_
    refine s_icne (pc := 43) (tgt := 50) dX12_readStep_43 rfl (fun h43 => absurd h43 (by decide)) (fun h43 => ?_)
    refine m_ic (pc := 46) (v := 0) dX12_readStep_46 rfl ?_
    refine s_goto (pc := 47) (tgt := 69) dX12_readStep_47 rfl ?_
    refine s_istore_n (pc := 69) (i := 2) dX12_readStep_69 rfl (Nat.le_of_ble_eq_true rfl) ?_
    dsimp only [List.set, List.filter]
    refine s_aload_n (pc := 70) (i := 0) dX12_readStep_70 rfl rfl ?_
    refine s_iload_n (pc := 71) (i := 1) dX12_readStep_71 rfl rfl ?_
    refine s_iload_n (pc := 72) (i := 2) dX12_readStep_72 rfl rfl ?_
    refine s_iload_n (pc := 73) (i := 1) dX12_readStep_73 rfl rfl ?_
    refine s_ifne (pc := 74) (tgt := 91) dX12_readStep_74 rfl (fun h74 => ?_) (fun h74 => absurd h74 (by decide))
    refine s_iload_n (pc := 91) (i := 1) dX12_readStep_91 rfl rfl ?_
    refine m_ic (pc := 92) (v := 1) dX12_readStep_92 rfl ?_
    refine s_icne (pc := 93) (tgt := 103) dX12_readStep_93 rfl (fun h93 => ?_) (fun h93 => absurd h93 (by decide))
    refine m_ic (pc := 103) (v := 0) dX12_readStep_103 rfl ?_
    refine m_v3 (pc := 104) dX12_readStep_104 lk_X12_294 ok_X12_tellsStep (rcO o_534 (by decide) rfl) rfl rfl (c_X12_tellsStep hm hs (by omega) (fun I1 f1 x1 f2 w1 w2 w3 w4 => kt_v ?_))
    · refine s_aload_n (pc := 107) (i := 0) dX12_readStep_107 rfl rfl ?_
      refine m_bi (pc := 108) (v := 59) dX12_readStep_108 rfl ?_
      refine m_v1 (pc := 110) dX12_readStep_110 lk_X12_223 ok_X12_sign (rcO o_534 (by decide) rfl) rfl rfl (c_sg (c := 59) (mx_f hm f1) hwE (by decide) (by decide) rfl (fun a9 r1 r2 r3 => kt_v ?_) (fun e r1 r2 r3 => kt_v ?_))
      · have E : stR t N (cb D) (cc D) false R (sk t N a) = .inr (sk t N (wE t N (sk t N a)), .inl (4, 0, 0)) := by unfold stR; rw [if_neg (by rw [b13]; decide), if_neg (by rw [b14]; decide), if_neg (by rw [b15]; decide), if_neg (by rw [b16]; decide), if_pos b10]
        refine s_return (pc := 113) dX12_readStep_113 rfl ?_
        exact hg a9 (.inl (4, 0, 0)) I1 (by unfold itS; rw [E]; simp only []; rw [r1]) r2 f1 f2 w1 ⟨w2, w3, w4, trivial⟩
      · have E : stR t N (cb D) (cc D) false R (sk t N a) = .inr (sk t N (wE t N (sk t N a)), .inl (4, 0, 0)) := by unfold stR; rw [if_neg (by rw [b13]; decide), if_neg (by rw [b14]; decide), if_neg (by rw [b15]; decide), if_neg (by rw [b16]; decide), if_pos b10]
        refine s_return (pc := 113) dX12_readStep_113 rfl ?_
        exact hb e _ I1 _ (by unfold itS; rw [E]; simp only []; rw [r1]) f1 r3
  · have b13 : wB t N (sk t N a) 13 = false := wB_f.mpr (fun z => x13 ((wv_oc hsk (by decide) (by decide +kernel)).mpr z))
    have b14 : wB t N (sk t N a) 14 = false := wB_f.mpr (fun z => x14 ((wv_oc hsk (by decide) (by decide +kernel)).mpr z))
    have b15 : wB t N (sk t N a) 15 = false := wB_f.mpr (fun z => x15 ((wv_oc hsk (by decide) (by decide +kernel)).mpr z))
    have b16 : wB t N (sk t N a) 16 = false := wB_f.mpr (fun z => x16 ((wv_oc hsk (by decide) (by decide +kernel)).mpr z))
    have b10 : wB t N (sk t N a) 10 = false := wB_f.mpr (fun z => x10 ((wv_oc hsk (by decide) (by decide +kernel)).mpr z))
    have b17 : wB t N (sk t N a) 17 = true := wB_m.mpr ((wv_oc hsk (by decide) (by decide +kernel)).mp x17)
    refine s_istore_n (pc := 7) (i := 1) dX12_readStep_7 rfl (Nat.le_of_ble_eq_true rfl) ?_
    dsimp only [List.set, List.filter]
    refine s_iload_n (pc := 8) (i := 1) dX12_readStep_8 rfl rfl ?_
    refine m_ic (pc := 9) (v := -1) dX12_readStep_9 rfl ?_
    refine s_icne (pc := 10) (tgt := 25) dX12_readStep_10 rfl (fun h10 => ?_) (fun h10 => absurd h10 (by decide))
    refine s_iload_n (pc := 25) (i := 1) dX12_readStep_25 rfl rfl ?_
    refine m_ic (pc := 26) (v := 5) dX12_readStep_26 rfl ?_
    refine s_icne (pc := 27) (tgt := 37) dX12_readStep_27 rfl (fun h27 => absurd h27 (by decide)) (fun h27 => ?_)
    refine s_aload_n (pc := 30) (i := 0) dX12_readStep_30 rfl rfl ?_
    refine m_v0 (pc := 31) dX12_readStep_31 lk_X12_304 ok_X12_readAgain (rcO o_534 (by decide) rfl) rfl rfl (c_again6m hsk hN rfl (kt_v ?_))
    refine s_goto (pc := 34) (tgt := 107) dX12_readStep_34 rfl ?_
    have hbad : nI (sk t N a) ≠ -1 := (nI_m1 (by omega))
    refine s_aload_n (pc := 107) (i := 0) dX12_readStep_107 rfl rfl ?_
    refine m_bi (pc := 108) (v := 59) dX12_readStep_108 rfl ?_
    refine m_v1 (pc := 110) dX12_readStep_110 lk_X12_223 ok_X12_sign (rcO o_534 (by decide) rfl) rfl rfl (c_X12_sign_n hbad (kt_v ?_))
    refine s_return (pc := 113) dX12_readStep_113 rfl ?_
    have E : stR t N (cb D) (cc D) false R (sk t N a) = .inl (3, sk t N a) := by unfold stR; rw [if_neg (by rw [b13]; decide), if_neg (by rw [b14]; decide), if_neg (by rw [b15]; decide), if_neg (by rw [b16]; decide), if_neg (by rw [b10]; decide), if_pos b17]; rw [if_neg (by decide)]
    exact hb (3, sk t N a) _ I _ (by unfold itS; rw [E]) fM_r (by simp only []; omega)
  · have b13 : wB t N (sk t N a) 13 = false := wB_f.mpr (fun z => x13 ((wv_oc hsk (by decide) (by decide +kernel)).mpr z))
    have b14 : wB t N (sk t N a) 14 = false := wB_f.mpr (fun z => x14 ((wv_oc hsk (by decide) (by decide +kernel)).mpr z))
    have b15 : wB t N (sk t N a) 15 = false := wB_f.mpr (fun z => x15 ((wv_oc hsk (by decide) (by decide +kernel)).mpr z))
    have b16 : wB t N (sk t N a) 16 = false := wB_f.mpr (fun z => x16 ((wv_oc hsk (by decide) (by decide +kernel)).mpr z))
    have b10 : wB t N (sk t N a) 10 = false := wB_f.mpr (fun z => x10 ((wv_oc hsk (by decide) (by decide +kernel)).mpr z))
    have b17 : wB t N (sk t N a) 17 = false := wB_f.mpr (fun z => x17 ((wv_oc hsk (by decide) (by decide +kernel)).mpr z))
    refine s_istore_n (pc := 7) (i := 1) dX12_readStep_7 rfl (Nat.le_of_ble_eq_true rfl) ?_
    dsimp only [List.set, List.filter]
    refine s_iload_n (pc := 8) (i := 1) dX12_readStep_8 rfl rfl ?_
    refine m_ic (pc := 9) (v := -1) dX12_readStep_9 rfl ?_
    refine s_icne (pc := 10) (tgt := 25) dX12_readStep_10 rfl (fun h10 => absurd h10 (by decide)) (fun h10 => ?_)
    refine s_aload_n (pc := 13) (i := 0) dX12_readStep_13 rfl rfl ?_
    refine m_ic (pc := 14) (v := 1) dX12_readStep_14 rfl ?_
    refine s_aload_n (pc := 15) (i := 0) dX12_readStep_15 rfl rfl ?_
    refine m_gi (pc := 16) dX12_readStep_16 ff_X12_108 rfl o_534 ?_
    refine m_nm (v' := nI (sk t N a)) rfl ?_
    refine m_v2 (pc := 19) dX12_readStep_19 lk_X12_138 ok_X12_wrong (rcO o_534 (by decide) rfl) rfl rfl (c_X12_wrong rfl (kt_v ?_))
    refine s_goto (pc := 22) (tgt := 107) dX12_readStep_22 rfl ?_
    have hbad : nI (sk t N a) ≠ -1 := (nI_m1 (by omega))
    refine s_aload_n (pc := 107) (i := 0) dX12_readStep_107 rfl rfl ?_
    refine m_bi (pc := 108) (v := 59) dX12_readStep_108 rfl ?_
    refine m_v1 (pc := 110) dX12_readStep_110 lk_X12_223 ok_X12_sign (rcO o_534 (by decide) rfl) rfl rfl (c_X12_sign_n hbad (kt_v ?_))
    refine s_return (pc := 113) dX12_readStep_113 rfl ?_
    have E : stR t N (cb D) (cc D) false R (sk t N a) = .inl (1, sk t N a) := by unfold stR; rw [if_neg (by rw [b13]; decide), if_neg (by rw [b14]; decide), if_neg (by rw [b15]; decide), if_neg (by rw [b16]; decide), if_neg (by rw [b10]; decide), if_neg (by rw [b17]; decide)]
    exact hb (1, sk t N a) _ I _ (by unfold itS; rw [E]) fM_r (by simp only []; omega)
theorem c_mstepk {k o : Nat} {mn : β → Nat} {sp : (Nat → Int32) → β → Nat → Prop} {R : Nat → eT (iT β)} (hS : cMs g (k + 6) t N D mn sp R (nI (o + 1))) (hG : gI N mn R) (hF : qF sp mn) (ho : o < 6) : cMs g (k + 8) t N D (mln mn) (PmL sp mn) (stR t N (cb D) (cc D) true (lsR t N R (stopB t N) 150)) (nI o) := by
  intro d I J n w Q a bk s hm ha hN h17 h18 hk hs hs2 hb hg
  have hc7 := hk.1
  have hc12 := hk.2.1
  have hsk := sk_le (t := t) ha
  have hwE := wE_le (t := t) hsk
  have hwg := wE_ge (t := t) (N := N) (a := sk t N a)
  show Rn g (d + (k + 8)) mX12_readStep 0 [.ref 534, .retAddr 0, .retAddr 0] [] [] (Z (mp I a (-1) bk (nI o)) J n w) Q
  refine s_aload_n (pc := 0) (i := 0) dX12_readStep_0 rfl rfl ?_
  refine m_v0 (pc := 1) dX12_readStep_1 lk_X12_208 ok_X12_wordHere (rcO o_534 (by decide) rfl) rfl rfl (c_X12_wordHere hm ha (kt_s ?_))
  refine m_s1 (pc := 4) dX12_readStep_4 lk_X12_301 ok_X12_stepOf rfl rfl (c_X12_stepOf (fun x13 => kt_s ?_) (fun x13 x14 => kt_s ?_) (fun x13 x14 x15 => kt_s ?_) (fun x13 x14 x15 x16 => kt_s ?_) (fun x13 x14 x15 x16 x10 => kt_s ?_) (fun x13 x14 x15 x16 x10 x17 => kt_s ?_) (fun x13 x14 x15 x16 x10 x17 => kt_s ?_))
  · have b13 : wB t N (sk t N a) 13 = true := wB_m.mpr ((wv_oc hsk (by decide) (by decide +kernel)).mp x13)
    refine s_istore_n (pc := 7) (i := 1) dX12_readStep_7 rfl (Nat.le_of_ble_eq_true rfl) ?_
    dsimp only [List.set, List.filter]
    refine s_iload_n (pc := 8) (i := 1) dX12_readStep_8 rfl rfl ?_
    refine m_ic (pc := 9) (v := -1) dX12_readStep_9 rfl ?_
    refine s_icne (pc := 10) (tgt := 25) dX12_readStep_10 rfl (fun h10 => ?_) (fun h10 => absurd h10 (by decide))
    refine s_iload_n (pc := 25) (i := 1) dX12_readStep_25 rfl rfl ?_
    refine m_ic (pc := 26) (v := 5) dX12_readStep_26 rfl ?_
    refine s_icne (pc := 27) (tgt := 37) dX12_readStep_27 rfl (fun h27 => ?_) (fun h27 => absurd h27 (by decide))
    refine s_aload_n (pc := 37) (i := 0) dX12_readStep_37 rfl rfl ?_
    refine m_v0 (pc := 38) dX12_readStep_38 lk_X12_217 ok_X12_pass (rcO o_534 (by decide) rfl) rfl rfl (c_X12_pass hm hsk (kt_v ?_))
    refine s_iload_n (pc := 41) (i := 1) dX12_readStep_41 rfl rfl ?_
    refine m_ic (pc := 42) (v := 4) dX12_readStep_42 rfl ?_
    refine s_icne (pc := 43) (tgt := 50) dX12_readStep_43 rfl (fun h43 => ?_) (fun h43 => absurd h43 (by decide))
    refine s_iload_n (pc := 50) (i := 1) dX12_readStep_50 rfl rfl ?_
    refine m_ic (pc := 51) (v := 2) dX12_readStep_51 rfl ?_
    refine s_icne (pc := 52) (tgt := 65) dX12_readStep_52 rfl (fun h52 => ?_) (fun h52 => absurd h52 (by decide))
    refine s_aload_n (pc := 65) (i := 0) dX12_readStep_65 rfl rfl ?_
    refine m_v0 (pc := 66) dX12_readStep_66 lk_X12_307 ok_X12_readBack (rcO o_534 (by decide) rfl) rfl rfl (c_X12_readBack h17 (by omega) hm hwE (fun e a1 q1 q2 q3 => kt_s ?_) (fun v a1 q1 q2 q3 q4 => kt_s ?_))
    · have hbad : nI e.2 ≠ -1 := (nI_m1 (by omega))
      refine s_istore_n (pc := 69) (i := 2) dX12_readStep_69 rfl (Nat.le_of_ble_eq_true rfl) ?_
      dsimp only [List.set, List.filter]
      refine s_aload_n (pc := 70) (i := 0) dX12_readStep_70 rfl rfl ?_
      refine s_iload_n (pc := 71) (i := 1) dX12_readStep_71 rfl rfl ?_
      refine s_iload_n (pc := 72) (i := 2) dX12_readStep_72 rfl rfl ?_
      refine s_iload_n (pc := 73) (i := 1) dX12_readStep_73 rfl rfl ?_
      refine s_ifne (pc := 74) (tgt := 91) dX12_readStep_74 rfl (fun h74 => absurd h74 (by decide)) (fun h74 => ?_)
      refine s_aload_n (pc := 77) (i := 0) dX12_readStep_77 rfl rfl ?_
      refine m_ic (pc := 78) (v := 0) dX12_readStep_78 rfl ?_
      refine s_aload_n (pc := 79) (i := 0) dX12_readStep_79 rfl rfl ?_
      refine m_gi (pc := 80) dX12_readStep_80 ff_X12_157 rfl o_534 ?_
      refine m_nm (v' := nI (cc D)) (by rw [mp_x (by decide)]; exact h18) ?_
      refine m_ic (pc := 83) (v := 1) dX12_readStep_83 rfl ?_
      refine s_isub (pc := 84) dX12_readStep_84 ?_
      refine m_v2 (pc := 85) dX12_readStep_85 lk_X12_188 ok_X12_readNumber (rcO o_534 (by decide) rfl) rfl rfl (c_X12_readNumber_n hbad (kt_s ?_))
      · refine s_goto (pc := 88) (tgt := 104) dX12_readStep_88 rfl ?_
        refine m_v3 (pc := 104) dX12_readStep_104 lk_X12_294 ok_X12_tellsStep (rcO o_534 (by decide) rfl) rfl rfl (c_tells_n hbad (kt_v ?_))
        refine s_aload_n (pc := 107) (i := 0) dX12_readStep_107 rfl rfl ?_
        refine m_bi (pc := 108) (v := 59) dX12_readStep_108 rfl ?_
        refine m_v1 (pc := 110) dX12_readStep_110 lk_X12_223 ok_X12_sign (rcO o_534 (by decide) rfl) rfl rfl (c_X12_sign_n hbad (kt_v ?_))
        refine s_return (pc := 113) dX12_readStep_113 rfl ?_
        have E : stR t N (cb D) (cc D) true (lsR t N R (stopB t N) 150) (sk t N a) = .inl e := by unfold stR; rw [if_pos b13]; unfold num2; rw [q1]
        exact hb e _ I _ (by unfold itS; rw [E]) fM_r q3
    · refine s_istore_n (pc := 69) (i := 2) dX12_readStep_69 rfl (Nat.le_of_ble_eq_true rfl) ?_
      dsimp only [List.set, List.filter]
      refine s_aload_n (pc := 70) (i := 0) dX12_readStep_70 rfl rfl ?_
      refine s_iload_n (pc := 71) (i := 1) dX12_readStep_71 rfl rfl ?_
      refine s_iload_n (pc := 72) (i := 2) dX12_readStep_72 rfl rfl ?_
      refine s_iload_n (pc := 73) (i := 1) dX12_readStep_73 rfl rfl ?_
      refine s_ifne (pc := 74) (tgt := 91) dX12_readStep_74 rfl (fun h74 => absurd h74 (by decide)) (fun h74 => ?_)
      refine s_aload_n (pc := 77) (i := 0) dX12_readStep_77 rfl rfl ?_
      refine m_ic (pc := 78) (v := 0) dX12_readStep_78 rfl ?_
      refine s_aload_n (pc := 79) (i := 0) dX12_readStep_79 rfl rfl ?_
      refine m_gi (pc := 80) dX12_readStep_80 ff_X12_157 rfl o_534 ?_
      refine m_nm (v' := nI (cc D)) (by rw [mp_x (by decide)]; exact h18) ?_
      refine m_ic (pc := 83) (v := 1) dX12_readStep_83 rfl ?_
      refine s_isub (pc := 84) dX12_readStep_84 ?_
      refine m_v2 (pc := 85) dX12_readStep_85 lk_X12_188 ok_X12_readNumber (rcO o_534 (by decide) rfl) rfl rfl (c_rn2 hm q3 (lo1 := 0) (hi1 := cc D) rfl rfl (by omega) (fun e a2 u1 u2 u3 => kt_s ?_) (fun u a2 u1 u2 u3 u4 u5 => kt_s ?_))
      · have hbad : nI e.2 ≠ -1 := (nI_m1 (by omega))
        refine s_goto (pc := 88) (tgt := 104) dX12_readStep_88 rfl ?_
        refine m_v3 (pc := 104) dX12_readStep_104 lk_X12_294 ok_X12_tellsStep (rcO o_534 (by decide) rfl) rfl rfl (c_tells_n hbad (kt_v ?_))
        refine s_aload_n (pc := 107) (i := 0) dX12_readStep_107 rfl rfl ?_
        refine m_bi (pc := 108) (v := 59) dX12_readStep_108 rfl ?_
        refine m_v1 (pc := 110) dX12_readStep_110 lk_X12_223 ok_X12_sign (rcO o_534 (by decide) rfl) rfl rfl (c_X12_sign_n hbad (kt_v ?_))
        refine s_return (pc := 113) dX12_readStep_113 rfl ?_
        have E : stR t N (cb D) (cc D) true (lsR t N R (stopB t N) 150) (sk t N a) = .inl e := by unfold stR; rw [if_pos b13]; unfold num2; rw [q1]; simp only []; rw [u1]
        exact hb e _ I _ (by unfold itS; rw [E]) fM_r u3
      · refine s_goto (pc := 88) (tgt := 104) dX12_readStep_88 rfl ?_
        refine m_v3 (pc := 104) dX12_readStep_104 lk_X12_294 ok_X12_tellsStep (rcO o_534 (by decide) rfl) rfl rfl (c_X12_tellsStep hm hs (by omega) (fun I1 f1 x1 f2 w1 w2 w3 w4 => kt_v ?_))
        · refine s_aload_n (pc := 107) (i := 0) dX12_readStep_107 rfl rfl ?_
          refine m_bi (pc := 108) (v := 59) dX12_readStep_108 rfl ?_
          refine m_v1 (pc := 110) dX12_readStep_110 lk_X12_223 ok_X12_sign (rcO o_534 (by decide) rfl) rfl rfl (c_sg (c := 59) (mx_f hm f1) u4 (by decide) (by decide) rfl (fun a9 r1 r2 r3 => kt_v ?_) (fun e r1 r2 r3 => kt_v ?_))
          · have E : stR t N (cb D) (cc D) true (lsR t N R (stopB t N) 150) (sk t N a) = .inr (sk t N a2, .inl (0, v, u)) := by unfold stR; rw [if_pos b13]; unfold num2; rw [q1]; simp only []; rw [u1]
            refine s_return (pc := 113) dX12_readStep_113 rfl ?_
            exact hg a9 (.inl (0, v, u)) I1 (by unfold itS; rw [E]; simp only []; rw [r1]) r2 f1 f2 w1 ⟨w2, w3, w4, trivial⟩
          · have E : stR t N (cb D) (cc D) true (lsR t N R (stopB t N) 150) (sk t N a) = .inr (sk t N a2, .inl (0, v, u)) := by unfold stR; rw [if_pos b13]; unfold num2; rw [q1]; simp only []; rw [u1]
            refine s_return (pc := 113) dX12_readStep_113 rfl ?_
            exact hb e _ I1 _ (by unfold itS; rw [E]; simp only []; rw [r1]) f1 r3
  · have b13 : wB t N (sk t N a) 13 = false := wB_f.mpr (fun z => x13 ((wv_oc hsk (by decide) (by decide +kernel)).mpr z))
    have b14 : wB t N (sk t N a) 14 = true := wB_m.mpr ((wv_oc hsk (by decide) (by decide +kernel)).mp x14)
    refine s_istore_n (pc := 7) (i := 1) dX12_readStep_7 rfl (Nat.le_of_ble_eq_true rfl) ?_
    dsimp only [List.set, List.filter]
    refine s_iload_n (pc := 8) (i := 1) dX12_readStep_8 rfl rfl ?_
    refine m_ic (pc := 9) (v := -1) dX12_readStep_9 rfl ?_
    refine s_icne (pc := 10) (tgt := 25) dX12_readStep_10 rfl (fun h10 => ?_) (fun h10 => absurd h10 (by decide))
    refine s_iload_n (pc := 25) (i := 1) dX12_readStep_25 rfl rfl ?_
    refine m_ic (pc := 26) (v := 5) dX12_readStep_26 rfl ?_
    refine s_icne (pc := 27) (tgt := 37) dX12_readStep_27 rfl (fun h27 => ?_) (fun h27 => absurd h27 (by decide))
    refine s_aload_n (pc := 37) (i := 0) dX12_readStep_37 rfl rfl ?_
    refine m_v0 (pc := 38) dX12_readStep_38 lk_X12_217 ok_X12_pass (rcO o_534 (by decide) rfl) rfl rfl (c_X12_pass hm hsk (kt_v ?_))
    refine s_iload_n (pc := 41) (i := 1) dX12_readStep_41 rfl rfl ?_
    refine m_ic (pc := 42) (v := 4) dX12_readStep_42 rfl ?_
    refine s_icne (pc := 43) (tgt := 50) dX12_readStep_43 rfl (fun h43 => ?_) (fun h43 => absurd h43 (by decide))
    refine s_iload_n (pc := 50) (i := 1) dX12_readStep_50 rfl rfl ?_
    refine m_ic (pc := 51) (v := 2) dX12_readStep_51 rfl ?_
    refine s_icne (pc := 52) (tgt := 65) dX12_readStep_52 rfl (fun h52 => ?_) (fun h52 => absurd h52 (by decide))
    refine s_aload_n (pc := 65) (i := 0) dX12_readStep_65 rfl rfl ?_
    refine m_v0 (pc := 66) dX12_readStep_66 lk_X12_307 ok_X12_readBack (rcO o_534 (by decide) rfl) rfl rfl (c_X12_readBack h17 (by omega) hm hwE (fun e a1 q1 q2 q3 => kt_s ?_) (fun v a1 q1 q2 q3 q4 => kt_s ?_))
    · have hbad : nI e.2 ≠ -1 := (nI_m1 (by omega))
      refine s_istore_n (pc := 69) (i := 2) dX12_readStep_69 rfl (Nat.le_of_ble_eq_true rfl) ?_
      dsimp only [List.set, List.filter]
      refine s_aload_n (pc := 70) (i := 0) dX12_readStep_70 rfl rfl ?_
      refine s_iload_n (pc := 71) (i := 1) dX12_readStep_71 rfl rfl ?_
      refine s_iload_n (pc := 72) (i := 2) dX12_readStep_72 rfl rfl ?_
      refine s_iload_n (pc := 73) (i := 1) dX12_readStep_73 rfl rfl ?_
      refine s_ifne (pc := 74) (tgt := 91) dX12_readStep_74 rfl (fun h74 => ?_) (fun h74 => absurd h74 (by decide))
      refine s_iload_n (pc := 91) (i := 1) dX12_readStep_91 rfl rfl ?_
      refine m_ic (pc := 92) (v := 1) dX12_readStep_92 rfl ?_
      refine s_icne (pc := 93) (tgt := 103) dX12_readStep_93 rfl (fun h93 => absurd h93 (by decide)) (fun h93 => ?_)
      refine s_aload_n (pc := 96) (i := 0) dX12_readStep_96 rfl rfl ?_
      refine m_v0 (pc := 97) dX12_readStep_97 lk_X12_307 ok_X12_readBack (rcO o_534 (by decide) rfl) rfl rfl (c_readBack_n h17 hbad (kt_s ?_))
      · refine s_goto (pc := 100) (tgt := 104) dX12_readStep_100 rfl ?_
        refine m_v3 (pc := 104) dX12_readStep_104 lk_X12_294 ok_X12_tellsStep (rcO o_534 (by decide) rfl) rfl rfl (c_tells_n hbad (kt_v ?_))
        refine s_aload_n (pc := 107) (i := 0) dX12_readStep_107 rfl rfl ?_
        refine m_bi (pc := 108) (v := 59) dX12_readStep_108 rfl ?_
        refine m_v1 (pc := 110) dX12_readStep_110 lk_X12_223 ok_X12_sign (rcO o_534 (by decide) rfl) rfl rfl (c_X12_sign_n hbad (kt_v ?_))
        refine s_return (pc := 113) dX12_readStep_113 rfl ?_
        have E : stR t N (cb D) (cc D) true (lsR t N R (stopB t N) 150) (sk t N a) = .inl e := by unfold stR; rw [if_neg (by rw [b13]; decide), if_pos b14]; unfold num2; rw [q1]
        exact hb e _ I _ (by unfold itS; rw [E]) fM_r q3
    · refine s_istore_n (pc := 69) (i := 2) dX12_readStep_69 rfl (Nat.le_of_ble_eq_true rfl) ?_
      dsimp only [List.set, List.filter]
      refine s_aload_n (pc := 70) (i := 0) dX12_readStep_70 rfl rfl ?_
      refine s_iload_n (pc := 71) (i := 1) dX12_readStep_71 rfl rfl ?_
      refine s_iload_n (pc := 72) (i := 2) dX12_readStep_72 rfl rfl ?_
      refine s_iload_n (pc := 73) (i := 1) dX12_readStep_73 rfl rfl ?_
      refine s_ifne (pc := 74) (tgt := 91) dX12_readStep_74 rfl (fun h74 => ?_) (fun h74 => absurd h74 (by decide))
      refine s_iload_n (pc := 91) (i := 1) dX12_readStep_91 rfl rfl ?_
      refine m_ic (pc := 92) (v := 1) dX12_readStep_92 rfl ?_
      refine s_icne (pc := 93) (tgt := 103) dX12_readStep_93 rfl (fun h93 => absurd h93 (by decide)) (fun h93 => ?_)
      refine s_aload_n (pc := 96) (i := 0) dX12_readStep_96 rfl rfl ?_
      refine m_v0 (pc := 97) dX12_readStep_97 lk_X12_307 ok_X12_readBack (rcO o_534 (by decide) rfl) rfl rfl (c_X12_readBack h17 (by omega) hm q3 (fun e a2 u1 u2 u3 => kt_s ?_) (fun u a2 u1 u3 u4 u5 => kt_s ?_))
      · have hbad : nI e.2 ≠ -1 := (nI_m1 (by omega))
        refine s_goto (pc := 100) (tgt := 104) dX12_readStep_100 rfl ?_
        refine m_v3 (pc := 104) dX12_readStep_104 lk_X12_294 ok_X12_tellsStep (rcO o_534 (by decide) rfl) rfl rfl (c_tells_n hbad (kt_v ?_))
        refine s_aload_n (pc := 107) (i := 0) dX12_readStep_107 rfl rfl ?_
        refine m_bi (pc := 108) (v := 59) dX12_readStep_108 rfl ?_
        refine m_v1 (pc := 110) dX12_readStep_110 lk_X12_223 ok_X12_sign (rcO o_534 (by decide) rfl) rfl rfl (c_X12_sign_n hbad (kt_v ?_))
        refine s_return (pc := 113) dX12_readStep_113 rfl ?_
        have E : stR t N (cb D) (cc D) true (lsR t N R (stopB t N) 150) (sk t N a) = .inl e := by unfold stR; rw [if_neg (by rw [b13]; decide), if_pos b14]; unfold num2; rw [q1]; simp only []; rw [u1]
        exact hb e _ I _ (by unfold itS; rw [E]) fM_r u3
      · refine s_goto (pc := 100) (tgt := 104) dX12_readStep_100 rfl ?_
        refine m_v3 (pc := 104) dX12_readStep_104 lk_X12_294 ok_X12_tellsStep (rcO o_534 (by decide) rfl) rfl rfl (c_X12_tellsStep hm hs (by omega) (fun I1 f1 x1 f2 w1 w2 w3 w4 => kt_v ?_))
        · refine s_aload_n (pc := 107) (i := 0) dX12_readStep_107 rfl rfl ?_
          refine m_bi (pc := 108) (v := 59) dX12_readStep_108 rfl ?_
          refine m_v1 (pc := 110) dX12_readStep_110 lk_X12_223 ok_X12_sign (rcO o_534 (by decide) rfl) rfl rfl (c_sg (c := 59) (mx_f hm f1) u4 (by decide) (by decide) rfl (fun a9 r1 r2 r3 => kt_v ?_) (fun e r1 r2 r3 => kt_v ?_))
          · have E : stR t N (cb D) (cc D) true (lsR t N R (stopB t N) 150) (sk t N a) = .inr (sk t N a2, .inl (1, v, u)) := by unfold stR; rw [if_neg (by rw [b13]; decide), if_pos b14]; unfold num2; rw [q1]; simp only []; rw [u1]
            refine s_return (pc := 113) dX12_readStep_113 rfl ?_
            exact hg a9 (.inl (1, v, u)) I1 (by unfold itS; rw [E]; simp only []; rw [r1]) r2 f1 f2 w1 ⟨w2, w3, w4, trivial⟩
          · have E : stR t N (cb D) (cc D) true (lsR t N R (stopB t N) 150) (sk t N a) = .inr (sk t N a2, .inl (1, v, u)) := by unfold stR; rw [if_neg (by rw [b13]; decide), if_pos b14]; unfold num2; rw [q1]; simp only []; rw [u1]
            refine s_return (pc := 113) dX12_readStep_113 rfl ?_
            exact hb e _ I1 _ (by unfold itS; rw [E]; simp only []; rw [r1]) f1 r3
  · have b13 : wB t N (sk t N a) 13 = false := wB_f.mpr (fun z => x13 ((wv_oc hsk (by decide) (by decide +kernel)).mpr z))
    have b14 : wB t N (sk t N a) 14 = false := wB_f.mpr (fun z => x14 ((wv_oc hsk (by decide) (by decide +kernel)).mpr z))
    have b15 : wB t N (sk t N a) 15 = true := wB_m.mpr ((wv_oc hsk (by decide) (by decide +kernel)).mp x15)
    refine s_istore_n (pc := 7) (i := 1) dX12_readStep_7 rfl (Nat.le_of_ble_eq_true rfl) ?_
    dsimp only [List.set, List.filter]
    refine s_iload_n (pc := 8) (i := 1) dX12_readStep_8 rfl rfl ?_
    refine m_ic (pc := 9) (v := -1) dX12_readStep_9 rfl ?_
    refine s_icne (pc := 10) (tgt := 25) dX12_readStep_10 rfl (fun h10 => ?_) (fun h10 => absurd h10 (by decide))
    refine s_iload_n (pc := 25) (i := 1) dX12_readStep_25 rfl rfl ?_
    refine m_ic (pc := 26) (v := 5) dX12_readStep_26 rfl ?_
    refine s_icne (pc := 27) (tgt := 37) dX12_readStep_27 rfl (fun h27 => ?_) (fun h27 => absurd h27 (by decide))
    refine s_aload_n (pc := 37) (i := 0) dX12_readStep_37 rfl rfl ?_
    refine m_v0 (pc := 38) dX12_readStep_38 lk_X12_217 ok_X12_pass (rcO o_534 (by decide) rfl) rfl rfl (c_X12_pass hm hsk (kt_v ?_))
    refine s_iload_n (pc := 41) (i := 1) dX12_readStep_41 rfl rfl ?_
    refine m_ic (pc := 42) (v := 4) dX12_readStep_42 rfl ?_
    refine s_icne (pc := 43) (tgt := 50) dX12_readStep_43 rfl (fun h43 => ?_) (fun h43 => absurd h43 (by decide))
    refine s_iload_n (pc := 50) (i := 1) dX12_readStep_50 rfl rfl ?_
    refine m_ic (pc := 51) (v := 2) dX12_readStep_51 rfl ?_
    refine s_icne (pc := 52) (tgt := 65) dX12_readStep_52 rfl (fun h52 => absurd h52 (by decide)) (fun h52 => ?_)
    refine s_aload_n (pc := 55) (i := 0) dX12_readStep_55 rfl rfl ?_
    refine m_ic (pc := 56) (v := 0) dX12_readStep_56 rfl ?_
    refine m_bi (pc := 57) (v := 40) dX12_readStep_57 rfl ?_
    refine m_v2 (pc := 59) dX12_readStep_59 lk_X12_188 ok_X12_readNumber (rcO o_534 (by decide) rfl) rfl rfl (c_rn2 hm hwE (lo1 := 0) (hi1 := 41) rfl rfl (by decide) (fun e a1 q1 q2 q3 => kt_s ?_) (fun v a1 q1 q2 q3 q4 q5 => kt_s ?_))
    · have hbad : nI e.2 ≠ -1 := (nI_m1 (by omega))
      refine s_goto (pc := 62) (tgt := 69) dX12_readStep_62 rfl ?_
      refine s_istore_n (pc := 69) (i := 2) dX12_readStep_69 rfl (Nat.le_of_ble_eq_true rfl) ?_
      dsimp only [List.set, List.filter]
      refine s_aload_n (pc := 70) (i := 0) dX12_readStep_70 rfl rfl ?_
      refine s_iload_n (pc := 71) (i := 1) dX12_readStep_71 rfl rfl ?_
      refine s_iload_n (pc := 72) (i := 2) dX12_readStep_72 rfl rfl ?_
      refine s_iload_n (pc := 73) (i := 1) dX12_readStep_73 rfl rfl ?_
      refine s_ifne (pc := 74) (tgt := 91) dX12_readStep_74 rfl (fun h74 => ?_) (fun h74 => absurd h74 (by decide))
      refine s_iload_n (pc := 91) (i := 1) dX12_readStep_91 rfl rfl ?_
      refine m_ic (pc := 92) (v := 1) dX12_readStep_92 rfl ?_
      refine s_icne (pc := 93) (tgt := 103) dX12_readStep_93 rfl (fun h93 => ?_) (fun h93 => absurd h93 (by decide))
      refine m_ic (pc := 103) (v := 0) dX12_readStep_103 rfl ?_
      refine m_v3 (pc := 104) dX12_readStep_104 lk_X12_294 ok_X12_tellsStep (rcO o_534 (by decide) rfl) rfl rfl (c_tells_n hbad (kt_v ?_))
      refine s_aload_n (pc := 107) (i := 0) dX12_readStep_107 rfl rfl ?_
      refine m_bi (pc := 108) (v := 59) dX12_readStep_108 rfl ?_
      refine m_v1 (pc := 110) dX12_readStep_110 lk_X12_223 ok_X12_sign (rcO o_534 (by decide) rfl) rfl rfl (c_X12_sign_n hbad (kt_v ?_))
      refine s_return (pc := 113) dX12_readStep_113 rfl ?_
      have E : stR t N (cb D) (cc D) true (lsR t N R (stopB t N) 150) (sk t N a) = .inl e := by unfold stR; rw [if_neg (by rw [b13]; decide), if_neg (by rw [b14]; decide), if_pos b15]; unfold num1; rw [q1]
      exact hb e _ I _ (by unfold itS; rw [E]) fM_r q3
    · refine s_goto (pc := 62) (tgt := 69) dX12_readStep_62 rfl ?_
      refine s_istore_n (pc := 69) (i := 2) dX12_readStep_69 rfl (Nat.le_of_ble_eq_true rfl) ?_
      dsimp only [List.set, List.filter]
      refine s_aload_n (pc := 70) (i := 0) dX12_readStep_70 rfl rfl ?_
      refine s_iload_n (pc := 71) (i := 1) dX12_readStep_71 rfl rfl ?_
      refine s_iload_n (pc := 72) (i := 2) dX12_readStep_72 rfl rfl ?_
      refine s_iload_n (pc := 73) (i := 1) dX12_readStep_73 rfl rfl ?_
      refine s_ifne (pc := 74) (tgt := 91) dX12_readStep_74 rfl (fun h74 => ?_) (fun h74 => absurd h74 (by decide))
      refine s_iload_n (pc := 91) (i := 1) dX12_readStep_91 rfl rfl ?_
      refine m_ic (pc := 92) (v := 1) dX12_readStep_92 rfl ?_
      refine s_icne (pc := 93) (tgt := 103) dX12_readStep_93 rfl (fun h93 => ?_) (fun h93 => absurd h93 (by decide))
      refine m_ic (pc := 103) (v := 0) dX12_readStep_103 rfl ?_
      refine m_v3 (pc := 104) dX12_readStep_104 lk_X12_294 ok_X12_tellsStep (rcO o_534 (by decide) rfl) rfl rfl (c_X12_tellsStep hm hs (by omega) (fun I1 f1 x1 f2 w1 w2 w3 w4 => kt_v ?_))
      · refine s_aload_n (pc := 107) (i := 0) dX12_readStep_107 rfl rfl ?_
        refine m_bi (pc := 108) (v := 59) dX12_readStep_108 rfl ?_
        refine m_v1 (pc := 110) dX12_readStep_110 lk_X12_223 ok_X12_sign (rcO o_534 (by decide) rfl) rfl rfl (c_sg (c := 59) (mx_f hm f1) q4 (by decide) (by decide) rfl (fun a9 r1 r2 r3 => kt_v ?_) (fun e r1 r2 r3 => kt_v ?_))
        · have E : stR t N (cb D) (cc D) true (lsR t N R (stopB t N) 150) (sk t N a) = .inr (sk t N a1, .inl (2, v, 0)) := by unfold stR; rw [if_neg (by rw [b13]; decide), if_neg (by rw [b14]; decide), if_pos b15]; unfold num1; rw [q1]
          refine s_return (pc := 113) dX12_readStep_113 rfl ?_
          exact hg a9 (.inl (2, v, 0)) I1 (by unfold itS; rw [E]; simp only []; rw [r1]) r2 f1 f2 w1 ⟨w2, w3, w4, trivial⟩
        · have E : stR t N (cb D) (cc D) true (lsR t N R (stopB t N) 150) (sk t N a) = .inr (sk t N a1, .inl (2, v, 0)) := by unfold stR; rw [if_neg (by rw [b13]; decide), if_neg (by rw [b14]; decide), if_pos b15]; unfold num1; rw [q1]
          refine s_return (pc := 113) dX12_readStep_113 rfl ?_
          exact hb e _ I1 _ (by unfold itS; rw [E]; simp only []; rw [r1]) f1 r3
  · have b13 : wB t N (sk t N a) 13 = false := wB_f.mpr (fun z => x13 ((wv_oc hsk (by decide) (by decide +kernel)).mpr z))
    have b14 : wB t N (sk t N a) 14 = false := wB_f.mpr (fun z => x14 ((wv_oc hsk (by decide) (by decide +kernel)).mpr z))
    have b15 : wB t N (sk t N a) 15 = false := wB_f.mpr (fun z => x15 ((wv_oc hsk (by decide) (by decide +kernel)).mpr z))
    have b16 : wB t N (sk t N a) 16 = true := wB_m.mpr ((wv_oc hsk (by decide) (by decide +kernel)).mp x16)
    refine s_istore_n (pc := 7) (i := 1) dX12_readStep_7 rfl (Nat.le_of_ble_eq_true rfl) ?_
    dsimp only [List.set, List.filter]
    refine s_iload_n (pc := 8) (i := 1) dX12_readStep_8 rfl rfl ?_
    refine m_ic (pc := 9) (v := -1) dX12_readStep_9 rfl ?_
    refine s_icne (pc := 10) (tgt := 25) dX12_readStep_10 rfl (fun h10 => ?_) (fun h10 => absurd h10 (by decide))
    refine s_iload_n (pc := 25) (i := 1) dX12_readStep_25 rfl rfl ?_
    refine m_ic (pc := 26) (v := 5) dX12_readStep_26 rfl ?_
    refine s_icne (pc := 27) (tgt := 37) dX12_readStep_27 rfl (fun h27 => ?_) (fun h27 => absurd h27 (by decide))
    refine s_aload_n (pc := 37) (i := 0) dX12_readStep_37 rfl rfl ?_
    refine m_v0 (pc := 38) dX12_readStep_38 lk_X12_217 ok_X12_pass (rcO o_534 (by decide) rfl) rfl rfl (c_X12_pass hm hsk (kt_v ?_))
    refine s_iload_n (pc := 41) (i := 1) dX12_readStep_41 rfl rfl ?_
    refine m_ic (pc := 42) (v := 4) dX12_readStep_42 rfl ?_
    refine s_icne (pc := 43) (tgt := 50) dX12_readStep_43 rfl (fun h43 => ?_) (fun h43 => absurd h43 (by decide))
    refine s_iload_n (pc := 50) (i := 1) dX12_readStep_50 rfl rfl ?_
    refine m_ic (pc := 51) (v := 2) dX12_readStep_51 rfl ?_
    refine s_icne (pc := 52) (tgt := 65) dX12_readStep_52 rfl (fun h52 => ?_) (fun h52 => absurd h52 (by decide))
    refine s_aload_n (pc := 65) (i := 0) dX12_readStep_65 rfl rfl ?_
    refine m_v0 (pc := 66) dX12_readStep_66 lk_X12_307 ok_X12_readBack (rcO o_534 (by decide) rfl) rfl rfl (c_X12_readBack h17 (by omega) hm hwE (fun e a1 q1 q2 q3 => kt_s ?_) (fun v a1 q1 q2 q3 q4 => kt_s ?_))
    · have hbad : nI e.2 ≠ -1 := (nI_m1 (by omega))
      refine s_istore_n (pc := 69) (i := 2) dX12_readStep_69 rfl (Nat.le_of_ble_eq_true rfl) ?_
      dsimp only [List.set, List.filter]
      refine s_aload_n (pc := 70) (i := 0) dX12_readStep_70 rfl rfl ?_
      refine s_iload_n (pc := 71) (i := 1) dX12_readStep_71 rfl rfl ?_
      refine s_iload_n (pc := 72) (i := 2) dX12_readStep_72 rfl rfl ?_
      refine s_iload_n (pc := 73) (i := 1) dX12_readStep_73 rfl rfl ?_
      refine s_ifne (pc := 74) (tgt := 91) dX12_readStep_74 rfl (fun h74 => ?_) (fun h74 => absurd h74 (by decide))
      refine s_iload_n (pc := 91) (i := 1) dX12_readStep_91 rfl rfl ?_
      refine m_ic (pc := 92) (v := 1) dX12_readStep_92 rfl ?_
      refine s_icne (pc := 93) (tgt := 103) dX12_readStep_93 rfl (fun h93 => ?_) (fun h93 => absurd h93 (by decide))
      refine m_ic (pc := 103) (v := 0) dX12_readStep_103 rfl ?_
      refine m_v3 (pc := 104) dX12_readStep_104 lk_X12_294 ok_X12_tellsStep (rcO o_534 (by decide) rfl) rfl rfl (c_tells_n hbad (kt_v ?_))
      refine s_aload_n (pc := 107) (i := 0) dX12_readStep_107 rfl rfl ?_
      refine m_bi (pc := 108) (v := 59) dX12_readStep_108 rfl ?_
      refine m_v1 (pc := 110) dX12_readStep_110 lk_X12_223 ok_X12_sign (rcO o_534 (by decide) rfl) rfl rfl (c_X12_sign_n hbad (kt_v ?_))
      refine s_return (pc := 113) dX12_readStep_113 rfl ?_
      have E : stR t N (cb D) (cc D) true (lsR t N R (stopB t N) 150) (sk t N a) = .inl e := by unfold stR; rw [if_neg (by rw [b13]; decide), if_neg (by rw [b14]; decide), if_neg (by rw [b15]; decide), if_pos b16]; unfold num1; rw [q1]
      exact hb e _ I _ (by unfold itS; rw [E]) fM_r q3
    · refine s_istore_n (pc := 69) (i := 2) dX12_readStep_69 rfl (Nat.le_of_ble_eq_true rfl) ?_
      dsimp only [List.set, List.filter]
      refine s_aload_n (pc := 70) (i := 0) dX12_readStep_70 rfl rfl ?_
      refine s_iload_n (pc := 71) (i := 1) dX12_readStep_71 rfl rfl ?_
      refine s_iload_n (pc := 72) (i := 2) dX12_readStep_72 rfl rfl ?_
      refine s_iload_n (pc := 73) (i := 1) dX12_readStep_73 rfl rfl ?_
      refine s_ifne (pc := 74) (tgt := 91) dX12_readStep_74 rfl (fun h74 => ?_) (fun h74 => absurd h74 (by decide))
      refine s_iload_n (pc := 91) (i := 1) dX12_readStep_91 rfl rfl ?_
      refine m_ic (pc := 92) (v := 1) dX12_readStep_92 rfl ?_
      refine s_icne (pc := 93) (tgt := 103) dX12_readStep_93 rfl (fun h93 => ?_) (fun h93 => absurd h93 (by decide))
      refine m_ic (pc := 103) (v := 0) dX12_readStep_103 rfl ?_
      refine m_v3 (pc := 104) dX12_readStep_104 lk_X12_294 ok_X12_tellsStep (rcO o_534 (by decide) rfl) rfl rfl (c_X12_tellsStep hm hs (by omega) (fun I1 f1 x1 f2 w1 w2 w3 w4 => kt_v ?_))
      · refine s_aload_n (pc := 107) (i := 0) dX12_readStep_107 rfl rfl ?_
        refine m_bi (pc := 108) (v := 59) dX12_readStep_108 rfl ?_
        refine m_v1 (pc := 110) dX12_readStep_110 lk_X12_223 ok_X12_sign (rcO o_534 (by decide) rfl) rfl rfl (c_sg (c := 59) (mx_f hm f1) q3 (by decide) (by decide) rfl (fun a9 r1 r2 r3 => kt_v ?_) (fun e r1 r2 r3 => kt_v ?_))
        · have E : stR t N (cb D) (cc D) true (lsR t N R (stopB t N) 150) (sk t N a) = .inr (sk t N a1, .inl (3, v, 0)) := by unfold stR; rw [if_neg (by rw [b13]; decide), if_neg (by rw [b14]; decide), if_neg (by rw [b15]; decide), if_pos b16]; unfold num1; rw [q1]
          refine s_return (pc := 113) dX12_readStep_113 rfl ?_
          exact hg a9 (.inl (3, v, 0)) I1 (by unfold itS; rw [E]; simp only []; rw [r1]) r2 f1 f2 w1 ⟨w2, w3, w4, trivial⟩
        · have E : stR t N (cb D) (cc D) true (lsR t N R (stopB t N) 150) (sk t N a) = .inr (sk t N a1, .inl (3, v, 0)) := by unfold stR; rw [if_neg (by rw [b13]; decide), if_neg (by rw [b14]; decide), if_neg (by rw [b15]; decide), if_pos b16]; unfold num1; rw [q1]
          refine s_return (pc := 113) dX12_readStep_113 rfl ?_
          exact hb e _ I1 _ (by unfold itS; rw [E]; simp only []; rw [r1]) f1 r3
  · have b13 : wB t N (sk t N a) 13 = false := wB_f.mpr (fun z => x13 ((wv_oc hsk (by decide) (by decide +kernel)).mpr z))
    have b14 : wB t N (sk t N a) 14 = false := wB_f.mpr (fun z => x14 ((wv_oc hsk (by decide) (by decide +kernel)).mpr z))
    have b15 : wB t N (sk t N a) 15 = false := wB_f.mpr (fun z => x15 ((wv_oc hsk (by decide) (by decide +kernel)).mpr z))
    have b16 : wB t N (sk t N a) 16 = false := wB_f.mpr (fun z => x16 ((wv_oc hsk (by decide) (by decide +kernel)).mpr z))
    have b10 : wB t N (sk t N a) 10 = true := wB_m.mpr ((wv_oc hsk (by decide) (by decide +kernel)).mp x10)
    refine s_istore_n (pc := 7) (i := 1) dX12_readStep_7 rfl (Nat.le_of_ble_eq_true rfl) ?_
    dsimp only [List.set, List.filter]
    refine s_iload_n (pc := 8) (i := 1) dX12_readStep_8 rfl rfl ?_
    refine m_ic (pc := 9) (v := -1) dX12_readStep_9 rfl ?_
    refine s_icne (pc := 10) (tgt := 25) dX12_readStep_10 rfl (fun h10 => ?_) (fun h10 => absurd h10 (by decide))
    refine s_iload_n (pc := 25) (i := 1) dX12_readStep_25 rfl rfl ?_
    refine m_ic (pc := 26) (v := 5) dX12_readStep_26 rfl ?_
    refine s_icne (pc := 27) (tgt := 37) dX12_readStep_27 rfl (fun h27 => ?_) (fun h27 => absurd h27 (by decide))
    refine s_aload_n (pc := 37) (i := 0) dX12_readStep_37 rfl rfl ?_
    refine m_v0 (pc := 38) dX12_readStep_38 lk_X12_217 ok_X12_pass (rcO o_534 (by decide) rfl) rfl rfl (c_X12_pass hm hsk (kt_v ?_))
    refine s_iload_n (pc := 41) (i := 1) dX12_readStep_41 rfl rfl ?_
    refine m_ic (pc := 42) (v := 4) dX12_readStep_42 rfl ?_
    refine s_icne (pc := 43) (tgt := 50) dX12_readStep_43 rfl (fun h43 => absurd h43 (by decide)) (fun h43 => ?_)
    refine m_ic (pc := 46) (v := 0) dX12_readStep_46 rfl ?_
    refine s_goto (pc := 47) (tgt := 69) dX12_readStep_47 rfl ?_
    refine s_istore_n (pc := 69) (i := 2) dX12_readStep_69 rfl (Nat.le_of_ble_eq_true rfl) ?_
    dsimp only [List.set, List.filter]
    refine s_aload_n (pc := 70) (i := 0) dX12_readStep_70 rfl rfl ?_
    refine s_iload_n (pc := 71) (i := 1) dX12_readStep_71 rfl rfl ?_
    refine s_iload_n (pc := 72) (i := 2) dX12_readStep_72 rfl rfl ?_
    refine s_iload_n (pc := 73) (i := 1) dX12_readStep_73 rfl rfl ?_
    refine s_ifne (pc := 74) (tgt := 91) dX12_readStep_74 rfl (fun h74 => ?_) (fun h74 => absurd h74 (by decide))
    refine s_iload_n (pc := 91) (i := 1) dX12_readStep_91 rfl rfl ?_
    refine m_ic (pc := 92) (v := 1) dX12_readStep_92 rfl ?_
    refine s_icne (pc := 93) (tgt := 103) dX12_readStep_93 rfl (fun h93 => ?_) (fun h93 => absurd h93 (by decide))
    refine m_ic (pc := 103) (v := 0) dX12_readStep_103 rfl ?_
    refine m_v3 (pc := 104) dX12_readStep_104 lk_X12_294 ok_X12_tellsStep (rcO o_534 (by decide) rfl) rfl rfl (c_X12_tellsStep hm hs (by omega) (fun I1 f1 x1 f2 w1 w2 w3 w4 => kt_v ?_))
    · refine s_aload_n (pc := 107) (i := 0) dX12_readStep_107 rfl rfl ?_
      refine m_bi (pc := 108) (v := 59) dX12_readStep_108 rfl ?_
      refine m_v1 (pc := 110) dX12_readStep_110 lk_X12_223 ok_X12_sign (rcO o_534 (by decide) rfl) rfl rfl (c_sg (c := 59) (mx_f hm f1) hwE (by decide) (by decide) rfl (fun a9 r1 r2 r3 => kt_v ?_) (fun e r1 r2 r3 => kt_v ?_))
      · have E : stR t N (cb D) (cc D) true (lsR t N R (stopB t N) 150) (sk t N a) = .inr (sk t N (wE t N (sk t N a)), .inl (4, 0, 0)) := by unfold stR; rw [if_neg (by rw [b13]; decide), if_neg (by rw [b14]; decide), if_neg (by rw [b15]; decide), if_neg (by rw [b16]; decide), if_pos b10]
        refine s_return (pc := 113) dX12_readStep_113 rfl ?_
        exact hg a9 (.inl (4, 0, 0)) I1 (by unfold itS; rw [E]; simp only []; rw [r1]) r2 f1 f2 w1 ⟨w2, w3, w4, trivial⟩
      · have E : stR t N (cb D) (cc D) true (lsR t N R (stopB t N) 150) (sk t N a) = .inr (sk t N (wE t N (sk t N a)), .inl (4, 0, 0)) := by unfold stR; rw [if_neg (by rw [b13]; decide), if_neg (by rw [b14]; decide), if_neg (by rw [b15]; decide), if_neg (by rw [b16]; decide), if_pos b10]
        refine s_return (pc := 113) dX12_readStep_113 rfl ?_
        exact hb e _ I1 _ (by unfold itS; rw [E]; simp only []; rw [r1]) f1 r3
  · have b13 : wB t N (sk t N a) 13 = false := wB_f.mpr (fun z => x13 ((wv_oc hsk (by decide) (by decide +kernel)).mpr z))
    have b14 : wB t N (sk t N a) 14 = false := wB_f.mpr (fun z => x14 ((wv_oc hsk (by decide) (by decide +kernel)).mpr z))
    have b15 : wB t N (sk t N a) 15 = false := wB_f.mpr (fun z => x15 ((wv_oc hsk (by decide) (by decide +kernel)).mpr z))
    have b16 : wB t N (sk t N a) 16 = false := wB_f.mpr (fun z => x16 ((wv_oc hsk (by decide) (by decide +kernel)).mpr z))
    have b10 : wB t N (sk t N a) 10 = false := wB_f.mpr (fun z => x10 ((wv_oc hsk (by decide) (by decide +kernel)).mpr z))
    have b17 : wB t N (sk t N a) 17 = true := wB_m.mpr ((wv_oc hsk (by decide) (by decide +kernel)).mp x17)
    have hl5 := wB_ln b17
    rw [sl_17] at hl5
    refine s_istore_n (pc := 7) (i := 1) dX12_readStep_7 rfl (Nat.le_of_ble_eq_true rfl) ?_
    dsimp only [List.set, List.filter]
    refine s_iload_n (pc := 8) (i := 1) dX12_readStep_8 rfl rfl ?_
    refine m_ic (pc := 9) (v := -1) dX12_readStep_9 rfl ?_
    refine s_icne (pc := 10) (tgt := 25) dX12_readStep_10 rfl (fun h10 => ?_) (fun h10 => absurd h10 (by decide))
    refine s_iload_n (pc := 25) (i := 1) dX12_readStep_25 rfl rfl ?_
    refine m_ic (pc := 26) (v := 5) dX12_readStep_26 rfl ?_
    refine s_icne (pc := 27) (tgt := 37) dX12_readStep_27 rfl (fun h27 => absurd h27 (by decide)) (fun h27 => ?_)
    refine s_aload_n (pc := 30) (i := 0) dX12_readStep_30 rfl rfl ?_
    refine m_v0 (pc := 31) dX12_readStep_31 lk_X12_304 ok_X12_readAgain (rcO o_534 (by decide) rfl) rfl rfl (c_X12_readAgain (k := k) hS hG hF ho hm (by omega) hN h17 h18 hk hs hs2 (fun e a1 I1 op1 q1 f1 q3 => kt_v ?_) (fun a1 x I1 q1 q2 f1 f2 w1 w2 => kt_v ?_))
    · have hbad : nI e.2 ≠ -1 := (nI_m1 (by omega))
      refine s_goto (pc := 34) (tgt := 107) dX12_readStep_34 rfl ?_
      refine s_aload_n (pc := 107) (i := 0) dX12_readStep_107 rfl rfl ?_
      refine m_bi (pc := 108) (v := 59) dX12_readStep_108 rfl ?_
      refine m_v1 (pc := 110) dX12_readStep_110 lk_X12_223 ok_X12_sign (rcO o_534 (by decide) rfl) rfl rfl (c_X12_sign_n hbad (kt_v ?_))
      refine s_return (pc := 113) dX12_readStep_113 rfl ?_
      have E : stR t N (cb D) (cc D) true (lsR t N R (stopB t N) 150) (sk t N a) = .inl e := by unfold stR; rw [if_neg (by rw [b13]; decide), if_neg (by rw [b14]; decide), if_neg (by rw [b15]; decide), if_neg (by rw [b16]; decide), if_neg (by rw [b10]; decide), if_pos b17]; rw [if_pos rfl, hl5]; exact q1
      exact hb e _ I1 _ (by unfold itS; rw [E]) f1 q3
    · refine s_goto (pc := 34) (tgt := 107) dX12_readStep_34 rfl ?_
      refine s_aload_n (pc := 107) (i := 0) dX12_readStep_107 rfl rfl ?_
      refine m_bi (pc := 108) (v := 59) dX12_readStep_108 rfl ?_
      refine m_v1 (pc := 110) dX12_readStep_110 lk_X12_223 ok_X12_sign (rcO o_534 (by decide) rfl) rfl rfl (c_sg (c := 59) (mx_f hm f1) q2 (by decide) (by decide) rfl (fun a9 r1 r2 r3 => kt_v ?_) (fun e r1 r2 r3 => kt_v ?_))
      · have E : stR t N (cb D) (cc D) true (lsR t N R (stopB t N) 150) (sk t N a) = .inr (sk t N a1, x) := by unfold stR; rw [if_neg (by rw [b13]; decide), if_neg (by rw [b14]; decide), if_neg (by rw [b15]; decide), if_neg (by rw [b16]; decide), if_neg (by rw [b10]; decide), if_pos b17]; rw [if_pos rfl, hl5]; exact q1
        refine s_return (pc := 113) dX12_readStep_113 rfl ?_
        exact hg a9 (x) I1 (by unfold itS; rw [E]; simp only []; rw [r1]) r2 f1 f2 w1 w2
      · have E : stR t N (cb D) (cc D) true (lsR t N R (stopB t N) 150) (sk t N a) = .inr (sk t N a1, x) := by unfold stR; rw [if_neg (by rw [b13]; decide), if_neg (by rw [b14]; decide), if_neg (by rw [b15]; decide), if_neg (by rw [b16]; decide), if_neg (by rw [b10]; decide), if_pos b17]; rw [if_pos rfl, hl5]; exact q1
        refine s_return (pc := 113) dX12_readStep_113 rfl ?_
        exact hb e _ I1 _ (by unfold itS; rw [E]; simp only []; rw [r1]) f1 r3
  · have b13 : wB t N (sk t N a) 13 = false := wB_f.mpr (fun z => x13 ((wv_oc hsk (by decide) (by decide +kernel)).mpr z))
    have b14 : wB t N (sk t N a) 14 = false := wB_f.mpr (fun z => x14 ((wv_oc hsk (by decide) (by decide +kernel)).mpr z))
    have b15 : wB t N (sk t N a) 15 = false := wB_f.mpr (fun z => x15 ((wv_oc hsk (by decide) (by decide +kernel)).mpr z))
    have b16 : wB t N (sk t N a) 16 = false := wB_f.mpr (fun z => x16 ((wv_oc hsk (by decide) (by decide +kernel)).mpr z))
    have b10 : wB t N (sk t N a) 10 = false := wB_f.mpr (fun z => x10 ((wv_oc hsk (by decide) (by decide +kernel)).mpr z))
    have b17 : wB t N (sk t N a) 17 = false := wB_f.mpr (fun z => x17 ((wv_oc hsk (by decide) (by decide +kernel)).mpr z))
    refine s_istore_n (pc := 7) (i := 1) dX12_readStep_7 rfl (Nat.le_of_ble_eq_true rfl) ?_
    dsimp only [List.set, List.filter]
    refine s_iload_n (pc := 8) (i := 1) dX12_readStep_8 rfl rfl ?_
    refine m_ic (pc := 9) (v := -1) dX12_readStep_9 rfl ?_
    refine s_icne (pc := 10) (tgt := 25) dX12_readStep_10 rfl (fun h10 => absurd h10 (by decide)) (fun h10 => ?_)
    refine s_aload_n (pc := 13) (i := 0) dX12_readStep_13 rfl rfl ?_
    refine m_ic (pc := 14) (v := 1) dX12_readStep_14 rfl ?_
    refine s_aload_n (pc := 15) (i := 0) dX12_readStep_15 rfl rfl ?_
    refine m_gi (pc := 16) dX12_readStep_16 ff_X12_108 rfl o_534 ?_
    refine m_nm (v' := nI (sk t N a)) rfl ?_
    refine m_v2 (pc := 19) dX12_readStep_19 lk_X12_138 ok_X12_wrong (rcO o_534 (by decide) rfl) rfl rfl (c_X12_wrong rfl (kt_v ?_))
    refine s_goto (pc := 22) (tgt := 107) dX12_readStep_22 rfl ?_
    have hbad : nI (sk t N a) ≠ -1 := (nI_m1 (by omega))
    refine s_aload_n (pc := 107) (i := 0) dX12_readStep_107 rfl rfl ?_
    refine m_bi (pc := 108) (v := 59) dX12_readStep_108 rfl ?_
    refine m_v1 (pc := 110) dX12_readStep_110 lk_X12_223 ok_X12_sign (rcO o_534 (by decide) rfl) rfl rfl (c_X12_sign_n hbad (kt_v ?_))
    refine s_return (pc := 113) dX12_readStep_113 rfl ?_
    have E : stR t N (cb D) (cc D) true (lsR t N R (stopB t N) 150) (sk t N a) = .inl (1, sk t N a) := by unfold stR; rw [if_neg (by rw [b13]; decide), if_neg (by rw [b14]; decide), if_neg (by rw [b15]; decide), if_neg (by rw [b16]; decide), if_neg (by rw [b10]; decide), if_neg (by rw [b17]; decide)]
    exact hb (1, sk t N a) _ I _ (by unfold itS; rw [E]) fM_r (by simp only []; omega)
/-- what stands under an again, L more deep -/
def stT (t : Nat → Nat) (N nb nc : Nat) : (L : Nat) → Nat → eT (iT (TB L))
  | 0 => stR t N nb nc false (fun _ => .inl (0, 0))
  | L + 1 => stR t N nb nc true (pT t N nb nc L)
theorem pT_st {nb nc : Nat} : ∀ L, pT t N nb nc L = lsR t N (stT t N nb nc L) (stopB t N) 150
  | 0 => rfl
  | _ + 1 => rfl
theorem stT_g {nb nc : Nat} : ∀ L, gI N (mlT L) (stT t N nb nc L)
  | 0 => stR_g (fun h => by cases h)
  | L + 1 => stR_g (fun _ => pT_g L)
theorem c_mstepL : ∀ L, L ≤ 6 → cMs g (2 * L + 6) t N D (mlT L) (PmT L) (stT t N (cb D) (cc D) L) (nI (6 - L))
  | 0, _ => c_mstep0
  | L + 1, h => by
    have ih := c_mstepL L (by omega)
    rw [show 6 - L = (6 - (L + 1)) + 1 by omega] at ih
    have h2 := c_mstepk (k := 2 * L) ih (stT_g L) (qF_T L) (by omega)
    rw [← pT_st] at h2
    exact h2
theorem pTop_st {nb nc : Nat} : pTop t N nb nc = lsR t N (stT t N nb nc 6) (stopE N) 150 := rfl
end S
