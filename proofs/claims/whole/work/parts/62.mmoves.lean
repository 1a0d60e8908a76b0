section S
variable {g : aG} {d : Nat} {I : Nat → Nat → Int32} {J : Nat → Nat → Int64} {n w : Nat} {Q : aO → aS → Prop}
variable {σ : aS} {S : sD} {D : cD} {cs : List Nat} {b c k : Nat}
theorem c_X12_isSat (hW : Wm I D cs S) (hb : b < cb D) (hc : c < cc D) (hf : sF S b = true → Q (.inl (some (.int 0))) (Z I J n w)) (ht : ∀ I', sF S b = false → fX I I' → Sm (I' 550) (sat D cs S b c) → Q (.inl (some (.int 1))) (Z I' J n w)) : Cn g (d + 6) mX12_isSat [.ref 534, .int (nI b), .int (nI c)] (Z I J n w) Q := by
  have hb7 := hW.2.1.1
  have hc12 := hW.2.1.2.1
  have hT := (hW.2.2.2.2.2.1 b).1
  have hB := bur_le (D := D) (cs := cs) (S := S) (b := b) (c := c) (k := 0) hW.2.1 hc
  have hS9 := (hW.2.1.2.2.2.1 b hb).2.1
  have hC9 := (hW.2.1.2.2.2.1 b hb).2.2
  have hL9 := (hW.2.1.2.2.2.2 c hc).2.2
  show Rn g (d + 6) mX12_isSat 0 [.ref 534, .int (nI b), .int (nI c)] [] [] (Z I J n w) Q
  refine s_aload_n (pc := 0) (i := 0) dX12_isSat_0 rfl rfl ?_
  refine m_gr (pc := 1) dX12_isSat_1 ff_X12_62 rfl o_534 r_534_37 ?_
  refine m_bi (pc := 4) (v := 91) dX12_isSat_4 rfl ?_
  refine s_iload_n (pc := 6) (i := 1) dX12_isSat_6 rfl rfl ?_
  refine s_iadd (pc := 7) dX12_isSat_7 ?_
  refine m_nm (v' := nI (91 + b)) (nI_add 91 b) ?_
  refine m_ia (pc := 8) dX12_isSat_8 a_550 (vp_in_nI (n := 91 + b) (by omega) (by decide)) ?_
  refine m_nm (v' := if sF S b = true then 1 else 0) (rdI (j := 91 + b) ((hW.2.2.2.2.1.1 b (by omega)).2.1) (by omega)) ?_
  refine m_ic (pc := 9) (v := 1) dX12_isSat_9 rfl ?_
  refine s_icne (pc := 10) (tgt := 15) dX12_isSat_10 rfl (fun h10 => ?_) (fun h10 => ?_)
  · have e : sF S b = false := ts_nt (fun z => h10 (if_pos z))
    refine s_aload_n (pc := 15) (i := 0) dX12_isSat_15 rfl rfl ?_
    refine m_gr (pc := 16) dX12_isSat_16 ff_X12_62 rfl o_534 r_534_37 ?_
    refine m_bi (pc := 19) (v := 84) dX12_isSat_19 rfl ?_
    refine s_iload_n (pc := 21) (i := 1) dX12_isSat_21 rfl rfl ?_
    refine s_iadd (pc := 22) dX12_isSat_22 ?_
    refine m_nm (v' := nI (84 + b)) (nI_add 84 b) ?_
    refine s_dup2 (pc := 23) dX12_isSat_23 rfl rfl ?_
    refine m_ia (pc := 24) dX12_isSat_24 a_550 (vp_in_nI (n := 84 + b) (by omega) (by decide)) ?_
    refine m_nm (v' := nI (sT S b)) (rdI (j := 84 + b) ((hW.2.2.2.2.1.1 b (by omega)).1) (by omega)) ?_
    refine s_aload_n (pc := 25) (i := 0) dX12_isSat_25 rfl rfl ?_
    refine s_iload_n (pc := 26) (i := 1) dX12_isSat_26 rfl rfl ?_
    refine s_iload_n (pc := 27) (i := 2) dX12_isSat_27 rfl rfl ?_
    refine m_v2 (pc := 28) dX12_isSat_28 lk_X12_348 ok_X12_burdenBy (rcO o_534 (by decide) rfl) rfl rfl (c_X12_burdenBy hW hb hc (fun I1 f1 => kt_s ?_))
    refine s_iadd (pc := 31) dX12_isSat_31 ?_
    refine m_nm (v' := nI ((sT S b) + (bur D cs S b c 0))) (nI_add (sT S b) (bur D cs S b c 0)) ?_
    refine m_is (pc := 32) dX12_isSat_32 a_550 (vp_in_nI (n := 84 + b) (by omega) (by decide)) ?_
    rw [nI_clamp (by omega)]
    obtain ⟨I2, e2⟩ : ∃ z, z = up I1 550 (84 + b) (nI (sT S b + bur D cs S b c 0)) := ⟨_, rfl⟩
    rw [← e2]
    have s2 : Sm (I2 550) (zT S b (sT S b + bur D cs S b c 0)) := by subst e2; exact Sm_T (by omega) (Wm_fm hW f1).2.2.2.2.1
    have g2 : fX I I2 := by subst e2; exact fX_u (fX_m f1)
    have M2 : Mo I2 17 539 540 D := Mo_fr hW.1 (fun x j z => g2 x j (by omega) (by omega) (by omega))
    refine s_aload_n (pc := 33) (i := 0) dX12_isSat_33 rfl rfl ?_
    refine m_gr (pc := 34) dX12_isSat_34 ff_X12_62 rfl o_534 r_534_37 ?_
    refine m_bi (pc := 37) (v := 84) dX12_isSat_37 rfl ?_
    refine s_iload_n (pc := 39) (i := 1) dX12_isSat_39 rfl rfl ?_
    refine s_iadd (pc := 40) dX12_isSat_40 ?_
    refine m_nm (v' := nI (84 + b)) (nI_add 84 b) ?_
    refine m_ia (pc := 41) dX12_isSat_41 a_550 (vp_in_nI (n := 84 + b) (by omega) (by decide)) ?_
    refine m_nm (v' := nI (sT S b + bur D cs S b c 0)) (rdI (j := 84 + b) ((s2.1 b (by omega)).1.trans (congrArg nI fs_s)) (by omega)) ?_
    refine s_aload_n (pc := 42) (i := 0) dX12_isSat_42 rfl rfl ?_
    refine m_gr (pc := 43) dX12_isSat_43 ff_X12_29 rfl o_534 r_534_12 ?_
    refine m_ic (pc := 46) (v := 2) dX12_isSat_46 rfl ?_
    refine s_iload_n (pc := 47) (i := 1) dX12_isSat_47 rfl rfl ?_
    refine s_imul (pc := 48) dX12_isSat_48 ?_
    refine m_nm (v' := nI (2 * b)) (pk_mul 2 b) ?_
    refine m_ia (pc := 49) dX12_isSat_49 a_539 (vp_in_nI (n := 2 * b) (by omega) (by decide)) ?_
    refine m_nm (v' := nI (cS D b)) (rdI (j := 2 * b) ((M2.2.2.2.1 b hb).1) (by omega)) ?_
    refine s_icle (pc := 50) (tgt := 66) dX12_isSat_50 rfl (fun h50 => ?_) (fun h50 => ?_)
    · have h50 : (sT S b + bur D cs S b c 0) ≤ (cS D b) := (nI_leI (a := sT S b + bur D cs S b c 0) (b := cS D b) (by omega) (by omega)).mp h50
      refine s_aload_n (pc := 66) (i := 0) dX12_isSat_66 rfl rfl ?_
      refine m_gr (pc := 67) dX12_isSat_67 ff_X12_32 rfl o_534 r_534_13 ?_
      refine m_ic (pc := 70) (v := 2) dX12_isSat_70 rfl ?_
      refine s_iload_n (pc := 71) (i := 2) dX12_isSat_71 rfl rfl ?_
      refine s_imul (pc := 72) dX12_isSat_72 ?_
      refine m_nm (v' := nI (2 * c)) (pk_mul 2 c) ?_
      refine m_ic (pc := 73) (v := 1) dX12_isSat_73 rfl ?_
      refine s_iadd (pc := 74) dX12_isSat_74 ?_
      refine m_nm (v' := nI ((2 * c) + 1)) (nI_add (2 * c) 1) ?_
      refine m_ia (pc := 75) dX12_isSat_75 a_540 (vp_in_nI (n := (2 * c) + 1) (by omega) (by decide)) ?_
      refine m_nm (v' := nI (cL D c)) (rdI (j := (2 * c) + 1) ((M2.2.2.2.2 c hc).2) (by omega)) ?_
      refine s_aload_n (pc := 76) (i := 0) dX12_isSat_76 rfl rfl ?_
      refine m_gr (pc := 77) dX12_isSat_77 ff_X12_29 rfl o_534 r_534_12 ?_
      refine m_ic (pc := 80) (v := 2) dX12_isSat_80 rfl ?_
      refine s_iload_n (pc := 81) (i := 1) dX12_isSat_81 rfl rfl ?_
      refine s_imul (pc := 82) dX12_isSat_82 ?_
      refine m_nm (v' := nI (2 * b)) (pk_mul 2 b) ?_
      refine m_ic (pc := 83) (v := 1) dX12_isSat_83 rfl ?_
      refine s_iadd (pc := 84) dX12_isSat_84 ?_
      refine m_nm (v' := nI ((2 * b) + 1)) (nI_add (2 * b) 1) ?_
      refine m_ia (pc := 85) dX12_isSat_85 a_539 (vp_in_nI (n := (2 * b) + 1) (by omega) (by decide)) ?_
      refine m_nm (v' := nI (cC D b)) (rdI (j := (2 * b) + 1) ((M2.2.2.2.1 b hb).2) (by omega)) ?_
      refine s_iadd (pc := 86) dX12_isSat_86 ?_
      refine m_nm (v' := nI ((cL D c) + (cC D b))) (nI_add (cL D c) (cC D b)) ?_
      refine m_bi (pc := 87) (v := 10) dX12_isSat_87 rfl ?_
      refine s_iclt (pc := 89) (tgt := 106) dX12_isSat_89 rfl (fun h89 => ?_) (fun h89 => ?_)
      · have h89 : ((cL D c) + (cC D b)) < 10 := (nI_ltI (a := (cL D c) + (cC D b)) (b := 10) (by omega) (by omega)).mp h89
        have s3 := s2
        have g3 := g2
        refine s_aload_n (pc := 106) (i := 0) dX12_isSat_106 rfl rfl ?_
        refine m_gr (pc := 107) dX12_isSat_107 ff_X12_62 rfl o_534 r_534_37 ?_
        refine m_bi (pc := 110) (v := 98) dX12_isSat_110 rfl ?_
        refine s_iload_n (pc := 112) (i := 1) dX12_isSat_112 rfl rfl ?_
        refine s_iadd (pc := 113) dX12_isSat_113 ?_
        refine m_nm (v' := nI (98 + b)) (nI_add 98 b) ?_
        refine s_dup2 (pc := 114) dX12_isSat_114 rfl rfl ?_
        refine m_ia (pc := 115) dX12_isSat_115 a_550 (vp_in_nI (n := 98 + b) (by omega) (by decide)) ?_
        refine m_nm (v' := sW S b) (rdI (j := 98 + b) ((s3.1 b (by omega)).2.2.1) (by omega)) ?_
        refine m_ic (pc := 116) (v := 1) dX12_isSat_116 rfl ?_
        refine s_iadd (pc := 117) dX12_isSat_117 ?_
        refine m_is (pc := 118) dX12_isSat_118 a_550 (vp_in_nI (n := 98 + b) (by omega) (by decide)) ?_
        rw [nI_clamp (n := 98 + b) (by omega)]
        refine s_aload_n (pc := 119) (i := 0) dX12_isSat_119 rfl rfl ?_
        refine m_gr (pc := 120) dX12_isSat_120 ff_X12_62 rfl o_534 r_534_37 ?_
        refine m_bi (pc := 123) (v := 105) dX12_isSat_123 rfl ?_
        refine s_iload_n (pc := 125) (i := 1) dX12_isSat_125 rfl rfl ?_
        refine s_iadd (pc := 126) dX12_isSat_126 ?_
        refine m_nm (v' := nI (105 + b)) (nI_add 105 b) ?_
        refine s_dup2 (pc := 127) dX12_isSat_127 rfl rfl ?_
        refine m_ia (pc := 128) dX12_isSat_128 a_550 (vp_in_nI (n := 105 + b) (by omega) (by decide)) ?_
        refine m_nm (v' := sB S b) (rdI (j := 105 + b) (by rw [up_k (by omega)]; exact (s3.1 b (by omega)).2.2.2) (by omega)) ?_
        refine m_ic (pc := 129) (v := 1) dX12_isSat_129 rfl ?_
        refine s_iload_n (pc := 130) (i := 2) dX12_isSat_130 rfl rfl ?_
        refine s_ishl (pc := 131) dX12_isSat_131 ?_
        refine s_ior (pc := 132) dX12_isSat_132 ?_
        refine m_is (pc := 133) dX12_isSat_133 a_550 (vp_in_nI (n := 105 + b) (by omega) (by decide)) ?_
        rw [nI_clamp (n := 105 + b) (by omega)]
        refine s_aload_n (pc := 134) (i := 0) dX12_isSat_134 rfl rfl ?_
        refine m_gr (pc := 135) dX12_isSat_135 ff_X12_62 rfl o_534 r_534_37 ?_
        refine m_bi (pc := 138) (v := 112) dX12_isSat_138 rfl ?_
        refine s_iload_n (pc := 140) (i := 2) dX12_isSat_140 rfl rfl ?_
        refine s_iadd (pc := 141) dX12_isSat_141 ?_
        refine m_nm (v' := nI (112 + c)) (nI_add 112 c) ?_
        refine s_dup2 (pc := 142) dX12_isSat_142 rfl rfl ?_
        refine m_ia (pc := 143) dX12_isSat_143 a_550 (vp_in_nI (n := 112 + c) (by omega) (by decide)) ?_
        refine m_nm (v' := sN S c) (rdI (j := 112 + c) (by rw [up_k (by omega), up_k (by omega)]; exact s3.2.2.1 c (by omega)) (by omega)) ?_
        refine m_ic (pc := 144) (v := 1) dX12_isSat_144 rfl ?_
        refine s_iadd (pc := 145) dX12_isSat_145 ?_
        refine m_is (pc := 146) dX12_isSat_146 a_550 (vp_in_nI (n := 112 + c) (by omega) (by decide)) ?_
        rw [nI_clamp (n := 112 + c) (by omega)]
        refine m_ic (pc := 147) (v := 1) dX12_isSat_147 rfl ?_
        refine s_ireturn (pc := 148) dX12_isSat_148 rfl rfl ?_
        exact ht _ e (fX_u (fX_u (fX_u g3))) (by unfold sat; rw [if_neg (by omega), if_neg (by omega)]; exact Sm_N (S := zB (zW (zT S b (sT S b + bur D cs S b c 0)) b (sW S b + 1)) b (sB S b ||| (1 : Int32) <<< (nI c &&& 31))) (by omega) (Sm_B (S := zW (zT S b (sT S b + bur D cs S b c 0)) b (sW S b + 1)) (by omega) (Sm_W (by omega) s3)))
      · have h89 : ¬ ((cL D c) + (cC D b)) < 10 := fun z => h89 ((nI_ltI (a := (cL D c) + (cC D b)) (b := 10) (by omega) (by omega)).mpr z)
        refine s_aload_n (pc := 92) (i := 0) dX12_isSat_92 rfl rfl ?_
        refine m_gr (pc := 93) dX12_isSat_93 ff_X12_62 rfl o_534 r_534_37 ?_
        refine m_ic (pc := 96) (v := 0) dX12_isSat_96 rfl ?_
        refine m_bi (pc := 97) (v := 12) dX12_isSat_97 rfl ?_
        refine s_iload_n (pc := 99) (i := 1) dX12_isSat_99 rfl rfl ?_
        refine s_imul (pc := 100) dX12_isSat_100 ?_
        refine m_nm (v' := nI (12 * b)) (pk_mul 12 b) ?_
        refine s_iadd (pc := 101) dX12_isSat_101 ?_
        refine m_nm (v' := nI (12 * b)) (nI_z _) ?_
        refine s_iload_n (pc := 102) (i := 2) dX12_isSat_102 rfl rfl ?_
        refine s_iadd (pc := 103) dX12_isSat_103 ?_
        refine m_nm (v' := nI ((12 * b) + c)) (nI_add (12 * b) c) ?_
        refine m_ic (pc := 104) (v := 0) dX12_isSat_104 rfl ?_
        refine m_is (pc := 105) dX12_isSat_105 a_550 (vp_in_nI (n := (12 * b) + c) (by omega) (by decide)) ?_
        rw [nI_clamp (by omega)]
        obtain ⟨I3, e3⟩ : ∃ z, z = up I2 550 (12 * b + c) 0 := ⟨_, rfl⟩
        rw [← e3]
        have s3 : Sm (I3 550) (zK (zT S b (sT S b + bur D cs S b c 0)) b c 0) := by subst e3; exact Sm_K (k0 := 0) (by omega) (by omega) s2
        have g3 : fX I I3 := by subst e3; exact fX_u g2
        refine s_aload_n (pc := 106) (i := 0) dX12_isSat_106 rfl rfl ?_
        refine m_gr (pc := 107) dX12_isSat_107 ff_X12_62 rfl o_534 r_534_37 ?_
        refine m_bi (pc := 110) (v := 98) dX12_isSat_110 rfl ?_
        refine s_iload_n (pc := 112) (i := 1) dX12_isSat_112 rfl rfl ?_
        refine s_iadd (pc := 113) dX12_isSat_113 ?_
        refine m_nm (v' := nI (98 + b)) (nI_add 98 b) ?_
        refine s_dup2 (pc := 114) dX12_isSat_114 rfl rfl ?_
        refine m_ia (pc := 115) dX12_isSat_115 a_550 (vp_in_nI (n := 98 + b) (by omega) (by decide)) ?_
        refine m_nm (v' := sW S b) (rdI (j := 98 + b) ((s3.1 b (by omega)).2.2.1) (by omega)) ?_
        refine m_ic (pc := 116) (v := 1) dX12_isSat_116 rfl ?_
        refine s_iadd (pc := 117) dX12_isSat_117 ?_
        refine m_is (pc := 118) dX12_isSat_118 a_550 (vp_in_nI (n := 98 + b) (by omega) (by decide)) ?_
        rw [nI_clamp (n := 98 + b) (by omega)]
        refine s_aload_n (pc := 119) (i := 0) dX12_isSat_119 rfl rfl ?_
        refine m_gr (pc := 120) dX12_isSat_120 ff_X12_62 rfl o_534 r_534_37 ?_
        refine m_bi (pc := 123) (v := 105) dX12_isSat_123 rfl ?_
        refine s_iload_n (pc := 125) (i := 1) dX12_isSat_125 rfl rfl ?_
        refine s_iadd (pc := 126) dX12_isSat_126 ?_
        refine m_nm (v' := nI (105 + b)) (nI_add 105 b) ?_
        refine s_dup2 (pc := 127) dX12_isSat_127 rfl rfl ?_
        refine m_ia (pc := 128) dX12_isSat_128 a_550 (vp_in_nI (n := 105 + b) (by omega) (by decide)) ?_
        refine m_nm (v' := sB S b) (rdI (j := 105 + b) (by rw [up_k (by omega)]; exact (s3.1 b (by omega)).2.2.2) (by omega)) ?_
        refine m_ic (pc := 129) (v := 1) dX12_isSat_129 rfl ?_
        refine s_iload_n (pc := 130) (i := 2) dX12_isSat_130 rfl rfl ?_
        refine s_ishl (pc := 131) dX12_isSat_131 ?_
        refine s_ior (pc := 132) dX12_isSat_132 ?_
        refine m_is (pc := 133) dX12_isSat_133 a_550 (vp_in_nI (n := 105 + b) (by omega) (by decide)) ?_
        rw [nI_clamp (n := 105 + b) (by omega)]
        refine s_aload_n (pc := 134) (i := 0) dX12_isSat_134 rfl rfl ?_
        refine m_gr (pc := 135) dX12_isSat_135 ff_X12_62 rfl o_534 r_534_37 ?_
        refine m_bi (pc := 138) (v := 112) dX12_isSat_138 rfl ?_
        refine s_iload_n (pc := 140) (i := 2) dX12_isSat_140 rfl rfl ?_
        refine s_iadd (pc := 141) dX12_isSat_141 ?_
        refine m_nm (v' := nI (112 + c)) (nI_add 112 c) ?_
        refine s_dup2 (pc := 142) dX12_isSat_142 rfl rfl ?_
        refine m_ia (pc := 143) dX12_isSat_143 a_550 (vp_in_nI (n := 112 + c) (by omega) (by decide)) ?_
        refine m_nm (v' := sN S c) (rdI (j := 112 + c) (by rw [up_k (by omega), up_k (by omega)]; exact s3.2.2.1 c (by omega)) (by omega)) ?_
        refine m_ic (pc := 144) (v := 1) dX12_isSat_144 rfl ?_
        refine s_iadd (pc := 145) dX12_isSat_145 ?_
        refine m_is (pc := 146) dX12_isSat_146 a_550 (vp_in_nI (n := 112 + c) (by omega) (by decide)) ?_
        rw [nI_clamp (n := 112 + c) (by omega)]
        refine m_ic (pc := 147) (v := 1) dX12_isSat_147 rfl ?_
        refine s_ireturn (pc := 148) dX12_isSat_148 rfl rfl ?_
        exact ht _ e (fX_u (fX_u (fX_u g3))) (by unfold sat; rw [if_neg (by omega), if_pos (by omega)]; exact Sm_N (S := zB (zW (zK (zT S b (sT S b + bur D cs S b c 0)) b c 0) b (sW S b + 1)) b (sB S b ||| (1 : Int32) <<< (nI c &&& 31))) (by omega) (Sm_B (S := zW (zK (zT S b (sT S b + bur D cs S b c 0)) b c 0) b (sW S b + 1)) (by omega) (Sm_W (by omega) s3)))
    · have h50 : ¬ (sT S b + bur D cs S b c 0) ≤ (cS D b) := fun z => h50 ((nI_leI (a := sT S b + bur D cs S b c 0) (b := cS D b) (by omega) (by omega)).mpr z)
      refine s_aload_n (pc := 53) (i := 0) dX12_isSat_53 rfl rfl ?_
      refine m_gr (pc := 54) dX12_isSat_54 ff_X12_62 rfl o_534 r_534_37 ?_
      refine m_bi (pc := 57) (v := 91) dX12_isSat_57 rfl ?_
      refine s_iload_n (pc := 59) (i := 1) dX12_isSat_59 rfl rfl ?_
      refine s_iadd (pc := 60) dX12_isSat_60 ?_
      refine m_nm (v' := nI (91 + b)) (nI_add 91 b) ?_
      refine m_ic (pc := 61) (v := 1) dX12_isSat_61 rfl ?_
      refine m_is (pc := 62) dX12_isSat_62 a_550 (vp_in_nI (n := 91 + b) (by omega) (by decide)) ?_
      rw [nI_clamp (by omega)]
      obtain ⟨I3, e3⟩ : ∃ z, z = up I2 550 (91 + b) 1 := ⟨_, rfl⟩
      rw [← e3]
      have s3 : Sm (I3 550) (zF (zT S b (sT S b + bur D cs S b c 0)) b true) := by subst e3; exact Sm_F (v := true) (by omega) s2
      have g3 : fX I I3 := by subst e3; exact fX_u g2
      refine s_goto (pc := 63) (tgt := 106) dX12_isSat_63 rfl ?_
      refine s_aload_n (pc := 106) (i := 0) dX12_isSat_106 rfl rfl ?_
      refine m_gr (pc := 107) dX12_isSat_107 ff_X12_62 rfl o_534 r_534_37 ?_
      refine m_bi (pc := 110) (v := 98) dX12_isSat_110 rfl ?_
      refine s_iload_n (pc := 112) (i := 1) dX12_isSat_112 rfl rfl ?_
      refine s_iadd (pc := 113) dX12_isSat_113 ?_
      refine m_nm (v' := nI (98 + b)) (nI_add 98 b) ?_
      refine s_dup2 (pc := 114) dX12_isSat_114 rfl rfl ?_
      refine m_ia (pc := 115) dX12_isSat_115 a_550 (vp_in_nI (n := 98 + b) (by omega) (by decide)) ?_
      refine m_nm (v' := sW S b) (rdI (j := 98 + b) ((s3.1 b (by omega)).2.2.1) (by omega)) ?_
      refine m_ic (pc := 116) (v := 1) dX12_isSat_116 rfl ?_
      refine s_iadd (pc := 117) dX12_isSat_117 ?_
      refine m_is (pc := 118) dX12_isSat_118 a_550 (vp_in_nI (n := 98 + b) (by omega) (by decide)) ?_
      rw [nI_clamp (n := 98 + b) (by omega)]
      refine s_aload_n (pc := 119) (i := 0) dX12_isSat_119 rfl rfl ?_
      refine m_gr (pc := 120) dX12_isSat_120 ff_X12_62 rfl o_534 r_534_37 ?_
      refine m_bi (pc := 123) (v := 105) dX12_isSat_123 rfl ?_
      refine s_iload_n (pc := 125) (i := 1) dX12_isSat_125 rfl rfl ?_
      refine s_iadd (pc := 126) dX12_isSat_126 ?_
      refine m_nm (v' := nI (105 + b)) (nI_add 105 b) ?_
      refine s_dup2 (pc := 127) dX12_isSat_127 rfl rfl ?_
      refine m_ia (pc := 128) dX12_isSat_128 a_550 (vp_in_nI (n := 105 + b) (by omega) (by decide)) ?_
      refine m_nm (v' := sB S b) (rdI (j := 105 + b) (by rw [up_k (by omega)]; exact (s3.1 b (by omega)).2.2.2) (by omega)) ?_
      refine m_ic (pc := 129) (v := 1) dX12_isSat_129 rfl ?_
      refine s_iload_n (pc := 130) (i := 2) dX12_isSat_130 rfl rfl ?_
      refine s_ishl (pc := 131) dX12_isSat_131 ?_
      refine s_ior (pc := 132) dX12_isSat_132 ?_
      refine m_is (pc := 133) dX12_isSat_133 a_550 (vp_in_nI (n := 105 + b) (by omega) (by decide)) ?_
      rw [nI_clamp (n := 105 + b) (by omega)]
      refine s_aload_n (pc := 134) (i := 0) dX12_isSat_134 rfl rfl ?_
      refine m_gr (pc := 135) dX12_isSat_135 ff_X12_62 rfl o_534 r_534_37 ?_
      refine m_bi (pc := 138) (v := 112) dX12_isSat_138 rfl ?_
      refine s_iload_n (pc := 140) (i := 2) dX12_isSat_140 rfl rfl ?_
      refine s_iadd (pc := 141) dX12_isSat_141 ?_
      refine m_nm (v' := nI (112 + c)) (nI_add 112 c) ?_
      refine s_dup2 (pc := 142) dX12_isSat_142 rfl rfl ?_
      refine m_ia (pc := 143) dX12_isSat_143 a_550 (vp_in_nI (n := 112 + c) (by omega) (by decide)) ?_
      refine m_nm (v' := sN S c) (rdI (j := 112 + c) (by rw [up_k (by omega), up_k (by omega)]; exact s3.2.2.1 c (by omega)) (by omega)) ?_
      refine m_ic (pc := 144) (v := 1) dX12_isSat_144 rfl ?_
      refine s_iadd (pc := 145) dX12_isSat_145 ?_
      refine m_is (pc := 146) dX12_isSat_146 a_550 (vp_in_nI (n := 112 + c) (by omega) (by decide)) ?_
      rw [nI_clamp (n := 112 + c) (by omega)]
      refine m_ic (pc := 147) (v := 1) dX12_isSat_147 rfl ?_
      refine s_ireturn (pc := 148) dX12_isSat_148 rfl rfl ?_
      exact ht _ e (fX_u (fX_u (fX_u g3))) (by unfold sat; rw [if_pos (by omega)]; exact Sm_N (S := zB (zW (zF (zT S b (sT S b + bur D cs S b c 0)) b true) b (sW S b + 1)) b (sB S b ||| (1 : Int32) <<< (nI c &&& 31))) (by omega) (Sm_B (S := zW (zF (zT S b (sT S b + bur D cs S b c 0)) b true) b (sW S b + 1)) (by omega) (Sm_W (by omega) s3)))
  · have e : sF S b = true := ts_nf (fun z => by rw [if_neg (by rw [z]; decide)] at h10; exact absurd h10 (by decide))
    refine m_ic (pc := 13) (v := 0) dX12_isSat_13 rfl ?_
    refine s_ireturn (pc := 14) dX12_isSat_14 rfl rfl ?_
    exact hf e
theorem c_X12_newsOf (hW : Wm I D cs S) {a : Nat} (ha : a < cb D) (hb : b < cb D) (hf : hnw S a b = false → Q (.inl (some (.int 0))) (Z I J n w)) (ht : hnw S a b = true → Q (.inl (some (.int (nI (bs (nws S a b) 12))))) (Z I J n w)) : Cn g (d + 2) mX12_newsOf [.ref 534, .int (nI a), .int (nI b)] (Z I J n w) Q := by
  have hb7 := hW.2.1.1
  have hc12 := hW.2.1.2.1
  show Rn g (d + 2) mX12_newsOf 0 [.ref 534, .int (nI a), .int (nI b)] [] [] (Z I J n w) Q
  refine s_iload_n (pc := 0) (i := 1) dX12_newsOf_0 rfl rfl ?_
  refine s_iload_n (pc := 1) (i := 2) dX12_newsOf_1 rfl rfl ?_
  refine s_iceq (pc := 2) (tgt := 31) dX12_newsOf_2 rfl (fun h2 => ?_) (fun h2 => ?_)
  · have h2 : a = b := (nI_eq (a := a) (b := b) (by omega) (by omega)).mp h2
    refine m_ic (pc := 31) (v := 0) dX12_newsOf_31 rfl ?_
    refine s_goto (pc := 32) (tgt := 48) dX12_newsOf_32 rfl ?_
    refine s_ireturn (pc := 48) dX12_newsOf_48 rfl rfl ?_
    exact hf (hnw_1 (Or.inl h2))
  · have h2 : ¬ a = b := fun z => h2 ((nI_eq (a := a) (b := b) (by omega) (by omega)).mpr z)
    refine s_aload_n (pc := 5) (i := 0) dX12_newsOf_5 rfl rfl ?_
    refine m_gr (pc := 6) dX12_newsOf_6 ff_X12_62 rfl o_534 r_534_37 ?_
    refine m_bi (pc := 9) (v := 91) dX12_newsOf_9 rfl ?_
    refine s_iload_n (pc := 11) (i := 1) dX12_newsOf_11 rfl rfl ?_
    refine s_iadd (pc := 12) dX12_newsOf_12 ?_
    refine m_nm (v' := nI (91 + a)) (nI_add 91 a) ?_
    refine m_ia (pc := 13) dX12_newsOf_13 a_550 (vp_in_nI (n := 91 + a) (by omega) (by decide)) ?_
    refine m_nm (v' := if sF S a = true then 1 else 0) (rdI (j := 91 + a) ((hW.2.2.2.2.1.1 a (by omega)).2.1) (by omega)) ?_
    refine m_ic (pc := 14) (v := 1) dX12_newsOf_14 rfl ?_
    refine s_iceq (pc := 15) (tgt := 31) dX12_newsOf_15 rfl (fun h15 => ?_) (fun h15 => ?_)
    · have e : sF S a = true := ts_nf (fun z => by rw [if_neg (by rw [z]; decide)] at h15; exact absurd h15 (by decide))
      refine m_ic (pc := 31) (v := 0) dX12_newsOf_31 rfl ?_
      refine s_goto (pc := 32) (tgt := 48) dX12_newsOf_32 rfl ?_
      refine s_ireturn (pc := 48) dX12_newsOf_48 rfl rfl ?_
      exact hf (hnw_1 (Or.inr (Or.inl e)))
    · have e : sF S a = false := ts_nt (fun z => h15 (if_pos z))
      refine s_aload_n (pc := 18) (i := 0) dX12_newsOf_18 rfl rfl ?_
      refine m_gr (pc := 19) dX12_newsOf_19 ff_X12_62 rfl o_534 r_534_37 ?_
      refine m_bi (pc := 22) (v := 91) dX12_newsOf_22 rfl ?_
      refine s_iload_n (pc := 24) (i := 2) dX12_newsOf_24 rfl rfl ?_
      refine s_iadd (pc := 25) dX12_newsOf_25 ?_
      refine m_nm (v' := nI (91 + b)) (nI_add 91 b) ?_
      refine m_ia (pc := 26) dX12_newsOf_26 a_550 (vp_in_nI (n := 91 + b) (by omega) (by decide)) ?_
      refine m_nm (v' := if sF S b = true then 1 else 0) (rdI (j := 91 + b) ((hW.2.2.2.2.1.1 b (by omega)).2.1) (by omega)) ?_
      refine m_ic (pc := 27) (v := 1) dX12_newsOf_27 rfl ?_
      refine s_icne (pc := 28) (tgt := 35) dX12_newsOf_28 rfl (fun h28 => ?_) (fun h28 => ?_)
      · have e3 : sF S b = false := ts_nt (fun z => h28 (if_pos z))
        refine s_aload_n (pc := 35) (i := 0) dX12_newsOf_35 rfl rfl ?_
        refine s_iload_n (pc := 36) (i := 1) dX12_newsOf_36 rfl rfl ?_
        refine m_v1 (pc := 37) dX12_newsOf_37 lk_X12_335 ok_X12_knownBy (rcO o_534 (by decide) rfl) rfl rfl (c_X12_knownBy hW ha (kt_s ?_))
        refine s_aload_n (pc := 40) (i := 0) dX12_newsOf_40 rfl rfl ?_
        refine s_iload_n (pc := 41) (i := 2) dX12_newsOf_41 rfl rfl ?_
        refine m_v1 (pc := 42) dX12_newsOf_42 lk_X12_335 ok_X12_knownBy (rcO o_534 (by decide) rfl) rfl rfl (c_X12_knownBy hW hb (kt_s ?_))
        refine m_ic (pc := 45) (v := -1) dX12_newsOf_45 rfl ?_
        refine s_ixor (pc := 46) dX12_newsOf_46 ?_
        refine s_iand (pc := 47) dX12_newsOf_47 ?_
        refine s_ireturn (pc := 48) dX12_newsOf_48 rfl rfl ?_
        cases hh : hnw S a b with
        | true => rw [bs_an (by decide)]; exact ht hh
        | false => rw [(hnw_iff h2 e e3).mpr hh]; exact hf hh
      · have e3 : sF S b = true := ts_nf (fun z => by rw [if_neg (by rw [z]; decide)] at h28; exact absurd h28 (by decide))
        refine m_ic (pc := 31) (v := 0) dX12_newsOf_31 rfl ?_
        refine s_goto (pc := 32) (tgt := 48) dX12_newsOf_32 rfl ?_
        refine s_ireturn (pc := 48) dX12_newsOf_48 rfl rfl ?_
        exact hf (hnw_1 (Or.inr (Or.inr e3)))
theorem nws_no (h : sOk D S) {a : Nat} (hc : cc D ≤ c) : nws S a b c = false := by
  unfold nws
  cases e : sK S a c with
  | none => rfl
  | some v => have := (h.2.1 a c v e).2.2; omega
theorem tol_up (h : sOk D S) {a : Nat} : ∀ r, tol S a b (cc D + r) = tol S a b (cc D)
  | 0 => rfl
  | r + 1 => by
    rw [show cc D + (r + 1) = (cc D + r) + 1 by omega, tol, if_neg (by rw [nws_no h (by omega)]; decide)]
    exact tol_up h r
theorem tol_12 (h : sOk D S) (hk : cOk D) {a : Nat} : tol S a b (cc D) = tol S a b 12 := by
  have := tol_up (b := b) h (a := a) (12 - cc D)
  rw [show cc D + (12 - cc D) = 12 by have := hk.2.1; omega] at this
  exact this.symm
theorem ob_lt {v : Nat} (h : v ≤ 9) : (ob (some v) = nI v) := rfl
theorem td_l0 (hW : Wm I D cs S) {a : Nat} (hq : Q (.inl (some (.int 0))) (Z I J n w)) : ∀ f i, i + f = cc D → Rn g (d + 3) mX12_isToldOn 10 [.ref 534, .int (nI a), .int (nI b), .int 0, .int (nI i)] [] [] (Z I J n w) Q := by
  intro f
  induction f with
  | zero =>
    intro i hi
    have e : i = cc D := by omega
    subst e
    have hc12 := hW.2.1.2.1
    refine s_iload (pc := 10) (i := 4) dX12_isToldOn_10 rfl ?_
    refine s_aload_n (pc := 12) (i := 0) dX12_isToldOn_12 rfl rfl ?_
    refine m_gi (pc := 13) dX12_isToldOn_13 ff_X12_157 rfl o_534 ?_
    refine m_nm (v' := nI (cc D)) (hW.1.2.1) ?_
    refine s_icge (pc := 16) (tgt := 75) dX12_isToldOn_16 rfl (fun h16 => ?_) (fun h16 => absurd (nI_le (a := cc D) (b := (cc D)) (by omega) (by omega)) h16)
    refine s_iload_n (pc := 75) (i := 3) dX12_isToldOn_75 rfl rfl ?_
    refine s_ifeq (pc := 76) (tgt := 83) dX12_isToldOn_76 rfl (fun h76 => ?_) (fun h76 => absurd h76 (by decide))
    refine m_ic (pc := 83) (v := 0) dX12_isToldOn_83 rfl ?_
    refine s_ireturn (pc := 84) dX12_isToldOn_84 rfl rfl ?_
    exact hq
  | succ f ih =>
    intro i hi
    have hc12 := hW.2.1.2.1
    refine s_iload (pc := 10) (i := 4) dX12_isToldOn_10 rfl ?_
    refine s_aload_n (pc := 12) (i := 0) dX12_isToldOn_12 rfl rfl ?_
    refine m_gi (pc := 13) dX12_isToldOn_13 ff_X12_157 rfl o_534 ?_
    refine m_nm (v' := nI (cc D)) (hW.1.2.1) ?_
    refine s_icge (pc := 16) (tgt := 75) dX12_isToldOn_16 rfl (fun h16 => absurd h16 (nI_ge (a := i) (b := cc D) (by omega) (by omega))) (fun h16 => ?_)
    refine s_iload_n (pc := 19) (i := 3) dX12_isToldOn_19 rfl rfl ?_
    refine s_iload (pc := 20) (i := 4) dX12_isToldOn_20 rfl ?_
    refine s_ishr (pc := 22) dX12_isToldOn_22 ?_
    refine m_ic (pc := 23) (v := 1) dX12_isToldOn_23 rfl ?_
    refine s_iand (pc := 24) dX12_isToldOn_24 ?_
    refine m_nm (v' := 0) (by rw [Int32.zero_shiftRight]; rfl) ?_
    refine m_ic (pc := 25) (v := 1) dX12_isToldOn_25 rfl ?_
    refine s_icne (pc := 26) (tgt := 69) dX12_isToldOn_26 rfl (fun h26 => ?_) (fun h26 => absurd h26 (by decide))
    refine m_inc (pc := 69) (v := 1) dX12_isToldOn_69 rfl rfl ?_
    dsimp only [List.set, List.filter]
    rw [nI_1]
    refine s_goto (pc := 72) (tgt := 10) dX12_isToldOn_72 rfl ?_
    exact ih (i + 1)  (by omega)
theorem td_lp {a : Nat} (hW : Wm I D cs S) (hn : hnw S a b = true) (ha : a < cb D) (hb : b < cb D) (hq : ∀ I', fX I I' → Sm (I' 550) (tol S a b 12) → Q (.inl (some (.int 1))) (Z I' J n w)) : ∀ f i I1, i + f = cc D → fX I I1 → Sm (I1 550) (tol S a b i) → Rn g (d + 3) mX12_isToldOn 10 [.ref 534, .int (nI a), .int (nI b), .int (nI (bs (nws S a b) 12)), .int (nI i)] [] [] (Z I1 J n w) Q := by
  have hb7 := hW.2.1.1
  have hc12 := hW.2.1.2.1
  have hab : a ≠ b := fun z => by rw [hnw_1 (Or.inl z)] at hn; cases hn
  have h0 : ¬ nI (bs (nws S a b) 12) = 0 := fun z => by
    have h1 := (bs_0 (by decide)).mp z
    have h2 : (List.range 12).any (nws S a b) = true := by unfold hnw at hn; simp only [Bool.and_eq_true] at hn; exact hn.2
    obtain ⟨x, hx, hx2⟩ := List.any_eq_true.mp h2
    rw [h1 x (List.mem_range.mp hx)] at hx2; cases hx2
  intro f
  induction f with
  | zero =>
    intro i I1 hi hF hS
    have e : i = cc D := by omega
    subst e
    have M1 : Mo I1 17 539 540 D := Mo_fr hW.1 (fun x j z => hF x j (by omega) (by omega) (by omega))
    refine s_iload (pc := 10) (i := 4) dX12_isToldOn_10 rfl ?_
    refine s_aload_n (pc := 12) (i := 0) dX12_isToldOn_12 rfl rfl ?_
    refine m_gi (pc := 13) dX12_isToldOn_13 ff_X12_157 rfl o_534 ?_
    refine m_nm (v' := nI (cc D)) (M1.2.1) ?_
    refine s_icge (pc := 16) (tgt := 75) dX12_isToldOn_16 rfl (fun h16 => ?_) (fun h16 => absurd (nI_le (a := cc D) (b := cc D) (by omega) (by omega)) h16)
    refine s_iload_n (pc := 75) (i := 3) dX12_isToldOn_75 rfl rfl ?_
    refine s_ifeq (pc := 76) (tgt := 83) dX12_isToldOn_76 rfl (fun h76 => absurd h76 (h0)) (fun h76 => ?_)
    refine m_ic (pc := 79) (v := 1) dX12_isToldOn_79 rfl ?_
    refine s_goto (pc := 80) (tgt := 84) dX12_isToldOn_80 rfl ?_
    refine s_ireturn (pc := 84) dX12_isToldOn_84 rfl rfl ?_
    exact hq I1 hF (by rw [← tol_12 hW.2.2.2.2.2 hW.2.1]; exact hS)
  | succ f ih =>
    intro i I1 hi hF hS
    have M1 : Mo I1 17 539 540 D := Mo_fr hW.1 (fun x j z => hF x j (by omega) (by omega) (by omega))
    refine s_iload (pc := 10) (i := 4) dX12_isToldOn_10 rfl ?_
    refine s_aload_n (pc := 12) (i := 0) dX12_isToldOn_12 rfl rfl ?_
    refine m_gi (pc := 13) dX12_isToldOn_13 ff_X12_157 rfl o_534 ?_
    refine m_nm (v' := nI (cc D)) (M1.2.1) ?_
    refine s_icge (pc := 16) (tgt := 75) dX12_isToldOn_16 rfl (fun h16 => absurd h16 (nI_ge (a := i) (b := cc D) (by omega) (by omega))) (fun h16 => ?_)
    refine s_iload_n (pc := 19) (i := 3) dX12_isToldOn_19 rfl rfl ?_
    refine s_iload (pc := 20) (i := 4) dX12_isToldOn_20 rfl ?_
    refine s_ishr (pc := 22) dX12_isToldOn_22 ?_
    refine m_ic (pc := 23) (v := 1) dX12_isToldOn_23 rfl ?_
    refine s_iand (pc := 24) dX12_isToldOn_24 ?_
    refine m_nm (v' := if nws S a b i = true then 1 else 0) (nws_bit (by omega)) ?_
    refine m_ic (pc := 25) (v := 1) dX12_isToldOn_25 rfl ?_
    refine s_icne (pc := 26) (tgt := 69) dX12_isToldOn_26 rfl (fun h26 => ?_) (fun h26 => ?_)
    · have e : ¬ nws S a b i = true := fun z => h26 (if_pos z)
      refine m_inc (pc := 69) (v := 1) dX12_isToldOn_69 rfl rfl ?_
      dsimp only [List.set, List.filter]
      rw [nI_1]
      refine s_goto (pc := 72) (tgt := 10) dX12_isToldOn_72 rfl ?_
      exact ih (i + 1) I1 (by omega) hF (by rw [tol, if_neg e]; exact hS)
    · have e : nws S a b i = true := ts_nf (fun z => by rw [if_neg (by rw [z]; decide)] at h26; exact absurd h26 (by decide))
      obtain ⟨v, ev1⟩ := nws_s e
      have ev2 : sK (tol S a b i) a i = some v := by rw [tol_k hab, if_neg (fun z => hab z.1), ev1]
      have ev3 := (hW.2.2.2.2.2.2.1 _ _ _ ev1).1
      refine s_aload_n (pc := 29) (i := 0) dX12_isToldOn_29 rfl rfl ?_
      refine m_gr (pc := 30) dX12_isToldOn_30 ff_X12_62 rfl o_534 r_534_37 ?_
      refine m_ic (pc := 33) (v := 0) dX12_isToldOn_33 rfl ?_
      refine m_bi (pc := 34) (v := 12) dX12_isToldOn_34 rfl ?_
      refine s_iload_n (pc := 36) (i := 2) dX12_isToldOn_36 rfl rfl ?_
      refine s_imul (pc := 37) dX12_isToldOn_37 ?_
      refine m_nm (v' := nI (12 * b)) (pk_mul 12 b) ?_
      refine s_iadd (pc := 38) dX12_isToldOn_38 ?_
      refine m_nm (v' := nI (12 * b)) (nI_z _) ?_
      refine s_iload (pc := 39) (i := 4) dX12_isToldOn_39 rfl ?_
      refine s_iadd (pc := 41) dX12_isToldOn_41 ?_
      refine m_nm (v' := nI ((12 * b) + i)) (nI_add (12 * b) i) ?_
      refine s_aload_n (pc := 42) (i := 0) dX12_isToldOn_42 rfl rfl ?_
      refine s_iload_n (pc := 43) (i := 1) dX12_isToldOn_43 rfl rfl ?_
      refine s_iload (pc := 44) (i := 4) dX12_isToldOn_44 rfl ?_
      refine m_v2 (pc := 46) dX12_isToldOn_46 lk_X12_329 ok_X12_heardOf (rcO o_534 (by decide) rfl) rfl rfl (c_X12_heardOf hS (by omega) (by omega) (kt_s ?_))
      rw [ev2]
      show Rn _ _ _ _ _ _ (.int (nI v) :: _) _ _
      refine m_bi (pc := 49) (v := 9) dX12_isToldOn_49 rfl ?_
      refine s_icge (pc := 51) (tgt := 66) dX12_isToldOn_51 rfl (fun h51 => ?_) (fun h51 => ?_)
      · have h51 : 9 ≤ v := (nI_leI (a := 9) (b := v) (by omega) (by omega)).mp h51
        refine m_bi (pc := 66) (v := 9) dX12_isToldOn_66 rfl ?_
        refine m_is (pc := 68) dX12_isToldOn_68 a_550 (vp_in_nI (n := (12 * b) + i) (by omega) (by decide)) ?_
        rw [nI_clamp (n := (12 * b) + i) (by omega)]
        refine m_inc (pc := 69) (v := 1) dX12_isToldOn_69 rfl rfl ?_
        dsimp only [List.set, List.filter]
        rw [nI_1]
        refine s_goto (pc := 72) (tgt := 10) dX12_isToldOn_72 rfl ?_
        exact ih (i + 1) _ (by omega) (fX_u hF) (by rw [tol, if_pos e, ev1, show min 9 ((some v).getD 0 + 1) = 9 from Nat.min_eq_left (by simp only [Option.getD_some]; omega)]; exact Sm_K (k0 := 9) (by omega) (by omega) hS)
      · have h51 : ¬ 9 ≤ v := fun z => h51 ((nI_leI (a := 9) (b := v) (by omega) (by omega)).mpr z)
        refine s_aload_n (pc := 54) (i := 0) dX12_isToldOn_54 rfl rfl ?_
        refine s_iload_n (pc := 55) (i := 1) dX12_isToldOn_55 rfl rfl ?_
        refine s_iload (pc := 56) (i := 4) dX12_isToldOn_56 rfl ?_
        refine m_v2 (pc := 58) dX12_isToldOn_58 lk_X12_329 ok_X12_heardOf (rcO o_534 (by decide) rfl) rfl rfl (c_X12_heardOf hS (by omega) (by omega) (kt_s ?_))
        rw [ev2]
        show Rn _ _ _ _ _ _ (.int (nI v) :: _) _ _
        refine m_ic (pc := 61) (v := 1) dX12_isToldOn_61 rfl ?_
        refine s_iadd (pc := 62) dX12_isToldOn_62 ?_
        refine m_nm (v' := nI (v + 1)) (nI_add v 1) ?_
        refine s_goto (pc := 63) (tgt := 68) dX12_isToldOn_63 rfl ?_
        refine m_is (pc := 68) dX12_isToldOn_68 a_550 (vp_in_nI (n := (12 * b) + i) (by omega) (by decide)) ?_
        rw [nI_clamp (n := (12 * b) + i) (by omega)]
        refine m_inc (pc := 69) (v := 1) dX12_isToldOn_69 rfl rfl ?_
        dsimp only [List.set, List.filter]
        rw [nI_1]
        refine s_goto (pc := 72) (tgt := 10) dX12_isToldOn_72 rfl ?_
        exact ih (i + 1) _ (by omega) (fX_u hF) (by rw [tol, if_pos e, ev1, show min 9 ((some v).getD 0 + 1) = v + 1 from Nat.min_eq_right (by simp only [Option.getD_some]; omega)]; exact Sm_K (by omega) (by omega) hS)
theorem c_X12_isToldOn (hW : Wm I D cs S) {a : Nat} (ha : a < cb D) (hb : b < cb D) (hf : hnw S a b = false → Q (.inl (some (.int 0))) (Z I J n w)) (ht : ∀ I', hnw S a b = true → fX I I' → Sm (I' 550) (tol S a b 12) → Q (.inl (some (.int 1))) (Z I' J n w)) : Cn g (d + 3) mX12_isToldOn [.ref 534, .int (nI a), .int (nI b)] (Z I J n w) Q := by
  show Rn g (d + 3) mX12_isToldOn 0 [.ref 534, .int (nI a), .int (nI b), .retAddr 0, .retAddr 0] [] [] (Z I J n w) Q
  refine s_aload_n (pc := 0) (i := 0) dX12_isToldOn_0 rfl rfl ?_
  refine s_iload_n (pc := 1) (i := 1) dX12_isToldOn_1 rfl rfl ?_
  refine s_iload_n (pc := 2) (i := 2) dX12_isToldOn_2 rfl rfl ?_
  refine m_v2 (pc := 3) dX12_isToldOn_3 lk_X12_351 ok_X12_newsOf (rcO o_534 (by decide) rfl) rfl rfl (c_X12_newsOf hW ha hb (fun h => kt_s ?_) (fun h => kt_s ?_))
  · refine s_istore_n (pc := 6) (i := 3) dX12_isToldOn_6 rfl (Nat.le_of_ble_eq_true rfl) ?_
    dsimp only [List.set, List.filter]
    refine m_ic (pc := 7) (v := 0) dX12_isToldOn_7 rfl ?_
    refine s_istore (pc := 8) (i := 4) dX12_isToldOn_8 (Nat.le_of_ble_eq_true rfl) ?_
    dsimp only [List.set, List.filter]
    exact td_l0 hW (hf h) (cc D) 0 (by omega)
  · refine s_istore_n (pc := 6) (i := 3) dX12_isToldOn_6 rfl (Nat.le_of_ble_eq_true rfl) ?_
    dsimp only [List.set, List.filter]
    refine m_ic (pc := 7) (v := 0) dX12_isToldOn_7 rfl ?_
    refine s_istore (pc := 8) (i := 4) dX12_isToldOn_8 (Nat.le_of_ble_eq_true rfl) ?_
    dsimp only [List.set, List.filter]
    exact td_lp hW h ha hb (fun I' z1 z2 => ht I' h z1 z2) (cc D) 0 I (by omega) fX_r hW.2.2.2.2.1
theorem c_X12_isRaised (hW : Wm I D cs S) (hk : k ≤ 40) (hf : (sH S = k ∨ ck D < k) → Q (.inl (some (.int 0))) (Z I J n w)) (ht : ∀ I', ¬ (sH S = k ∨ ck D < k) → fX I I' → Sm (I' 550) (zH S k) → Q (.inl (some (.int 1))) (Z I' J n w)) : Cn g (d + 0) mX12_isRaised [.ref 534, .int (nI k)] (Z I J n w) Q := by
  have hH := hW.2.2.2.2.2.2.2.2
  have hK := hW.2.1.2.2.1.2
  show Rn g (d + 0) mX12_isRaised 0 [.ref 534, .int (nI k)] [] [] (Z I J n w) Q
  refine s_iload_n (pc := 0) (i := 1) dX12_isRaised_0 rfl rfl ?_
  refine s_aload_n (pc := 1) (i := 0) dX12_isRaised_1 rfl rfl ?_
  refine m_gi (pc := 2) dX12_isRaised_2 ff_X12_160 rfl o_534 ?_
  refine m_nm (v' := nI (ck D)) (hW.1.2.2.1) ?_
  refine s_icgt (pc := 5) (tgt := 19) dX12_isRaised_5 rfl (fun h5 => ?_) (fun h5 => ?_)
  · have h5 : (ck D) < k := (nI_ltI (a := ck D) (b := k) (by omega) (by omega)).mp h5
    refine m_ic (pc := 19) (v := 0) dX12_isRaised_19 rfl ?_
    refine s_ireturn (pc := 20) dX12_isRaised_20 rfl rfl ?_
    exact hf (Or.inr h5)
  · have h5 : ¬ (ck D) < k := fun z => h5 ((nI_ltI (a := ck D) (b := k) (by omega) (by omega)).mpr z)
    refine s_iload_n (pc := 8) (i := 1) dX12_isRaised_8 rfl rfl ?_
    refine s_aload_n (pc := 9) (i := 0) dX12_isRaised_9 rfl rfl ?_
    refine m_gr (pc := 10) dX12_isRaised_10 ff_X12_62 rfl o_534 r_534_37 ?_
    refine m_bi (pc := 13) (v := 124) dX12_isRaised_13 rfl ?_
    refine m_ia (pc := 15) dX12_isRaised_15 a_550 (vp_in_nI (n := 124) (by omega) (by decide)) ?_
    refine m_nm (v' := nI (sH S)) (rdI (j := 124) (hW.2.2.2.2.1.2.2.2.1) (by omega)) ?_
    refine s_icne (pc := 16) (tgt := 21) dX12_isRaised_16 rfl (fun h16 => ?_) (fun h16 => ?_)
    · have h16 : ¬ k = (sH S) := fun z => h16 ((nI_eq (a := k) (b := sH S) (by omega) (by omega)).mpr z)
      refine s_aload_n (pc := 21) (i := 0) dX12_isRaised_21 rfl rfl ?_
      refine m_gr (pc := 22) dX12_isRaised_22 ff_X12_62 rfl o_534 r_534_37 ?_
      refine m_bi (pc := 25) (v := 124) dX12_isRaised_25 rfl ?_
      refine s_iload_n (pc := 27) (i := 1) dX12_isRaised_27 rfl rfl ?_
      refine m_is (pc := 28) dX12_isRaised_28 a_550 (vp_in_nI (n := 124) (by omega) (by decide)) ?_
      rw [show Int32.toNatClampNeg 124 = 124 from rfl]
      refine m_ic (pc := 29) (v := 1) dX12_isRaised_29 rfl ?_
      refine s_ireturn (pc := 30) dX12_isRaised_30 rfl rfl ?_
      exact ht _ (by omega) (fX_u fX_r) (Sm_H hW.2.2.2.2.1)
    · have h16 : k = (sH S) := (nI_eq (a := k) (b := sH S) (by omega) (by omega)).mp h16
      refine m_ic (pc := 19) (v := 0) dX12_isRaised_19 rfl ?_
      refine s_ireturn (pc := 20) dX12_isRaised_20 rfl rfl ?_
      exact hf (Or.inl h16.symm)
theorem c_X12_isRested (hW : Wm I D cs S) (hb : b < cb D) (hf : sT S b = 0 → Q (.inl (some (.int 0))) (Z I J n w)) (ht : ∀ I', ¬ sT S b = 0 → fX I I' → Sm (I' 550) (rst S b) → Q (.inl (some (.int 1))) (Z I' J n w)) : Cn g (d + 0) mX12_isRested [.ref 534, .int (nI b)] (Z I J n w) Q := by
  have hb7 := hW.2.1.1
  have hc12 := hW.2.1.2.1
  have hT := (hW.2.2.2.2.2.1 b).1
  show Rn g (d + 0) mX12_isRested 0 [.ref 534, .int (nI b)] [] [] (Z I J n w) Q
  refine s_aload_n (pc := 0) (i := 0) dX12_isRested_0 rfl rfl ?_
  refine m_gr (pc := 1) dX12_isRested_1 ff_X12_62 rfl o_534 r_534_37 ?_
  refine m_bi (pc := 4) (v := 84) dX12_isRested_4 rfl ?_
  refine s_iload_n (pc := 6) (i := 1) dX12_isRested_6 rfl rfl ?_
  refine s_iadd (pc := 7) dX12_isRested_7 ?_
  refine m_nm (v' := nI (84 + b)) (nI_add 84 b) ?_
  refine m_ia (pc := 8) dX12_isRested_8 a_550 (vp_in_nI (n := 84 + b) (by omega) (by decide)) ?_
  refine m_nm (v' := nI (sT S b)) (rdI (j := 84 + b) ((hW.2.2.2.2.1.1 b (by omega)).1) (by omega)) ?_
  refine s_ifne (pc := 9) (tgt := 14) dX12_isRested_9 rfl (fun h9 => ?_) (fun h9 => ?_)
  · have h9 : ¬ (sT S b) = 0 := fun z => h9 ((nI_eq (a := sT S b) (b := 0) (by omega) (by omega)).mpr z)
    refine s_aload_n (pc := 14) (i := 0) dX12_isRested_14 rfl rfl ?_
    refine m_gr (pc := 15) dX12_isRested_15 ff_X12_62 rfl o_534 r_534_37 ?_
    refine m_bi (pc := 18) (v := 84) dX12_isRested_18 rfl ?_
    refine s_iload_n (pc := 20) (i := 1) dX12_isRested_20 rfl rfl ?_
    refine s_iadd (pc := 21) dX12_isRested_21 ?_
    refine m_nm (v' := nI (84 + b)) (nI_add 84 b) ?_
    refine s_dup2 (pc := 22) dX12_isRested_22 rfl rfl ?_
    refine m_ia (pc := 23) dX12_isRested_23 a_550 (vp_in_nI (n := 84 + b) (by omega) (by decide)) ?_
    refine m_nm (v' := nI (sT S b)) (rdI (j := 84 + b) ((hW.2.2.2.2.1.1 b (by omega)).1) (by omega)) ?_
    refine m_ic (pc := 24) (v := 2) dX12_isRested_24 rfl ?_
    refine s_idiv (pc := 25) dX12_isRested_25 (by decide) ?_
    refine m_nm (v' := nI (sT S b / 2)) (pk_div (d := 2) (by omega) (by decide) (by decide)) ?_
    refine m_is (pc := 26) dX12_isRested_26 a_550 (vp_in_nI (n := 84 + b) (by omega) (by decide)) ?_
    rw [nI_clamp (n := 84 + b) (by omega)]
    refine s_aload_n (pc := 27) (i := 0) dX12_isRested_27 rfl rfl ?_
    refine m_gr (pc := 28) dX12_isRested_28 ff_X12_62 rfl o_534 r_534_37 ?_
    refine m_bi (pc := 31) (v := 91) dX12_isRested_31 rfl ?_
    refine s_iload_n (pc := 33) (i := 1) dX12_isRested_33 rfl rfl ?_
    refine s_iadd (pc := 34) dX12_isRested_34 ?_
    refine m_nm (v' := nI (91 + b)) (nI_add 91 b) ?_
    refine m_ic (pc := 35) (v := 0) dX12_isRested_35 rfl ?_
    refine m_is (pc := 36) dX12_isRested_36 a_550 (vp_in_nI (n := 91 + b) (by omega) (by decide)) ?_
    rw [nI_clamp (n := 91 + b) (by omega)]
    refine m_ic (pc := 37) (v := 1) dX12_isRested_37 rfl ?_
    refine s_ireturn (pc := 38) dX12_isRested_38 rfl rfl ?_
    exact ht _ h9 (fX_u (fX_u fX_r)) (Sm_F (S := zT S b (sT S b / 2)) (v := false) (by omega) (Sm_T (by omega) hW.2.2.2.2.1))
  · have h9 : (sT S b) = 0 := (nI_eq (a := sT S b) (b := 0) (by omega) (by omega)).mp h9
    refine m_ic (pc := 12) (v := 0) dX12_isRested_12 rfl ?_
    refine s_ireturn (pc := 13) dX12_isRested_13 rfl rfl ?_
    exact hf h9
theorem neg_sub {T m : Nat} (hT : T < 2 ^ 30) (hm : m < 2 ^ 30) (h : ¬ 0 ≤ nI T - nI m) : T - m = 0 := by
  by_cases e : m ≤ T
  · rw [pk_sub e] at h; exact absurd (nI_pos' (by omega)) h
  · omega
theorem pos_sub {T m : Nat} (hT : T < 2 ^ 30) (hm : m < 2 ^ 30) (h : 0 ≤ nI T - nI m) : nI T - nI m = nI (T - m) := by
  by_cases e : m ≤ T
  · exact pk_sub e
  · exact absurd (pk_sneg (a := T) hm (by omega)) (Int32.not_lt.mpr h)
theorem ps_lp (hW : Wm I D cs S) (hq : ∀ I', fX I I' → Sm (I' 550) (pss D S) → Q (.inl none) (Z I' J n w)) : ∀ f i I1 (v2 : Value), i + f = cb D → fX I I1 → Sm (I1 550) (psT D S i) → Rn g (d + 0) mX12_passes 2 [.ref 534, .int (nI i), v2] [] [] (Z I1 J n w) Q := by
  have hb7 := hW.2.1.1
  intro f
  induction f with
  | zero =>
    intro i I1 v2 hi hF hS
    have e : i = cb D := by omega
    subst e
    have M1 : Mo I1 17 539 540 D := Mo_fr hW.1 (fun x j z => hF x j (by omega) (by omega) (by omega))
    refine s_iload_n (pc := 2) (i := 1) dX12_passes_2 rfl rfl ?_
    refine s_aload_n (pc := 3) (i := 0) dX12_passes_3 rfl rfl ?_
    refine m_gi (pc := 4) dX12_passes_4 ff_X12_154 rfl o_534 ?_
    refine m_nm (v' := nI (cb D)) (M1.1) ?_
    refine s_icge (pc := 7) (tgt := 57) dX12_passes_7 rfl (fun h7 => ?_) (fun h7 => absurd (nI_le (a := cb D) (b := cb D) (by omega) (by omega)) h7)
    refine s_aload_n (pc := 57) (i := 0) dX12_passes_57 rfl rfl ?_
    refine m_gr (pc := 58) dX12_passes_58 ff_X12_62 rfl o_534 r_534_37 ?_
    refine m_bi (pc := 61) (v := 125) dX12_passes_61 rfl ?_
    refine s_dup2 (pc := 63) dX12_passes_63 rfl rfl ?_
    refine m_ia (pc := 64) dX12_passes_64 a_550 (vp_in_nI (n := 125) (by omega) (by decide)) ?_
    refine m_nm (v' := nI (sY S)) (rdI (j := 125) (hS.2.2.2.2.trans (congrArg nI ((psT_o (D := D) (S := S) (cb D)).2.2.2.2.2.1))) (by omega)) ?_
    refine m_ic (pc := 65) (v := 1) dX12_passes_65 rfl ?_
    refine s_iadd (pc := 66) dX12_passes_66 ?_
    refine m_nm (v' := nI ((sY S) + 1)) (nI_add (sY S) 1) ?_
    refine m_is (pc := 67) dX12_passes_67 a_550 (vp_in_nI (n := 125) (by omega) (by decide)) ?_
    rw [show Int32.toNatClampNeg 125 = 125 from rfl]
    refine s_return (pc := 68) dX12_passes_68 rfl ?_
    exact hq _ (fX_u hF) (Sm_Y hS)
  | succ f ih =>
    intro i I1 v2 hi hF hS
    have M1 : Mo I1 17 539 540 D := Mo_fr hW.1 (fun x j z => hF x j (by omega) (by omega) (by omega))
    have hT := (hW.2.2.2.2.2.1 i).1
    have hC := (hW.2.1.2.2.2.1 i (by omega)).2.2
    have hT2 : sT (psT D S i) i = sT S i := by rw [psT_T, if_neg (by omega)]
    refine s_iload_n (pc := 2) (i := 1) dX12_passes_2 rfl rfl ?_
    refine s_aload_n (pc := 3) (i := 0) dX12_passes_3 rfl rfl ?_
    refine m_gi (pc := 4) dX12_passes_4 ff_X12_154 rfl o_534 ?_
    refine m_nm (v' := nI (cb D)) (M1.1) ?_
    refine s_icge (pc := 7) (tgt := 57) dX12_passes_7 rfl (fun h7 => absurd h7 (nI_ge (a := i) (b := cb D) (by omega) (by omega))) (fun h7 => ?_)
    refine s_aload_n (pc := 10) (i := 0) dX12_passes_10 rfl rfl ?_
    refine m_gr (pc := 11) dX12_passes_11 ff_X12_62 rfl o_534 r_534_37 ?_
    refine m_bi (pc := 14) (v := 84) dX12_passes_14 rfl ?_
    refine s_iload_n (pc := 16) (i := 1) dX12_passes_16 rfl rfl ?_
    refine s_iadd (pc := 17) dX12_passes_17 ?_
    refine m_nm (v' := nI (84 + i)) (nI_add 84 i) ?_
    refine m_ia (pc := 18) dX12_passes_18 a_550 (vp_in_nI (n := 84 + i) (by omega) (by decide)) ?_
    refine m_nm (v' := nI (sT S i)) (rdI (j := 84 + i) ((hS.1 i (by omega)).1.trans (congrArg nI hT2)) (by omega)) ?_
    refine m_ic (pc := 19) (v := 5) dX12_passes_19 rfl ?_
    refine s_isub (pc := 20) dX12_passes_20 ?_
    refine s_aload_n (pc := 21) (i := 0) dX12_passes_21 rfl rfl ?_
    refine m_gr (pc := 22) dX12_passes_22 ff_X12_29 rfl o_534 r_534_12 ?_
    refine m_ic (pc := 25) (v := 2) dX12_passes_25 rfl ?_
    refine s_iload_n (pc := 26) (i := 1) dX12_passes_26 rfl rfl ?_
    refine s_imul (pc := 27) dX12_passes_27 ?_
    refine m_nm (v' := nI (2 * i)) (pk_mul 2 i) ?_
    refine m_ic (pc := 28) (v := 1) dX12_passes_28 rfl ?_
    refine s_iadd (pc := 29) dX12_passes_29 ?_
    refine m_nm (v' := nI ((2 * i) + 1)) (nI_add (2 * i) 1) ?_
    refine m_ia (pc := 30) dX12_passes_30 a_539 (vp_in_nI (n := (2 * i) + 1) (by omega) (by decide)) ?_
    refine m_nm (v' := nI (cC D i)) (rdI (j := (2 * i) + 1) ((M1.2.2.2.1 i (by omega)).2) (by omega)) ?_
    refine s_isub (pc := 31) dX12_passes_31 ?_
    refine m_nm (v' := nI (sT S i) - nI (1 * (5 + cC D i))) (by rw [Int32.sub_sub, show (5 : Int32) = nI 5 from rfl, nI_add, Nat.one_mul]) ?_
    refine s_istore_n (pc := 32) (i := 2) dX12_passes_32 rfl (Nat.le_of_ble_eq_true rfl) ?_
    dsimp only [List.set, List.filter]
    refine s_aload_n (pc := 33) (i := 0) dX12_passes_33 rfl rfl ?_
    refine m_gr (pc := 34) dX12_passes_34 ff_X12_62 rfl o_534 r_534_37 ?_
    refine m_bi (pc := 37) (v := 84) dX12_passes_37 rfl ?_
    refine s_iload_n (pc := 39) (i := 1) dX12_passes_39 rfl rfl ?_
    refine s_iadd (pc := 40) dX12_passes_40 ?_
    refine m_nm (v' := nI (84 + i)) (nI_add 84 i) ?_
    refine s_iload_n (pc := 41) (i := 2) dX12_passes_41 rfl rfl ?_
    refine s_ifge (pc := 42) (tgt := 49) dX12_passes_42 rfl (fun h42 => ?_) (fun h42 => ?_)
    · rw [pos_sub (by omega) (by omega) h42]
      refine s_iload_n (pc := 49) (i := 2) dX12_passes_49 rfl rfl ?_
      refine m_is (pc := 50) dX12_passes_50 a_550 (vp_in_nI (n := 84 + i) (by omega) (by decide)) ?_
      rw [nI_clamp (n := 84 + i) (by omega)]
      refine m_inc (pc := 51) (v := 1) dX12_passes_51 rfl rfl ?_
      dsimp only [List.set, List.filter]
      rw [nI_1]
      refine s_goto (pc := 54) (tgt := 2) dX12_passes_54 rfl ?_
      exact ih (i + 1) _ _ (by omega) (fX_u hF) (Sm_T (by omega) hS)
    · have hz := neg_sub (by omega) (by omega) h42
      refine m_ic (pc := 45) (v := 0) dX12_passes_45 rfl ?_
      refine s_goto (pc := 46) (tgt := 50) dX12_passes_46 rfl ?_
      refine m_is (pc := 50) dX12_passes_50 a_550 (vp_in_nI (n := 84 + i) (by omega) (by decide)) ?_
      rw [nI_clamp (n := 84 + i) (by omega)]
      refine m_inc (pc := 51) (v := 1) dX12_passes_51 rfl rfl ?_
      dsimp only [List.set, List.filter]
      rw [nI_1]
      refine s_goto (pc := 54) (tgt := 2) dX12_passes_54 rfl ?_
      exact ih (i + 1) _ _ (by omega) (fX_u hF) (by rw [psT, show tin D S i 1 = 0 from hz]; exact Sm_T (v := 0) (by omega) hS)
theorem c_X12_passes (hW : Wm I D cs S) (hq : ∀ I', fX I I' → Sm (I' 550) (pss D S) → Q (.inl none) (Z I' J n w)) : Cn g (d + 0) mX12_passes [.ref 534] (Z I J n w) Q := by
  show Rn g (d + 0) mX12_passes 0 [.ref 534, .retAddr 0, .retAddr 0] [] [] (Z I J n w) Q
  refine m_ic (pc := 0) (v := 0) dX12_passes_0 rfl ?_
  refine s_istore_n (pc := 1) (i := 1) dX12_passes_1 rfl (Nat.le_of_ble_eq_true rfl) ?_
  dsimp only [List.set, List.filter]
  exact ps_lp hW hq (cb D) 0 I _ (by omega) fX_r hW.2.2.2.2.1
theorem c_X12_bears (hW : Wm I D cs S) (hb : b < cb D) (hc : c < cc D) (ht : ∀ I', brs D cs S b c 0 = true → fm I I' → Q (.inl (some (.int 1))) (Z I' J n w)) (hf : ∀ I', brs D cs S b c 0 = false → fm I I' → Q (.inl (some (.int 0))) (Z I' J n w)) : Cn g (d + 6) mX12_bears [.ref 534, .int (nI b), .int (nI c)] (Z I J n w) Q := by
  have hb7 := hW.2.1.1
  have hc12 := hW.2.1.2.1
  have tin0 : tin D S b 0 = sT S b := by unfold tin; rw [Nat.zero_mul, Nat.sub_zero]
  have hT := (hW.2.2.2.2.2.1 b).1
  have hB := bur_le (D := D) (cs := cs) (S := S) (b := b) (c := c) (k := 0) hW.2.1 hc
  have hS9 := (hW.2.1.2.2.2.1 b hb).2.1
  show Rn g (d + 6) mX12_bears 0 [.ref 534, .int (nI b), .int (nI c)] [] [] (Z I J n w) Q
  refine s_aload_n (pc := 0) (i := 0) dX12_bears_0 rfl rfl ?_
  refine m_gr (pc := 1) dX12_bears_1 ff_X12_62 rfl o_534 r_534_37 ?_
  refine m_bi (pc := 4) (v := 91) dX12_bears_4 rfl ?_
  refine s_iload_n (pc := 6) (i := 1) dX12_bears_6 rfl rfl ?_
  refine s_iadd (pc := 7) dX12_bears_7 ?_
  refine m_nm (v' := nI (91 + b)) (nI_add 91 b) ?_
  refine m_ia (pc := 8) dX12_bears_8 a_550 (vp_in_nI (n := 91 + b) (by omega) (by decide)) ?_
  refine m_nm (v' := if sF S b = true then 1 else 0) (rdI (j := 91 + b) ((hW.2.2.2.2.1.1 b (by omega)).2.1) (by omega)) ?_
  refine s_ifne (pc := 9) (tgt := 43) dX12_bears_9 rfl (fun h9 => ?_) (fun h9 => ?_)
  · have e : sF S b = true := ts_nf (fun z => h9 (by rw [if_neg (by rw [z]; decide)]))
    refine m_ic (pc := 43) (v := 0) dX12_bears_43 rfl ?_
    refine s_ireturn (pc := 44) dX12_bears_44 rfl rfl ?_
    exact hf I (by unfold brs; rw [e]; rfl) fm_r
  · have e : sF S b = false := ts_nt (fun z => by rw [if_pos z] at h9; exact absurd h9 (by decide))
    refine s_aload_n (pc := 12) (i := 0) dX12_bears_12 rfl rfl ?_
    refine m_gr (pc := 13) dX12_bears_13 ff_X12_62 rfl o_534 r_534_37 ?_
    refine m_bi (pc := 16) (v := 84) dX12_bears_16 rfl ?_
    refine s_iload_n (pc := 18) (i := 1) dX12_bears_18 rfl rfl ?_
    refine s_iadd (pc := 19) dX12_bears_19 ?_
    refine m_nm (v' := nI (84 + b)) (nI_add 84 b) ?_
    refine m_ia (pc := 20) dX12_bears_20 a_550 (vp_in_nI (n := 84 + b) (by omega) (by decide)) ?_
    refine m_nm (v' := nI (sT S b)) (rdI (j := 84 + b) ((hW.2.2.2.2.1.1 b (by omega)).1) (by omega)) ?_
    refine s_aload_n (pc := 21) (i := 0) dX12_bears_21 rfl rfl ?_
    refine s_iload_n (pc := 22) (i := 1) dX12_bears_22 rfl rfl ?_
    refine s_iload_n (pc := 23) (i := 2) dX12_bears_23 rfl rfl ?_
    refine m_v2 (pc := 24) dX12_bears_24 lk_X12_348 ok_X12_burdenBy (rcO o_534 (by decide) rfl) rfl rfl (c_X12_burdenBy hW hb hc (fun I1 f1 => kt_s ?_))
    refine s_iadd (pc := 27) dX12_bears_27 ?_
    refine m_nm (v' := nI ((sT S b) + (bur D cs S b c 0))) (nI_add (sT S b) (bur D cs S b c 0)) ?_
    refine s_aload_n (pc := 28) (i := 0) dX12_bears_28 rfl rfl ?_
    refine m_gr (pc := 29) dX12_bears_29 ff_X12_29 rfl o_534 r_534_12 ?_
    refine m_ic (pc := 32) (v := 2) dX12_bears_32 rfl ?_
    refine s_iload_n (pc := 33) (i := 1) dX12_bears_33 rfl rfl ?_
    refine s_imul (pc := 34) dX12_bears_34 ?_
    refine m_nm (v' := nI (2 * b)) (pk_mul 2 b) ?_
    refine m_ia (pc := 35) dX12_bears_35 a_539 (vp_in_nI (n := 2 * b) (by omega) (by decide)) ?_
    refine m_nm (v' := nI (cS D b)) (rdI (j := 2 * b) (((Wm_fm hW f1).1.2.2.2.1 b hb).1) (by omega)) ?_
    refine s_icgt (pc := 36) (tgt := 43) dX12_bears_36 rfl (fun h36 => ?_) (fun h36 => ?_)
    · have h36 : (cS D b) < ((sT S b) + (bur D cs S b c 0)) := (nI_ltI (a := cS D b) (b := (sT S b) + (bur D cs S b c 0)) (by omega) (by omega)).mp h36
      refine m_ic (pc := 43) (v := 0) dX12_bears_43 rfl ?_
      refine s_ireturn (pc := 44) dX12_bears_44 rfl rfl ?_
      exact hf I1 (by unfold brs; rw [e, tin0]; simp; omega) f1
    · have h36 : ¬ (cS D b) < ((sT S b) + (bur D cs S b c 0)) := fun z => h36 ((nI_ltI (a := cS D b) (b := (sT S b) + (bur D cs S b c 0)) (by omega) (by omega)).mpr z)
      refine m_ic (pc := 39) (v := 1) dX12_bears_39 rfl ?_
      refine s_goto (pc := 40) (tgt := 44) dX12_bears_40 rfl ?_
      refine s_ireturn (pc := 44) dX12_bears_44 rfl rfl ?_
      exact ht I1 (by unfold brs; rw [e, tin0]; simp; omega) f1
end S
