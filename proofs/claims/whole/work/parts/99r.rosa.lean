section S
variable {g : aG} {d : Nat} {I : Nat → Nat → Int32} {J : Nat → Nat → Int64} {n w : Nat} {Q : aO → aS → Prop}
variable {S : sD} {D : cD} {cs : List Nat} {u c : Nat}
def f56 (I I' : Nat → Nat → Int32) : Prop := ∀ x j, x ≠ 545 → x ≠ 546 → x ≠ 555 → x ≠ 556 → I' x j = I x j
theorem f56_r : f56 I I := fun _ _ _ _ _ _ => rfl
theorem f56_5 {I' I'' : Nat → Nat → Int32} (h : f56 I I') (h2 : f55 I' I'') : f56 I I'' := fun x j a b c e => (h2 x j a b c).trans (h x j a b c e)
theorem f56_u {I' : Nat → Nat → Int32} {j : Nat} {x : Int32} (h : f56 I I') : f56 I (up I' 556 j x) := fun z t a b c e => (up_a e).trans (h z t a b c e)
theorem f56_M {I' : Nat → Nat → Int32} (h : f56 I I') : fMr I I' := fun x j a b c _ => h x j a b (by omega) (by omega)
theorem plM_6 {I' : Nat → Nat → Int32} (h : plM D u I) (hf : f56 I I') : plM D u I' := ⟨(hf 534 44 (by decide) (by decide) (by decide) (by decide)).trans h.1, fun j hj => (hf 554 j (by decide) (by decide) (by decide) (by decide)).trans (h.2 j hj)⟩
theorem roG_lt {i : Nat} (hl : roV D cs S u < 99999) (hi : i < roM u D) : roG D cs S u i < cb D := roA_lt hl hi
theorem c_X12_roster {x : Int32} (hW : Wn I D cs S) (r0 : ¬ fewR D x → Q (.inl (some (.int 0))) (Z (thr I 1 1) J n w)) (hg : ∀ u, x = nI u → u < 2 ^ cc D → roM u D ≤ 6 → ∀ I', km I I' → I' 534 0 = 0 → Q (.inl (some (.int (vRos D cs S u)))) (Z I' J n w)) : Cn g (d + 8) mX12_roster [.ref 534, .int x] (Z I J n w) Q := by
  have hb7 := hW.2.1.1
  have hc12 := hW.2.1.2.1
  have hp := p2_12 hc12
  show Rn g (d + 8) mX12_roster 0 [.ref 534, .int x, .retAddr 0] [] [] (Z I J n w) Q
  refine s_aload_n (pc := 0) (i := 0) dX12_roster_0 rfl rfl ?_
  refine m_ic (pc := 1) (v := 0) dX12_roster_1 rfl ?_
  refine m_pi (pc := 2) dX12_roster_2 ff_X12_3 rfl rfl o_534 ?_
  refine s_aload_n (pc := 5) (i := 0) dX12_roster_5 rfl rfl ?_
  refine s_aload_n (pc := 6) (i := 0) dX12_roster_6 rfl rfl ?_
  refine s_iload_n (pc := 7) (i := 1) dX12_roster_7 rfl rfl ?_
  refine m_v1 (pc := 8) dX12_roster_8 lk_X12_404 ok_X12_isFewCouncils (rcO o_534 (by decide) rfl) rfl rfl (c_X12_isFewCouncils (D := D) hc12 ((up_n3 (by omega)).trans hW.1.2.1) (fun u e hu h6 => kt_s ?_) (fun z => kt_s ?_))
  · subst e
    refine m_ic (pc := 11) (v := 1) dX12_roster_11 rfl ?_
    refine m_ic (pc := 12) (v := 1) dX12_roster_12 rfl ?_
    refine m_v3 (pc := 13) dX12_roster_13 lk_X12_192 ok_X12_may (rcO o_534 (by decide) rfl) rfl rfl (c_may1 (k := 1) (by decide) rfl up_s (by decide) (kt_s ?_))
    · refine s_ifne (pc := 16) (tgt := 21) dX12_roster_16 rfl (fun h16 => ?_) (fun h16 => absurd h16 (by decide))
      refine s_aload_n (pc := 21) (i := 0) dX12_roster_21 rfl rfl ?_
      refine m_v0 (pc := 22) dX12_roster_22 lk_X12_310 ok_X12_take (rcO o_534 (by decide) rfl) rfl rfl (c_X12_take (kt_v ?_))
      have hM := tk_W hW
      have hK := tk_k (I := I)
      have h00 := tk_0 (I := I)
      obtain ⟨I1, e1⟩ : ∃ z, z = cpI (up I 534 0 0) 549 550 126 := ⟨_, rfl⟩
      rw [← e1] at hM hK h00 ⊢
      refine s_aload_n (pc := 25) (i := 0) dX12_roster_25 rfl rfl ?_
      refine s_iload_n (pc := 26) (i := 1) dX12_roster_26 rfl rfl ?_
      refine m_v1 (pc := 27) dX12_roster_27 lk_X12_407 ok_X12_laysRoster (rcO o_534 (by decide) rfl) rfl rfl (c_X12_laysRoster (fun _ => 0) hM hu h6 (fun I2 f2 hP h2 => kt_v ?_))
      have hT0 := Nat.two_pow_pos (roM u D)
      have hT6 : 2 ^ roM u D ≤ 64 := Nat.pow_le_pow_right (n := 2) (by omega) h6
      obtain ⟨y, hy1, hy2⟩ := h2 (2 ^ roM u D - 1) (by omega)
      have ey : y = roV D cs S u := ros_v hy2
      rw [Nat.zero_mul, Nat.zero_add, ey] at hy1
      have hv9 : roV D cs S u ≤ 99999 := ey ▸ hy2.1
      refine s_aload_n (pc := 30) (i := 0) dX12_roster_30 rfl rfl ?_
      refine m_gr (pc := 31) dX12_roster_31 ff_X12_77 rfl o_534 r_534_43 ?_
      refine m_ic (pc := 34) (v := 1) dX12_roster_34 rfl ?_
      refine s_aload_n (pc := 35) (i := 0) dX12_roster_35 rfl rfl ?_
      refine m_gi (pc := 36) dX12_roster_36 ff_X12_394 rfl o_534 ?_
      refine m_nm (v' := nI (roM u D)) (hP.1) ?_
      refine s_ishl (pc := 39) dX12_roster_39 ?_
      refine m_nm (v' := nI (2 ^ roM u D)) (sh_1 (by omega)) ?_
      refine m_ic (pc := 40) (v := 1) dX12_roster_40 rfl ?_
      refine s_isub (pc := 41) dX12_roster_41 ?_
      refine m_nm (v' := nI (2 ^ roM u D - 1)) (nI_d1 (by omega)) ?_
      refine m_ia (pc := 42) dX12_roster_42 a_555 (vp_in_nI (n := 2 ^ roM u D - 1) (by omega) (by decide)) ?_
      refine m_nm (v' := nI (roV D cs S u)) (rdI (j := 2 ^ roM u D - 1) (hy1) (by omega)) ?_
      refine s_istore_n (pc := 43) (i := 2) dX12_roster_43 rfl (Nat.le_of_ble_eq_true rfl) ?_
      dsimp only [List.set, List.filter]
      refine s_iload_n (pc := 44) (i := 2) dX12_roster_44 rfl rfl ?_
      refine s_ldcw (pc := 45) dX12_roster_45 ct_X12_397 ?_
      refine m_nm (v' := nI 99999) (rfl) ?_
      refine s_iclt (pc := 48) (tgt := 55) dX12_roster_48 rfl (fun h48 => ?_) (fun h48 => ?_)
      · have h48 : (roV D cs S u) < 99999 := (nI_ltI (a := roV D cs S u) (b := 99999) (by omega) (by omega)).mp h48
        refine s_iload_n (pc := 55) (i := 2) dX12_roster_55 rfl rfl ?_
        refine s_ireturn (pc := 56) dX12_roster_56 rfl rfl ?_
        have E : vRos D cs S u = nI (roV D cs S u) := if_pos h48
        have h := hg u rfl hu h6 I2 (km_t hK (fMr_km f2)) ((fMr_0 f2).trans h00)
        rw [E] at h; exact h
      · have h48 : ¬ (roV D cs S u) < 99999 := fun z => h48 ((nI_ltI (a := roV D cs S u) (b := 99999) (by omega) (by omega)).mpr z)
        refine m_ic (pc := 51) (v := -1) dX12_roster_51 rfl ?_
        refine s_goto (pc := 52) (tgt := 56) dX12_roster_52 rfl ?_
        refine s_ireturn (pc := 56) dX12_roster_56 rfl rfl ?_
        have E : vRos D cs S u = -1 := if_neg h48
        have h := hg u rfl hu h6 I2 (km_t hK (fMr_km f2)) ((fMr_0 f2).trans h00)
        rw [E] at h; exact h
  · refine m_ic (pc := 11) (v := 1) dX12_roster_11 rfl ?_
    refine m_ic (pc := 12) (v := 1) dX12_roster_12 rfl ?_
    refine m_v3 (pc := 13) dX12_roster_13 lk_X12_192 ok_X12_may (rcO o_534 (by decide) rfl) rfl rfl (c_may0 (k := 1) (by decide) rfl up_s (by decide) (kt_s ?_))
    · refine s_ifne (pc := 16) (tgt := 21) dX12_roster_16 rfl (fun h16 => absurd h16 (by decide)) (fun h16 => ?_)
      refine m_ic (pc := 19) (v := 0) dX12_roster_19 rfl ?_
      refine s_ireturn (pc := 20) dX12_roster_20 rfl rfl ?_
      rw [thr_0]
      exact r0 z
theorem mgi_lp (hW : Wm I D cs S) (hP : plM D u I) (h6 : roM u D ≤ 6) (hl : roV D cs S u < 99999) {i : Nat} (hi : i < roM u D) (hc : ∀ I', f56 I I' → (∀ j, j ≤ i → I' 556 j = nI (roG D cs S u j)) → Rn g (d + 8) mX12_gives 107 [.ref 534, .int (nI c), .int (nI u), .int (nI (roV D cs S u)), .int (nI i)] [] [] (Z I' J n w) Q) : ∀ F f, f < F → ∀ y I1, y + f = roG D cs S u i → f56 I I1 → (∀ j, j < i → I1 556 j = nI (roG D cs S u j)) → I1 556 i = nI y → Rn g (d + 8) mX12_gives 81 [.ref 534, .int (nI c), .int (nI u), .int (nI (roV D cs S u)), .int (nI i)] [] [] (Z I1 J n w) Q := by
  have hb7 := hW.2.1.1
  have hgi := roG_lt hl hi
  intro F
  induction F with
  | zero => intro f h; exact absurd h (Nat.not_lt_zero _)
  | succ F ih =>
    intro f hfF y I1 hyf hF hM hY
    refine s_aload_n (pc := 81) (i := 0) dX12_gives_81 rfl rfl ?_
    refine s_iload (pc := 82) (i := 4) dX12_gives_82 rfl ?_
    refine m_ic (pc := 84) (v := 1) dX12_gives_84 rfl ?_
    refine s_iadd (pc := 85) dX12_gives_85 ?_
    refine m_nm (v' := nI (i + 1)) (nI_add i 1) ?_
    refine s_iload_n (pc := 86) (i := 3) dX12_gives_86 rfl rfl ?_
    refine m_v2 (pc := 87) dX12_gives_87 lk_X12_410 ok_X12_isSo (rcO o_534 (by decide) rfl) rfl rfl (c_X12_isSo (gg := (fun j => if j = i then y else roG D cs S u j)) (kn := i + 1) (Wm_ro hW (f56_M hF)) (plM_6 hP hF) h6 (by omega) (fun j hj => ?_) hl (fun I2 x f2 h2 ex => kt_s ?_) (fun I2 x f2 h2 ex => kt_s ?_))
    · by_cases e : j = i
      · subst e; rw [if_pos rfl]; exact ⟨hY, by omega⟩
      · rw [if_neg e]; exact ⟨hM j (by omega), by have := roG_lt hl (show j < roM u D by omega); omega⟩
    · refine s_ifne (pc := 90) (tgt := 107) dX12_gives_90 rfl (fun h90 => ?_) (fun h90 => absurd h90 (by decide))
      have e1 : y = roG D cs S u i := by
        by_cases z : y < roG D cs S u i
        · exact absurd ex (ros_n (g := fun j => if j = i then y else roG D cs S u j) hl hi (fun j hj => if_neg (by omega)) (if_pos rfl) z h2)
        · omega
      refine hc I2 (f56_5 hF f2) (fun j hj => ?_)
      rw [f2 556 j (by decide) (by decide) (by decide)]
      by_cases e : j = i
      · subst e; rw [hY, e1]
      · exact hM j (by omega)
    · have hf0 : f ≠ 0 := fun e0 => absurd (ros_y hl (fun j hj => by
          show (if j = i then y else roG D cs S u j) = roG D cs S u j
          by_cases e : j = i
          · rw [if_pos e, e]; omega
          · rw [if_neg e]) h2) ex
      obtain ⟨f, rfl⟩ : ∃ k, f = k + 1 := ⟨f - 1, by omega⟩
      refine s_ifne (pc := 90) (tgt := 107) dX12_gives_90 rfl (fun h90 => absurd h90 (by decide)) (fun h90 => ?_)
      refine s_aload_n (pc := 93) (i := 0) dX12_gives_93 rfl rfl ?_
      refine m_gr (pc := 94) dX12_gives_94 ff_X12_80 rfl o_534 r_534_45 ?_
      refine s_iload (pc := 97) (i := 4) dX12_gives_97 rfl ?_
      refine s_dup2 (pc := 99) dX12_gives_99 rfl rfl ?_
      refine m_ia (pc := 100) dX12_gives_100 a_556 (vp_in_nI (n := i) (by omega) (by decide)) ?_
      refine m_nm (v' := nI y) (rdI (j := i) ((f2 556 i (by decide) (by decide) (by decide)).trans hY) (by omega)) ?_
      refine m_ic (pc := 101) (v := 1) dX12_gives_101 rfl ?_
      refine s_iadd (pc := 102) dX12_gives_102 ?_
      refine m_nm (v' := nI (y + 1)) (nI_add y 1) ?_
      refine m_is (pc := 103) dX12_gives_103 a_556 (vp_in_nI (n := i) (by omega) (by decide)) ?_
      rw [nI_clamp (n := i) (by omega)]
      refine s_goto (pc := 104) (tgt := 81) dX12_gives_104 rfl ?_
      exact ih f (by omega) (y + 1) _ (by omega) (f56_u (f56_5 hF f2)) (fun j hj => (up_k (by omega)).trans ((f2 556 j (by decide) (by decide) (by decide)).trans (hM j hj))) up_s
theorem mgo_lp (hW : Wm I D cs S) (hP : plM D u I) (h6 : roM u D ≤ 6) (hl : roV D cs S u < 99999) (hc : c < cc D) (hy : u.testBit c = true) (hq : ∀ I', f56 I I' → Q (.inl (some (.int (vGiv D cs S c u)))) (Z I' J n w)) : ∀ F f, f < F → ∀ i I1, i + f = bc u.testBit c → f56 I I1 → (∀ j, j < i → I1 556 j = nI (roG D cs S u j)) → Rn g (d + 8) mX12_gives 73 [.ref 534, .int (nI c), .int (nI u), .int (nI (roV D cs S u)), .int (nI i)] [] [] (Z I1 J n w) Q := by
  have hb7 := hW.2.1.1
  have hc12 := hW.2.1.2.1
  have hlt : bc u.testBit c < roM u D := bc_lt (cc D) hc hy
  intro F
  induction F with
  | zero => intro f h; exact absurd h (Nat.not_lt_zero _)
  | succ F ih =>
    intro f hfF i I1 hif hF hM
    have hi : i < roM u D := by omega
    have hpi : roP u D i < cc D := (plc_lt (p := u.testBit) (cc D) (show i < bc u.testBit (cc D) from hi)).1
    refine s_aload_n (pc := 73) (i := 0) dX12_gives_73 rfl rfl ?_
    refine m_gr (pc := 74) dX12_gives_74 ff_X12_80 rfl o_534 r_534_45 ?_
    refine s_iload (pc := 77) (i := 4) dX12_gives_77 rfl ?_
    refine m_ic (pc := 79) (v := 0) dX12_gives_79 rfl ?_
    refine m_nm (v' := nI 0) (rfl) ?_
    refine m_is (pc := 80) dX12_gives_80 a_556 (vp_in_nI (n := i) (by omega) (by decide)) ?_
    rw [nI_clamp (n := i) (by omega)]
    refine mgi_lp hW hP h6 hl hi (fun I2 f2 h2 => ?_) (roG D cs S u i + 1) (roG D cs S u i) (by omega) 0 _ (by omega) (f56_u hF) (fun j hj => (up_k (by omega)).trans (hM j hj)) up_s
    refine s_aload_n (pc := 107) (i := 0) dX12_gives_107 rfl rfl ?_
    refine m_gr (pc := 108) dX12_gives_108 ff_X12_74 rfl o_534 r_534_42 ?_
    refine s_iload (pc := 111) (i := 4) dX12_gives_111 rfl ?_
    refine m_ia (pc := 113) dX12_gives_113 a_554 (vp_in_nI (n := i) (by omega) (by decide)) ?_
    refine m_nm (v' := nI (roP u D i)) (rdI (j := i) ((plM_6 hP (show f56 I I2 from f2)).2 i hi) (by omega)) ?_
    refine s_iload_n (pc := 114) (i := 1) dX12_gives_114 rfl rfl ?_
    refine s_icne (pc := 115) (tgt := 126) dX12_gives_115 rfl (fun h115 => ?_) (fun h115 => ?_)
    · have h115 : ¬ (roP u D i) = c := fun z => h115 ((nI_eq (a := roP u D i) (b := c) (by omega) (by omega)).mpr z)
      refine m_inc (pc := 126) (v := 1) dX12_gives_126 rfl rfl ?_
      dsimp only [List.set, List.filter]
      rw [nI_1]
      refine s_goto (pc := 129) (tgt := 73) dX12_gives_129 rfl ?_
      have hne : i ≠ bc u.testBit c := fun e => h115 (by rw [e]; exact plc_c hc hy)
      cases f with
      | zero => exact absurd (show i = bc u.testBit c by omega) hne
      | succ f => exact ih f (by omega) (i + 1) I2 (by omega) f2 (fun j hj => h2 j (by omega))
    · have h115 : (roP u D i) = c := (nI_eq (a := roP u D i) (b := c) (by omega) (by omega)).mp h115
      refine s_aload_n (pc := 118) (i := 0) dX12_gives_118 rfl rfl ?_
      refine m_gr (pc := 119) dX12_gives_119 ff_X12_80 rfl o_534 r_534_45 ?_
      refine s_iload (pc := 122) (i := 4) dX12_gives_122 rfl ?_
      refine m_ia (pc := 124) dX12_gives_124 a_556 (vp_in_nI (n := i) (by omega) (by decide)) ?_
      refine m_nm (v' := nI (roG D cs S u i)) (rdI (j := i) (h2 i (Nat.le_refl _)) (by omega)) ?_
      refine s_ireturn (pc := 125) dX12_gives_125 rfl rfl ?_
      have hp := (plc_lt (p := u.testBit) (cc D) (show i < bc u.testBit (cc D) from hi)).2.2
      have hc2 : plc u.testBit (cc D) i = c := h115
      rw [hc2] at hp
      have E : vGiv D cs S c u = nI (roG D cs S u i) := by rw [vGiv, if_pos ⟨hy, hl⟩, hp]
      have h := hq I2 f2
      rw [E] at h; exact h
theorem c_X12_gives {x y : Int32} (hW : Wn I D cs S) (r0 : ¬ iv 0 (cc D) x → Q (.inl (some (.int 0))) (Z (thr I 1 0) J n w)) (r1 : iv 0 (cc D) x → ¬ fewR D y → Q (.inl (some (.int 0))) (Z (thr I 2 1) J n w)) (hg : ∀ c u, x = nI c → c < cc D → y = nI u → u < 2 ^ cc D → roM u D ≤ 6 → ∀ I', km I I' → I' 534 0 = 0 → Q (.inl (some (.int (vGiv D cs S c u)))) (Z I' J n w)) : Cn g (d + 8) mX12_gives [.ref 534, .int x, .int y] (Z I J n w) Q := by
  have hb7 := hW.2.1.1
  have hc12 := hW.2.1.2.1
  have hp := p2_12 hc12
  show Rn g (d + 8) mX12_gives 0 [.ref 534, .int x, .int y, .retAddr 0, .retAddr 0] [] [] (Z I J n w) Q
  refine s_aload_n (pc := 0) (i := 0) dX12_gives_0 rfl rfl ?_
  refine m_ic (pc := 1) (v := 0) dX12_gives_1 rfl ?_
  refine m_pi (pc := 2) dX12_gives_2 ff_X12_3 rfl rfl o_534 ?_
  refine s_aload_n (pc := 5) (i := 0) dX12_gives_5 rfl rfl ?_
  refine s_iload_n (pc := 6) (i := 1) dX12_gives_6 rfl rfl ?_
  refine m_ic (pc := 7) (v := 1) dX12_gives_7 rfl ?_
  refine m_v2 (pc := 8) dX12_gives_8 lk_X12_388 ok_X12_isCouncil (rcO o_534 (by decide) rfl) rfl rfl (c_X12_isCouncil (D := D) up_s ((up_n3 (by omega)).trans hW.1.2.1) hW.2.1 (by decide) (fun c ec hc => kt_s ?_) (fun z => kt_s ?_))
  · subst ec
    refine s_ifeq (pc := 11) (tgt := 28) dX12_gives_11 rfl (fun h11 => absurd h11 (by decide)) (fun h11 => ?_)
    refine s_aload_n (pc := 14) (i := 0) dX12_gives_14 rfl rfl ?_
    refine s_aload_n (pc := 15) (i := 0) dX12_gives_15 rfl rfl ?_
    refine s_iload_n (pc := 16) (i := 2) dX12_gives_16 rfl rfl ?_
    refine m_v1 (pc := 17) dX12_gives_17 lk_X12_404 ok_X12_isFewCouncils (rcO o_534 (by decide) rfl) rfl rfl (c_X12_isFewCouncils (D := D) hc12 ((up_n3 (by omega)).trans hW.1.2.1) (fun u e hu h6 => kt_s ?_) (fun z => kt_s ?_))
    · subst e
      refine m_ic (pc := 20) (v := 2) dX12_gives_20 rfl ?_
      refine m_ic (pc := 21) (v := 1) dX12_gives_21 rfl ?_
      refine m_v3 (pc := 22) dX12_gives_22 lk_X12_192 ok_X12_may (rcO o_534 (by decide) rfl) rfl rfl (c_may1 (k := 1) (by decide) rfl up_s (by decide) (kt_s ?_))
      · refine s_ifne (pc := 25) (tgt := 30) dX12_gives_25 rfl (fun h25 => ?_) (fun h25 => absurd h25 (by decide))
        refine s_aload_n (pc := 30) (i := 0) dX12_gives_30 rfl rfl ?_
        refine m_v0 (pc := 31) dX12_gives_31 lk_X12_310 ok_X12_take (rcO o_534 (by decide) rfl) rfl rfl (c_X12_take (kt_v ?_))
        have hM := tk_W hW
        have hK := tk_k (I := I)
        have h00 := tk_0 (I := I)
        obtain ⟨I1, e1⟩ : ∃ z, z = cpI (up I 534 0 0) 549 550 126 := ⟨_, rfl⟩
        rw [← e1] at hM hK h00 ⊢
        refine s_aload_n (pc := 34) (i := 0) dX12_gives_34 rfl rfl ?_
        refine s_iload_n (pc := 35) (i := 2) dX12_gives_35 rfl rfl ?_
        refine m_v1 (pc := 36) dX12_gives_36 lk_X12_407 ok_X12_laysRoster (rcO o_534 (by decide) rfl) rfl rfl (c_X12_laysRoster (fun _ => 0) hM hu h6 (fun I2 f2 hP h2 => kt_v ?_))
        have hT0 := Nat.two_pow_pos (roM u D)
        have hT6 : 2 ^ roM u D ≤ 64 := Nat.pow_le_pow_right (n := 2) (by omega) h6
        obtain ⟨y, hy1, hy2⟩ := h2 (2 ^ roM u D - 1) (by omega)
        have ey : y = roV D cs S u := ros_v hy2
        rw [Nat.zero_mul, Nat.zero_add, ey] at hy1
        have hv9 : roV D cs S u ≤ 99999 := ey ▸ hy2.1
        refine s_aload_n (pc := 39) (i := 0) dX12_gives_39 rfl rfl ?_
        refine m_gr (pc := 40) dX12_gives_40 ff_X12_77 rfl o_534 r_534_43 ?_
        refine m_ic (pc := 43) (v := 1) dX12_gives_43 rfl ?_
        refine s_aload_n (pc := 44) (i := 0) dX12_gives_44 rfl rfl ?_
        refine m_gi (pc := 45) dX12_gives_45 ff_X12_394 rfl o_534 ?_
        refine m_nm (v' := nI (roM u D)) (hP.1) ?_
        refine s_ishl (pc := 48) dX12_gives_48 ?_
        refine m_nm (v' := nI (2 ^ roM u D)) (sh_1 (by omega)) ?_
        refine m_ic (pc := 49) (v := 1) dX12_gives_49 rfl ?_
        refine s_isub (pc := 50) dX12_gives_50 ?_
        refine m_nm (v' := nI (2 ^ roM u D - 1)) (nI_d1 (by omega)) ?_
        refine m_ia (pc := 51) dX12_gives_51 a_555 (vp_in_nI (n := 2 ^ roM u D - 1) (by omega) (by decide)) ?_
        refine m_nm (v' := nI (roV D cs S u)) (rdI (j := 2 ^ roM u D - 1) (hy1) (by omega)) ?_
        refine s_istore_n (pc := 52) (i := 3) dX12_gives_52 rfl (Nat.le_of_ble_eq_true rfl) ?_
        dsimp only [List.set, List.filter]
        refine s_iload_n (pc := 53) (i := 2) dX12_gives_53 rfl rfl ?_
        refine s_iload_n (pc := 54) (i := 1) dX12_gives_54 rfl rfl ?_
        refine s_ishr (pc := 55) dX12_gives_55 ?_
        refine m_ic (pc := 56) (v := 1) dX12_gives_56 rfl ?_
        refine s_iand (pc := 57) dX12_gives_57 ?_
        refine m_nm (v' := if u.testBit c = true then 1 else 0) (tb_1 (by omega) (by omega)) ?_
        refine s_ifeq (pc := 58) (tgt := 68) dX12_gives_58 rfl (fun h58 => ?_) (fun h58 => ?_)
        · have hy : ¬ u.testBit c = true := fun z => by rw [if_pos z] at h58; exact absurd h58 (by decide)
          refine m_ic (pc := 68) (v := -1) dX12_gives_68 rfl ?_
          refine s_ireturn (pc := 69) dX12_gives_69 rfl rfl ?_
          have E : vGiv D cs S c u = -1 := if_neg (fun z => hy z.1)
          have h := hg c u rfl hc rfl hu h6 I2 (km_t hK (fMr_km f2)) ((fMr_0 f2).trans h00)
          rw [E] at h; exact h
        · have hy : u.testBit c = true := by
            by_cases z : u.testBit c = true
            · exact z
            · rw [if_neg z] at h58; exact absurd rfl h58
          refine s_iload_n (pc := 61) (i := 3) dX12_gives_61 rfl rfl ?_
          refine s_ldcw (pc := 62) dX12_gives_62 ct_X12_397 ?_
          refine m_nm (v' := nI 99999) (rfl) ?_
          refine s_iclt (pc := 65) (tgt := 70) dX12_gives_65 rfl (fun h65 => ?_) (fun h65 => ?_)
          · have h65 : (roV D cs S u) < 99999 := (nI_ltI (a := roV D cs S u) (b := 99999) (by omega) (by omega)).mp h65
            refine m_ic (pc := 70) (v := 0) dX12_gives_70 rfl ?_
            refine s_istore (pc := 71) (i := 4) dX12_gives_71 (Nat.le_of_ble_eq_true rfl) ?_
            dsimp only [List.set, List.filter]
            exact mgo_lp (Wm_ro hM f2) hP h6 h65 hc hy (fun I3 f3 => hg c u rfl hc rfl hu h6 I3 (km_t (km_t hK (fMr_km f2)) (fMr_km (f56_M f3))) ((fMr_0 (f56_M f3)).trans ((fMr_0 f2).trans h00))) (bc u.testBit c + 1) (bc u.testBit c) (by omega) 0 I2 (by omega) f56_r (fun j hj => absurd hj (Nat.not_lt_zero _))
          · have h65 : ¬ (roV D cs S u) < 99999 := fun z => h65 ((nI_ltI (a := roV D cs S u) (b := 99999) (by omega) (by omega)).mpr z)
            refine m_ic (pc := 68) (v := -1) dX12_gives_68 rfl ?_
            refine s_ireturn (pc := 69) dX12_gives_69 rfl rfl ?_
            have E : vGiv D cs S c u = -1 := if_neg (fun z => h65 z.2)
            have h := hg c u rfl hc rfl hu h6 I2 (km_t hK (fMr_km f2)) ((fMr_0 f2).trans h00)
            rw [E] at h; exact h
    · refine m_ic (pc := 20) (v := 2) dX12_gives_20 rfl ?_
      refine m_ic (pc := 21) (v := 1) dX12_gives_21 rfl ?_
      refine m_v3 (pc := 22) dX12_gives_22 lk_X12_192 ok_X12_may (rcO o_534 (by decide) rfl) rfl rfl (c_may0 (k := 1) (by decide) rfl up_s (by decide) (kt_s ?_))
      · refine s_ifne (pc := 25) (tgt := 30) dX12_gives_25 rfl (fun h25 => absurd h25 (by decide)) (fun h25 => ?_)
        refine m_ic (pc := 28) (v := 0) dX12_gives_28 rfl ?_
        refine s_ireturn (pc := 29) dX12_gives_29 rfl rfl ?_
        rw [thr_0]
        exact r1 ⟨c, rfl, Nat.zero_le _, hc⟩ z
  · refine s_ifeq (pc := 11) (tgt := 28) dX12_gives_11 rfl (fun h11 => ?_) (fun h11 => absurd h11 (by decide))
    refine m_ic (pc := 28) (v := 0) dX12_gives_28 rfl ?_
    refine s_ireturn (pc := 29) dX12_gives_29 rfl rfl ?_
    rw [thr_0]
    exact r0 z
end S
