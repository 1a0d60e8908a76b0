section S
variable {g : aG} {d : Nat} {I : Nat → Nat → Int32} {J : Nat → Nat → Int64} {n w : Nat} {Q : aO → aS → Prop}
variable {S : sD} {D : cD} {cs : List Nat} {u i c : Nat}
def roP (u : Nat) (D : cD) : Nat → Nat := plc u.testBit (cc D)
def roM (u : Nat) (D : cD) : Nat := bc u.testBit (cc D)
def roW (D : cD) (cs : List Nat) (S : sD) (u i b : Nat) : Nat := bur D cs S b (roP u D i) 0
def roR (D : cD) (S : sD) (b : Nat) : Int := if sF S b = true then -1 else if b < cb D then (cS D b : Int) - sT S b else 0
def roV (D : cD) (cs : List Nat) (S : sD) (u : Nat) : Nat := roL (cb D) (roW D cs S u) (roM u D) 0 (roR D S)
def roG (D : cD) (cs : List Nat) (S : sD) (u i : Nat) : Nat := roA (cb D) (roW D cs S u) (roM u D) 0 (roR D S) i
def vRos (D : cD) (cs : List Nat) (S : sD) (u : Nat) : Int32 := if roV D cs S u < 99999 then nI (roV D cs S u) else -1
def vGiv (D : cD) (cs : List Nat) (S : sD) (c u : Nat) : Int32 := if u.testBit c = true ∧ roV D cs S u < 99999 then nI (roG D cs S u (bc u.testBit c)) else -1
def fewR (D : cD) (x : Int32) : Prop := ∃ u, x = nI u ∧ u < 2 ^ cc D ∧ roM u D ≤ 6
theorem roR_b (hk : cOk D) (hS : sOk D S) (b : Nat) : -1000 ≤ roR D S b ∧ roR D S b ≤ 1000 := by
  have h1 := (hS.1 b).1
  unfold roR
  by_cases z : sF S b = true
  · rw [if_pos z]; omega
  · rw [if_neg z]
    by_cases y : b < cb D
    · have := hk.2.2.2.1 b y
      rw [if_pos y]; omega
    · rw [if_neg y]; omega
theorem roW_b (hk : cOk D) : ∀ i b, i < roM u D → roW D cs S u i b ≤ 135 := fun i b hi => bur_le hk (plc_lt (cc D) hi).1
theorem roV_b (hk : cOk D) (h6 : roM u D ≤ 6) (h : roV D cs S u < 99999) : roV D cs S u ≤ 810 := by
  have := roL_b (N := cb D) (roW_b (cs := cs) (S := S) (u := u) hk) (roM u D) 0 (roR D S) (Nat.zero_add _) h
  unfold roV; omega
theorem p2_12 {m : Nat} (h : m ≤ 12) : 2 ^ m ≤ 4096 := Nat.pow_le_pow_right (by omega) h
theorem bs_sf {m : Nat} (h : u < 2 ^ m) : bs u.testBit m = u := by
  apply Nat.eq_of_testBit_eq
  intro i
  rw [bs_tb]
  by_cases z : i < m
  · simp [z]
  · rw [Nat.testBit_lt_two_pow (Nat.lt_of_lt_of_le h (Nat.pow_le_pow_right (by omega) (by omega)))]; simp
theorem c_bcu {m : Nat} {σ : aS} (hm : m ≤ 12) (hu : u < 2 ^ m) (hq : Q (.inl (some (.int (nI (bc u.testBit m))))) σ) : Cn g (d + 0) mJ6_bitCount_0f7a4 [.int (nI u)] σ Q := by
  have h := c_bitCount (g := g) (d := d) hm hq
  rw [bs_sf hu] at h; exact h
theorem fewR_u (hc : cc D ≤ 12) (hu : u < 2 ^ cc D) (h : fewR D (nI u)) : roM u D ≤ 6 := by
  obtain ⟨u', e, h1, h2⟩ := h
  have := p2_12 hc
  have e' := (nI_eq (a := u) (b := u') (by omega) (by omega)).mp e
  subst e'; exact h2
theorem c_nrb {x : Int32} (hW : Wc I 33 D cs S) (hn : n + 1 ≤ 600000 ∧ w + 6 ≤ 7000000) (hg : ∀ u, x = nI u → u < 2 ^ cc D → roM u D ≤ 6 → Q (.inl none) (Z I J n w)) (hb : ¬ fewR D x → Q (.inr 1) (Z (up I 1 18 (I 1 18 + 1)) J (n + 1) (w + 6))) : Cn g (d + 7) mX11_needRosterBits [.ref 1, .int x] (Z I J n w) Q := by
  have hc12 := hW.2.1.2.1
  show Rn g (d + 7) mX11_needRosterBits 0 [.ref 1, .int x] [] [] (Z I J n w) Q
  refine s_aload_n (pc := 0) (i := 0) dX11_needRosterBits_0 rfl rfl ?_
  refine s_iload_n (pc := 1) (i := 1) dX11_needRosterBits_1 rfl rfl ?_
  refine s_aload_n (pc := 2) (i := 0) dX11_needRosterBits_2 rfl rfl ?_
  refine m_gr (pc := 3) dX11_needRosterBits_3 ff_X11_19 rfl o_1 r_1_1 ?_
  refine m_v0 (pc := 6) dX11_needRosterBits_6 lk_X11_314 ok_X1_councilBits (rcO o_4 (by decide) rfl) rfl rfl (c_X1_councilBits hW.1 hW.2.1 (kt_s ?_))
  refine m_v2 (pc := 9) dX11_needRosterBits_9 lk_X11_317 ok_X11_needBits (rcO o_1 (by decide) rfl) rfl rfl (c_nbits rfl hc12 hn (fun u e hu => kt_v ?_) (fun z => kt_x ?_))
  · subst e
    have hM1 := bc_le u.testBit (cc D)
    refine s_aload_n (pc := 12) (i := 0) dX11_needRosterBits_12 rfl rfl ?_
    refine s_iload_n (pc := 13) (i := 1) dX11_needRosterBits_13 rfl rfl ?_
    refine m_s1 (pc := 14) dX11_needRosterBits_14 lk_X11_309 ok_J6_bitCount_0f7a4 rfl rfl (c_bcu hc12 hu (kt_s ?_))
    refine m_ic (pc := 17) (v := 0) dX11_needRosterBits_17 rfl ?_
    refine m_bi (pc := 18) (v := 6) dX11_needRosterBits_18 rfl ?_
    refine m_v3 (pc := 20) dX11_needRosterBits_20 lk_X11_267 ok_X11_needRange (rcO o_1 (by decide) rfl) rfl rfl (c_nr (lo := 0) (m := 7) rfl rfl (by omega) hn (fun v e _ hv => kt_v ?_) (fun z => kt_x ?_))
    · have e := (nI_eq (a := bc u.testBit (cc D)) (b := v) (by omega) (by omega)).mp e
      refine s_return (pc := 23) dX11_needRosterBits_23 rfl ?_
      exact hg u rfl hu (show bc u.testBit (cc D) ≤ 6 by omega)
    · exact hb (fun y => z ⟨bc u.testBit (cc D), rfl, Nat.zero_le _, by have := fewR_u hc12 hu y; unfold roM at this; omega⟩)
  · exact hb (fun y => z (by obtain ⟨u', e, h1, _⟩ := y; exact ⟨u', e, Nat.zero_le _, h1⟩))
theorem bc_mo (p : Nat → Bool) (m : Nat) : ∀ f, bc p m ≤ bc p (m + f)
  | 0 => Nat.le_refl _
  | f + 1 => by show _ ≤ bc p (m + f) + _; exact Nat.le_trans (bc_mo p m f) (Nat.le_add_right _ _)
theorem rs1_lp (hW : Wc I 33 D cs S) (hu : u < 4096) (h6 : roM u D ≤ 6) (hc : ∀ I' i, fRo I I' → (I' 517 7 = nI (bc u.testBit (cc D)) ∧ I' 517 8 = -1 ∧ (∀ j, j < bc u.testBit (cc D) → I' 518 j = nI (plc u.testBit (cc D) j))) → Rn g (d + 8) mX8_search 70 [.ref 517, .ref 33, .int (nI u), .int (nI i)] [] [] (Z I' J n w) Q) : ∀ f i I1, i + f = cc D → fRo I I1 → (I1 517 7 = nI (bc u.testBit i) ∧ I1 517 8 = -1 ∧ (∀ j, j < bc u.testBit i → I1 518 j = nI (plc u.testBit i j))) → Rn g (d + 8) mX8_search 12 [.ref 517, .ref 33, .int (nI u), .int (nI i)] [] [] (Z I1 J n w) Q := by
  intro f
  induction f with
  | zero =>
    intro i I1 hi hF hM
    have e : cc D = i := by omega
    subst e
    have hb7 := hW.2.1.1
    have hc12 := hW.2.1.2.1
    refine s_iload_n (pc := 12) (i := 3) dX8_search_12 rfl rfl ?_
    refine s_aload_n (pc := 13) (i := 0) dX8_search_13 rfl rfl ?_
    refine m_gr (pc := 14) dX8_search_14 ff_X8_30 rfl o_517 r_517_0 ?_
    refine m_gr (pc := 17) dX8_search_17 ff_X8_41 rfl o_31 r_31_0 ?_
    refine m_gi (pc := 20) dX8_search_20 ff_X8_47 rfl o_4 ?_
    refine m_nm (v' := nI (cc D)) ((Wc_ro hW hF).1.2.1) ?_
    refine s_icge (pc := 23) (tgt := 70) dX8_search_23 rfl (fun h23 => ?_) (fun h23 => absurd (nI_le (a := cc D) (b := (cc D)) (by omega) (by omega)) h23)
    exact hc I1 (cc D) hF hM
  | succ f ih =>
    intro i I1 hi hF hM
    have hb7 := hW.2.1.1
    have hc12 := hW.2.1.2.1
    have hbi := bc_le u.testBit i
    refine s_iload_n (pc := 12) (i := 3) dX8_search_12 rfl rfl ?_
    refine s_aload_n (pc := 13) (i := 0) dX8_search_13 rfl rfl ?_
    refine m_gr (pc := 14) dX8_search_14 ff_X8_30 rfl o_517 r_517_0 ?_
    refine m_gr (pc := 17) dX8_search_17 ff_X8_41 rfl o_31 r_31_0 ?_
    refine m_gi (pc := 20) dX8_search_20 ff_X8_47 rfl o_4 ?_
    refine m_nm (v' := nI (cc D)) ((Wc_ro hW hF).1.2.1) ?_
    refine s_icge (pc := 23) (tgt := 70) dX8_search_23 rfl (fun h23 => absurd h23 (nI_ge (a := i) (b := cc D) (by omega) (by omega))) (fun h23 => ?_)
    refine s_aload_n (pc := 26) (i := 0) dX8_search_26 rfl rfl ?_
    refine m_gi (pc := 27) dX8_search_27 ff_X8_34 rfl o_517 ?_
    refine m_nm (v' := nI (bc u.testBit i)) (hM.1) ?_
    refine m_bi (pc := 30) (v := 6) dX8_search_30 rfl ?_
    refine s_icge (pc := 32) (tgt := 70) dX8_search_32 rfl (fun h32 => ?_) (fun h32 => ?_)
    · have h32 : 6 ≤ (bc u.testBit i) := (nI_leI (a := 6) (b := bc u.testBit i) (by omega) (by omega)).mp h32
      have hmo : bc u.testBit (cc D) = bc u.testBit i := by
        have h1 : bc u.testBit i ≤ bc u.testBit (cc D) := by
          have := bc_mo u.testBit i (cc D - i)
          rw [show i + (cc D - i) = cc D by omega] at this; exact this
        unfold roM at h6; omega
      exact hc I1 i hF ⟨by rw [hmo]; exact hM.1, hM.2.1, fun j hj => by
        have := plc_up (p := u.testBit) (m := i) (cc D - i) j (by omega)
        rw [show i + (cc D - i) = cc D by omega] at this
        rw [this]; exact hM.2.2 j (by omega)⟩
    · have h32 : ¬ 6 ≤ (bc u.testBit i) := fun z => h32 ((nI_leI (a := 6) (b := bc u.testBit i) (by omega) (by omega)).mpr z)
      refine s_iload_n (pc := 35) (i := 2) dX8_search_35 rfl rfl ?_
      refine s_iload_n (pc := 36) (i := 3) dX8_search_36 rfl rfl ?_
      refine s_ishr (pc := 37) dX8_search_37 ?_
      refine m_ic (pc := 38) (v := 1) dX8_search_38 rfl ?_
      refine s_iand (pc := 39) dX8_search_39 ?_
      refine m_nm (v' := if u.testBit i = true then 1 else 0) (tb_1 hu (by omega)) ?_
      refine m_ic (pc := 40) (v := 1) dX8_search_40 rfl ?_
      refine s_icne (pc := 41) (tgt := 64) dX8_search_41 rfl (fun h41 => ?_) (fun h41 => ?_)
      · skip
        refine m_inc (pc := 64) (v := 1) dX8_search_64 rfl rfl ?_
        dsimp only [List.set, List.filter]
        rw [nI_1]
        refine s_goto (pc := 67) (tgt := 12) dX8_search_67 rfl ?_
        have hy : u.testBit i = false := by
          cases z : u.testBit i with
          | false => rfl
          | true => rw [if_pos z] at h41; exact absurd rfl h41
        have E : bc u.testBit (i + 1) = bc u.testBit i := bc_nn hy
        exact ih (i + 1) I1 (by omega) hF ⟨by rw [E]; exact hM.1, hM.2.1, fun j hj => by rw [plc_s (by omega)]; exact hM.2.2 j (by omega)⟩
      · skip
        refine s_aload_n (pc := 44) (i := 0) dX8_search_44 rfl rfl ?_
        refine m_gr (pc := 45) dX8_search_45 ff_X8_9 rfl o_517 r_517_1 ?_
        refine s_aload_n (pc := 48) (i := 0) dX8_search_48 rfl rfl ?_
        refine m_gi (pc := 49) dX8_search_49 ff_X8_34 rfl o_517 ?_
        refine m_nm (v' := nI (bc u.testBit i)) (hM.1) ?_
        refine s_iload_n (pc := 52) (i := 3) dX8_search_52 rfl rfl ?_
        refine m_is (pc := 53) dX8_search_53 a_518 (vp_in_nI (n := bc u.testBit i) (by omega) (by decide)) ?_
        rw [nI_clamp (n := bc u.testBit i) (by omega)]
        refine s_aload_n (pc := 54) (i := 0) dX8_search_54 rfl rfl ?_
        refine s_dup (pc := 55) dX8_search_55 rfl ?_
        refine m_gi (pc := 56) dX8_search_56 ff_X8_34 rfl o_517 ?_
        refine m_nm (v' := nI (bc u.testBit i)) ((up_a (by decide)).trans hM.1) ?_
        refine m_ic (pc := 59) (v := 1) dX8_search_59 rfl ?_
        refine s_iadd (pc := 60) dX8_search_60 ?_
        refine m_nm (v' := nI ((bc u.testBit i) + 1)) (nI_add (bc u.testBit i) 1) ?_
        refine m_pi (pc := 61) dX8_search_61 ff_X8_34 rfl rfl o_517 ?_
        refine m_inc (pc := 64) (v := 1) dX8_search_64 rfl rfl ?_
        dsimp only [List.set, List.filter]
        rw [nI_1]
        refine s_goto (pc := 67) (tgt := 12) dX8_search_67 rfl ?_
        have hy : u.testBit i = true := by
          by_cases z : u.testBit i = true
          · exact z
          · rw [if_neg z] at h41; exact absurd h41 (by decide)
        have E : bc u.testBit (i + 1) = bc u.testBit i + 1 := bc_yy hy
        refine ih (i + 1) _ (by omega) (fRo_u (fRo_u hF (by decide)) (by decide)) ⟨up_s.trans (by rw [E]), (up_k (by decide)).trans ((up_a (by decide)).trans hM.2.1), fun j hj => ?_⟩
        rw [up_a (by decide)]
        by_cases e : j = bc u.testBit i
        · subst e; rw [up_s, plc_y hy]
        · rw [up_k e, plc_s (by omega)]; exact hM.2.2 j (by omega)
theorem rs2_lp (hW : Wc I 33 D cs S) (hc : ∀ I' i, fRo I I' → (I' 517 7 = nI (bc u.testBit (cc D)) ∧ I' 517 8 = -1 ∧ (∀ j, j < bc u.testBit (cc D) → I' 518 j = nI (plc u.testBit (cc D) j)) ∧ ∀ b, b < cb D → I' 521 b = iR (roR D S b)) → Rn g (d + 8) mX8_search 129 [.ref 517, .ref 33, .int (nI u), .int (nI i)] [] [] (Z I' J n w) Q) : ∀ f i I1, i + f = cb D → fRo I I1 → (I1 517 7 = nI (bc u.testBit (cc D)) ∧ I1 517 8 = -1 ∧ (∀ j, j < bc u.testBit (cc D) → I1 518 j = nI (plc u.testBit (cc D) j)) ∧ ∀ b, b < i → I1 521 b = iR (roR D S b)) → Rn g (d + 8) mX8_search 72 [.ref 517, .ref 33, .int (nI u), .int (nI i)] [] [] (Z I1 J n w) Q := by
  intro f
  induction f with
  | zero =>
    intro i I1 hi hF hM
    have e : cb D = i := by omega
    subst e
    have hb7 := hW.2.1.1
    have hc12 := hW.2.1.2.1
    refine s_iload_n (pc := 72) (i := 3) dX8_search_72 rfl rfl ?_
    refine s_aload_n (pc := 73) (i := 0) dX8_search_73 rfl rfl ?_
    refine m_gr (pc := 74) dX8_search_74 ff_X8_30 rfl o_517 r_517_0 ?_
    refine m_gr (pc := 77) dX8_search_77 ff_X8_41 rfl o_31 r_31_0 ?_
    refine m_gi (pc := 80) dX8_search_80 ff_X8_51 rfl o_4 ?_
    refine m_nm (v' := nI (cb D)) ((Wc_ro hW hF).1.1) ?_
    refine s_icge (pc := 83) (tgt := 129) dX8_search_83 rfl (fun h83 => ?_) (fun h83 => absurd (nI_le (a := cb D) (b := (cb D)) (by omega) (by omega)) h83)
    exact hc I1 (cb D) hF hM
  | succ f ih =>
    intro i I1 hi hF hM
    have hb7 := hW.2.1.1
    have hc12 := hW.2.1.2.1
    refine s_iload_n (pc := 72) (i := 3) dX8_search_72 rfl rfl ?_
    refine s_aload_n (pc := 73) (i := 0) dX8_search_73 rfl rfl ?_
    refine m_gr (pc := 74) dX8_search_74 ff_X8_30 rfl o_517 r_517_0 ?_
    refine m_gr (pc := 77) dX8_search_77 ff_X8_41 rfl o_31 r_31_0 ?_
    refine m_gi (pc := 80) dX8_search_80 ff_X8_51 rfl o_4 ?_
    refine m_nm (v' := nI (cb D)) ((Wc_ro hW hF).1.1) ?_
    refine s_icge (pc := 83) (tgt := 129) dX8_search_83 rfl (fun h83 => absurd h83 (nI_ge (a := i) (b := cb D) (by omega) (by omega))) (fun h83 => ?_)
    refine s_aload_n (pc := 86) (i := 0) dX8_search_86 rfl rfl ?_
    refine m_gr (pc := 87) dX8_search_87 ff_X8_21 rfl o_517 r_517_4 ?_
    refine s_iload_n (pc := 90) (i := 3) dX8_search_90 rfl rfl ?_
    refine s_aload_n (pc := 91) (i := 1) dX8_search_91 rfl rfl ?_
    refine s_iload_n (pc := 92) (i := 3) dX8_search_92 rfl rfl ?_
    refine m_v1 (pc := 93) dX8_search_93 lk_X8_54 ok_X9_hasFallen (rcO (sO_33).1 (by decide) rfl) rfl rfl (c_X9_hasFallen sO_33 (Wc_ro hW hF).2.2.2.2.1 (by omega) (fun z => kt_s ?_) (fun z => kt_s ?_))
    · refine s_ifeq (pc := 96) (tgt := 103) dX8_search_96 rfl (fun h96 => absurd h96 (by decide)) (fun h96 => ?_)
      refine m_ic (pc := 99) (v := -1) dX8_search_99 rfl ?_
      refine s_goto (pc := 100) (tgt := 122) dX8_search_100 rfl ?_
      refine m_is (pc := 122) dX8_search_122 a_521 (vp_in_nI (n := i) (by omega) (by decide)) ?_
      rw [nI_clamp (n := i) (by omega)]
      refine m_inc (pc := 123) (v := 1) dX8_search_123 rfl rfl ?_
      dsimp only [List.set, List.filter]
      rw [nI_1]
      refine s_goto (pc := 126) (tgt := 72) dX8_search_126 rfl ?_
      exact ih (i + 1) _ (by omega) (fRo_u hF (by decide)) ⟨(up_a (by decide)).trans hM.1, (up_a (by decide)).trans hM.2.1, fun j hj => (up_a (by decide)).trans (hM.2.2.1 j hj), fun b hb => by
          by_cases e : b = i
          · subst e; rw [up_s]; rw [roR, if_pos z]; rfl
          · rw [up_k e]; exact hM.2.2.2 b (by omega)⟩
    · refine s_ifeq (pc := 96) (tgt := 103) dX8_search_96 rfl (fun h96 => ?_) (fun h96 => absurd h96 (by decide))
      refine s_aload_n (pc := 103) (i := 0) dX8_search_103 rfl rfl ?_
      refine m_gr (pc := 104) dX8_search_104 ff_X8_30 rfl o_517 r_517_0 ?_
      refine m_gr (pc := 107) dX8_search_107 ff_X8_41 rfl o_31 r_31_0 ?_
      refine m_gr (pc := 110) dX8_search_110 ff_X8_60 rfl o_4 r_4_0 ?_
      refine s_iload_n (pc := 113) (i := 3) dX8_search_113 rfl rfl ?_
      refine m_ia (pc := 114) dX8_search_114 a_5 (vp_in_nI (n := i) (by omega) (by decide)) ?_
      refine m_nm (v' := nI (cS D i)) (rdI (j := i) (((Wc_ro hW hF).1.2.2.2.1 i (by omega)).1) (by omega)) ?_
      refine s_aload_n (pc := 115) (i := 1) dX8_search_115 rfl rfl ?_
      refine m_gr (pc := 116) dX8_search_116 ff_X8_63 rfl (sO_33).1 (sO_33.2.1).1 ?_
      refine s_iload_n (pc := 119) (i := 3) dX8_search_119 rfl rfl ?_
      refine m_ia (pc := 120) dX8_search_120 (sO_33.2.1).2 (vp_in_nI (n := i) (by omega) (by decide)) ?_
      refine m_nm (v' := nI (sT S i)) (rdI (j := i) (((Wc_ro hW hF).2.2.2.2.1.1 i (by omega)).1) (by omega)) ?_
      refine s_isub (pc := 121) dX8_search_121 ?_
      refine m_nm (v' := iR (roR D S i)) (by rw [roR, if_neg (by rw [z]; decide), if_pos (by omega), ← iR_sub]; rfl) ?_
      refine m_is (pc := 122) dX8_search_122 a_521 (vp_in_nI (n := i) (by omega) (by decide)) ?_
      rw [nI_clamp (n := i) (by omega)]
      refine m_inc (pc := 123) (v := 1) dX8_search_123 rfl rfl ?_
      dsimp only [List.set, List.filter]
      rw [nI_1]
      refine s_goto (pc := 126) (tgt := 72) dX8_search_126 rfl ?_
      exact ih (i + 1) _ (by omega) (fRo_u hF (by decide)) ⟨(up_a (by decide)).trans hM.1, (up_a (by decide)).trans hM.2.1, fun j hj => (up_a (by decide)).trans (hM.2.2.1 j hj), fun b hb => by
          by_cases e : b = i
          · subst e; rw [up_s]
          · rw [up_k e]; exact hM.2.2.2 b (by omega)⟩
theorem c_X8_search (hW : Wc I 33 D cs S) (hu : u < 2 ^ cc D) (h6 : roM u D ≤ 6) (hq : ∀ I', fRo I I' → (I' 517 7 = nI (roM u D) ∧ I' 517 8 = vRos D cs S u ∧ (∀ j, j < roM u D → I' 518 j = nI (roP u D j)) ∧ (roV D cs S u < 99999 → ∀ j, j < roM u D → I' 523 j = nI (roG D cs S u j))) → Q (.inl none) (Z I' J n w)) : Cn g (d + 8) mX8_search [.ref 517, .ref 33, .int (nI u)] (Z I J n w) Q := by
  have hb7 := hW.2.1.1
  have hc12 := hW.2.1.2.1
  have hp := p2_12 hc12
  show Rn g (d + 8) mX8_search 0 [.ref 517, .ref 33, .int (nI u), .retAddr 0] [] [] (Z I J n w) Q
  refine s_aload_n (pc := 0) (i := 0) dX8_search_0 rfl rfl ?_
  refine m_ic (pc := 1) (v := 0) dX8_search_1 rfl ?_
  refine m_pi (pc := 2) dX8_search_2 ff_X8_34 rfl rfl o_517 ?_
  refine s_aload_n (pc := 5) (i := 0) dX8_search_5 rfl rfl ?_
  refine m_ic (pc := 6) (v := -1) dX8_search_6 rfl ?_
  refine m_pi (pc := 7) dX8_search_7 ff_X8_38 rfl rfl o_517 ?_
  refine m_ic (pc := 10) (v := 0) dX8_search_10 rfl ?_
  refine s_istore_n (pc := 11) (i := 3) dX8_search_11 rfl (Nat.le_of_ble_eq_true rfl) ?_
  dsimp only [List.set, List.filter]
  refine rs1_lp hW (by omega) h6 (fun I1 i1 f1 h1 => ?_) (cc D) 0 _ (by omega) (fRo_u (fRo_u fRo_r (by decide)) (by decide)) ⟨(up_k (by decide)).trans up_s, up_s, fun j hj => absurd hj (Nat.not_lt_zero _)⟩
  refine m_ic (pc := 70) (v := 0) dX8_search_70 rfl ?_
  refine s_istore_n (pc := 71) (i := 3) dX8_search_71 rfl (Nat.le_of_ble_eq_true rfl) ?_
  dsimp only [List.set, List.filter]
  refine rs2_lp (u := u) (Wc_ro hW f1) (fun I2 i2 f2 h2 => ?_) (cb D) 0 I1 (by omega) fRo_r ⟨h1.1, h1.2.1, h1.2.2, fun b hb => absurd hb (Nat.not_lt_zero _)⟩
  refine s_aload_n (pc := 129) (i := 0) dX8_search_129 rfl rfl ?_
  refine s_aload_n (pc := 130) (i := 1) dX8_search_130 rfl rfl ?_
  refine m_v1 (pc := 131) dX8_search_131 lk_X8_66 ok_X8_weigh (rcO o_517 (by decide) rfl) rfl rfl (c_X8_weigh (M := roM u D) (v := roW D cs S u) (q := roP u D) (r0 := roR D S) (Wc_ro hW (fRo_t f1 f2)) h6 h2.1 (fun i hi => ⟨h2.2.2.1 i hi, (plc_lt (cc D) hi).1⟩) (fun i b => rfl) h2.2.2.2 (roR_b hW.2.1 hW.2.2.2.2.2) (fun I3 f3 h3 => kt_s ?_) (fun I3 f3 h3 => kt_s ?_))
  · refine s_ifeq (pc := 134) (tgt := 143) dX8_search_134 rfl (fun h134 => absurd h134 (by decide)) (fun h134 => ?_)
    refine s_aload_n (pc := 137) (i := 0) dX8_search_137 rfl rfl ?_
    refine m_ic (pc := 138) (v := 0) dX8_search_138 rfl ?_
    refine m_ic (pc := 139) (v := 0) dX8_search_139 rfl ?_
    refine m_v2 (pc := 140) dX8_search_140 lk_X8_70 ok_X8_give (rcO o_517 (by decide) rfl) rfl rfl (c_give0 (a := fun _ => 0) (o := fun _ => 0) (N := cb D) (M := roM u D) (v := roW D cs S u) (r0 := roR D S) h6 ⟨(f3 4 4 (by decide) (by decide) (by decide) (by decide)).trans (Wc_ro hW (fRo_t f1 f2)).1.1, (f3 517 7 (by decide) (by decide) (by decide) (by decide)).trans h2.1, fun i b hi hb => h3.1 i b (Nat.zero_le _) hi hb, fun i k hi => h3.2 i k (Nat.zero_le _) hi⟩ ⟨fun b hb => (f3 521 b (by decide) (by decide) (by decide) (by decide)).trans (h2.2.2.2 b hb), fun j hj => absurd hj (Nat.not_lt_zero _), (f3 517 8 (by decide) (by decide) (by decide) (by decide)).trans h2.2.1, fun z hz => by cases hz⟩ ⟨hb7, h6, roW_b hW.2.1, fun b => ⟨(roR_b hW.2.1 hW.2.2.2.2.2 b).1, Int.le_refl _, (roR_b hW.2.1 hW.2.2.2.2.2 b).2⟩⟩ (fun I4 f4 h4 => kt_v ?_))
    refine s_return (pc := 143) dX8_search_143 rfl ?_
    have F4 := fun x j a b c e => (f4 x j a b c e)
    refine hq I4 (fRo_t (fRo_t (fRo_t f1 f2) (fRo_W f3)) (fRo_g f4)) ⟨?_, ?_, fun j hj => ?_, fun hl j hj => ?_⟩
    · exact (f4 517 7 (by decide) (by decide) (by decide) (by decide)).trans ((f3 517 7 (by decide) (by decide) (by decide) (by decide)).trans h2.1)
    · rw [h4.2.2.1]
      show ob (nmF none 0 (roV D cs S u)) = vRos D cs S u
      by_cases z : roV D cs S u < 99999
      · rw [nmF, if_pos (btr_n.mpr z), vRos, if_pos z, Nat.zero_add]; rfl
      · rw [nmF, if_neg (fun y => z (btr_n.mp y)), vRos, if_neg z]; rfl
    · exact (f4 518 j (by decide) (by decide) (by decide) (by omega)).trans ((f3 518 j (by decide) (by decide) (by decide) (by decide)).trans (h2.2.2.1 j hj))
    · have bt0 : btr none 0 (roL (cb D) (roW D cs S u) (roM u D) 0 (roR D S)) = true := btr_n.mpr hl
      rw [h4.2.2.2 _ (show nmF none 0 _ = some _ from if_pos bt0) j hj, nbF, if_pos bt0, if_neg (Nat.not_lt_zero _)]; rfl
  · refine s_ifeq (pc := 134) (tgt := 143) dX8_search_134 rfl (fun h134 => ?_) (fun h134 => absurd h134 (by decide))
    refine s_return (pc := 143) dX8_search_143 rfl ?_
    have h3 : roV D cs S u = 99999 := h3
    refine hq I3 (fRo_t (fRo_t f1 f2) (fRo_W f3)) ⟨(f3 517 7 (by decide) (by decide) (by decide) (by decide)).trans h2.1, ?_, fun j hj => (f3 518 j (by decide) (by decide) (by decide) (by decide)).trans (h2.2.2.1 j hj), fun hl => absurd hl (by omega)⟩
    rw [f3 517 8 (by decide) (by decide) (by decide) (by decide), h2.2.1, vRos, if_neg (by omega)]
theorem rgt_lp (hk : cOk D) (h6 : roM u D ≤ 6) (hR : (I 517 7 = nI (roM u D) ∧ I 517 8 = vRos D cs S u ∧ (∀ j, j < roM u D → I 518 j = nI (roP u D j)) ∧ (roV D cs S u < 99999 → ∀ j, j < roM u D → I 523 j = nI (roG D cs S u j)))) (hc : c < cc D) (hq : Q (.inl (some (.int (vGiv D cs S c u)))) (Z I J n w)) : ∀ f i, i + f = roM u D → (∀ j, j < i → roV D cs S u < 99999 → roP u D j ≠ c) → Rn g (d + 0) mX8_givenTo 2 [.ref 517, .int (nI c), .int (nI i)] [] [] (Z I J n w) Q := by
  intro f
  induction f with
  | zero =>
    intro i hi hM
    have e : roM u D = i := by omega
    subst e
    have hc12 := hk.2.1
    refine s_iload_n (pc := 2) (i := 2) dX8_givenTo_2 rfl rfl ?_
    refine s_aload_n (pc := 3) (i := 0) dX8_givenTo_3 rfl rfl ?_
    refine m_gi (pc := 4) dX8_givenTo_4 ff_X8_34 rfl o_517 ?_
    refine m_nm (v' := nI (roM u D)) (hR.1) ?_
    refine s_icge (pc := 7) (tgt := 41) dX8_givenTo_7 rfl (fun h7 => ?_) (fun h7 => absurd (nI_le (a := roM u D) (b := (roM u D)) (by omega) (by omega)) h7)
    refine m_ic (pc := 41) (v := -1) dX8_givenTo_41 rfl ?_
    refine s_ireturn (pc := 42) dX8_givenTo_42 rfl rfl ?_
    have E : vGiv D cs S c u = -1 := if_neg (fun z => hM (bc u.testBit c) (bc_lt (cc D) hc z.1) z.2 (plc_c hc z.1))
    rw [E] at hq; exact hq
  | succ f ih =>
    intro i hi hM
    have hpi : roP u D i < cc D := (plc_lt (cc D) (show i < bc u.testBit (cc D) from (show i < roM u D by omega))).1
    have hc12 := hk.2.1
    refine s_iload_n (pc := 2) (i := 2) dX8_givenTo_2 rfl rfl ?_
    refine s_aload_n (pc := 3) (i := 0) dX8_givenTo_3 rfl rfl ?_
    refine m_gi (pc := 4) dX8_givenTo_4 ff_X8_34 rfl o_517 ?_
    refine m_nm (v' := nI (roM u D)) (hR.1) ?_
    refine s_icge (pc := 7) (tgt := 41) dX8_givenTo_7 rfl (fun h7 => absurd h7 (nI_ge (a := i) (b := roM u D) (by omega) (by omega))) (fun h7 => ?_)
    refine s_aload_n (pc := 10) (i := 0) dX8_givenTo_10 rfl rfl ?_
    refine m_gr (pc := 11) dX8_givenTo_11 ff_X8_9 rfl o_517 r_517_1 ?_
    refine s_iload_n (pc := 14) (i := 2) dX8_givenTo_14 rfl rfl ?_
    refine m_ia (pc := 15) dX8_givenTo_15 a_518 (vp_in_nI (n := i) (by omega) (by decide)) ?_
    refine m_nm (v' := nI (roP u D i)) (rdI (j := i) (hR.2.2.1 i (by omega)) (by omega)) ?_
    refine s_iload_n (pc := 16) (i := 1) dX8_givenTo_16 rfl rfl ?_
    refine s_icne (pc := 17) (tgt := 35) dX8_givenTo_17 rfl (fun h17 => ?_) (fun h17 => ?_)
    · have h17 : ¬ (roP u D i) = c := fun z => h17 ((nI_eq (a := roP u D i) (b := c) (by omega) (by omega)).mpr z)
      refine m_inc (pc := 35) (v := 1) dX8_givenTo_35 rfl rfl ?_
      dsimp only [List.set, List.filter]
      rw [nI_1]
      refine s_goto (pc := 38) (tgt := 2) dX8_givenTo_38 rfl ?_
      exact ih (i + 1) (by omega) (fun j hj hl => by
        by_cases e : j = i
        · subst e; exact h17
        · exact hM j (by omega) hl)
    · have h17 : (roP u D i) = c := (nI_eq (a := roP u D i) (b := c) (by omega) (by omega)).mp h17
      by_cases hl : roV D cs S u < 99999
      · have hvb := roV_b hk h6 hl
        refine s_aload_n (pc := 20) (i := 0) dX8_givenTo_20 rfl rfl ?_
        refine m_gi (pc := 21) dX8_givenTo_21 ff_X8_38 rfl o_517 ?_
        refine m_nm (v' := nI (roV D cs S u)) (hR.2.1.trans (if_pos hl)) ?_
        refine m_ic (pc := 24) (v := -1) dX8_givenTo_24 rfl ?_
        refine s_iceq (pc := 25) (tgt := 35) dX8_givenTo_25 rfl (fun h25 => absurd h25 (nI_m1 (by omega))) (fun h25 => ?_)
        refine s_aload_n (pc := 28) (i := 0) dX8_givenTo_28 rfl rfl ?_
        refine m_gr (pc := 29) dX8_givenTo_29 ff_X8_27 rfl o_517 r_517_6 ?_
        refine s_iload_n (pc := 32) (i := 2) dX8_givenTo_32 rfl rfl ?_
        refine m_ia (pc := 33) dX8_givenTo_33 a_523 (vp_in_nI (n := i) (by omega) (by decide)) ?_
        refine m_nm (v' := nI (roG D cs S u i)) (rdI (j := i) (hR.2.2.2 hl i (by omega)) (by omega)) ?_
        refine s_ireturn (pc := 34) dX8_givenTo_34 rfl rfl ?_
        have hp := plc_lt (p := u.testBit) (cc D) (show i < bc u.testBit (cc D) from (show i < roM u D by omega))
        have hc2 : plc u.testBit (cc D) i = c := h17
        rw [hc2] at hp
        have E : vGiv D cs S c u = nI (roG D cs S u i) := by rw [vGiv, if_pos ⟨hp.2.1, hl⟩, hp.2.2]
        rw [E] at hq; exact hq
      · skip
        refine s_aload_n (pc := 20) (i := 0) dX8_givenTo_20 rfl rfl ?_
        refine m_gi (pc := 21) dX8_givenTo_21 ff_X8_38 rfl o_517 ?_
        refine m_nm (v' := -1) (hR.2.1.trans (if_neg hl)) ?_
        refine m_ic (pc := 24) (v := -1) dX8_givenTo_24 rfl ?_
        refine s_iceq (pc := 25) (tgt := 35) dX8_givenTo_25 rfl (fun h25 => ?_) (fun h25 => absurd h25 (by decide))
        refine m_inc (pc := 35) (v := 1) dX8_givenTo_35 rfl rfl ?_
        dsimp only [List.set, List.filter]
        rw [nI_1]
        refine s_goto (pc := 38) (tgt := 2) dX8_givenTo_38 rfl ?_
        exact ih (i + 1) (by omega) (fun j hj hl2 => absurd hl2 hl)
theorem c_X8_givenTo (hk : cOk D) (h6 : roM u D ≤ 6) (hR : (I 517 7 = nI (roM u D) ∧ I 517 8 = vRos D cs S u ∧ (∀ j, j < roM u D → I 518 j = nI (roP u D j)) ∧ (roV D cs S u < 99999 → ∀ j, j < roM u D → I 523 j = nI (roG D cs S u j)))) (hc : c < cc D) (hq : Q (.inl (some (.int (vGiv D cs S c u)))) (Z I J n w)) : Cn g (d + 0) mX8_givenTo [.ref 517, .int (nI c)] (Z I J n w) Q := by
  show Rn g (d + 0) mX8_givenTo 0 [.ref 517, .int (nI c), .retAddr 0] [] [] (Z I J n w) Q
  refine m_ic (pc := 0) (v := 0) dX8_givenTo_0 rfl ?_
  refine s_istore_n (pc := 1) (i := 2) dX8_givenTo_1 rfl (Nat.le_of_ble_eq_true rfl) ?_
  dsimp only [List.set, List.filter]
  exact rgt_lp hk h6 hR hc hq (roM u D) 0 (by omega) (fun j hj => absurd hj (Nat.not_lt_zero _))
theorem c_X11_roster {x : Int32} (hW : Wc I 33 D cs S) (hn : n + 1 ≤ 600000 ∧ w + 6 ≤ 7000000) (r0 : ¬ fewR D x → Q (.inr 1) (Z (up I 1 18 (I 1 18 + 1)) J (n + 1) (w + 6))) (hg : ∀ u, x = nI u → u < 2 ^ cc D → roM u D ≤ 6 → ∀ I', kc I I' → Q (.inl (some (.int (vRos D cs S u)))) (Z I' J n w)) : Cn g (d + 9) mX11_roster [.ref 1, .int x] (Z I J n w) Q := by
  show Rn g (d + 9) mX11_roster 0 [.ref 1, .int x] [] [] (Z I J n w) Q
  refine s_aload_n (pc := 0) (i := 0) dX11_roster_0 rfl rfl ?_
  refine s_iload_n (pc := 1) (i := 1) dX11_roster_1 rfl rfl ?_
  refine m_v1 (pc := 2) dX11_roster_2 lk_X11_292 ok_X11_needRosterBits (rcO o_1 (by decide) rfl) rfl rfl (c_nrb hW hn (fun u e hu h6 => kt_v ?_) (fun z => kt_x ?_))
  · subst e
    refine s_aload_n (pc := 5) (i := 0) dX11_roster_5 rfl rfl ?_
    refine m_gr (pc := 6) dX11_roster_6 ff_X11_83 rfl o_1 r_1_12 ?_
    refine s_aload_n (pc := 9) (i := 0) dX11_roster_9 rfl rfl ?_
    refine m_gr (pc := 10) dX11_roster_10 ff_X11_73 rfl o_1 r_1_10 ?_
    refine s_iload_n (pc := 13) (i := 1) dX11_roster_13 rfl rfl ?_
    refine m_v2 (pc := 14) dX11_roster_14 lk_X11_295 ok_X8_search (rcO o_517 (by decide) rfl) rfl rfl (c_X8_search hW hu h6 (fun I1 f1 h1 => kt_v ?_))
    refine s_aload_n (pc := 17) (i := 0) dX11_roster_17 rfl rfl ?_
    refine m_gr (pc := 18) dX11_roster_18 ff_X11_83 rfl o_1 r_1_12 ?_
    refine m_gi (pc := 21) dX11_roster_21 ff_X11_299 rfl o_517 ?_
    refine m_nm (v' := vRos D cs S u) (h1.2.1) ?_
    refine s_ireturn (pc := 24) dX11_roster_24 rfl rfl ?_
    exact hg u rfl hu h6 I1 (fRo_kc f1)
  · exact r0 z
theorem c_X11_gives {x y : Int32} (hW : Wc I 33 D cs S) (hn : n + 1 ≤ 600000 ∧ w + 6 ≤ 7000000) (r0 : ¬ iv 0 (cc D) x → Q (.inr 0) (Z (up I 1 17 (I 1 17 + 1)) J (n + 1) (w + 6))) (r1 : iv 0 (cc D) x → ¬ fewR D y → Q (.inr 1) (Z (up I 1 18 (I 1 18 + 1)) J (n + 1) (w + 6))) (hg : ∀ c u, x = nI c → c < cc D → y = nI u → u < 2 ^ cc D → roM u D ≤ 6 → ∀ I', kc I I' → Q (.inl (some (.int (vGiv D cs S c u)))) (Z I' J n w)) : Cn g (d + 9) mX11_gives [.ref 1, .int x, .int y] (Z I J n w) Q := by
  show Rn g (d + 9) mX11_gives 0 [.ref 1, .int x, .int y] [] [] (Z I J n w) Q
  refine s_aload_n (pc := 0) (i := 0) dX11_gives_0 rfl rfl ?_
  refine s_iload_n (pc := 1) (i := 1) dX11_gives_1 rfl rfl ?_
  refine m_v1 (pc := 2) dX11_gives_2 lk_X11_240 ok_X11_needCouncil (rcO o_1 (by decide) rfl) rfl rfl (c_nk hW.1 hW.2.1 hn (fun c ec hc => kt_v ?_) (fun z => kt_x ?_))
  · subst ec
    refine s_aload_n (pc := 5) (i := 0) dX11_gives_5 rfl rfl ?_
    refine s_iload_n (pc := 6) (i := 2) dX11_gives_6 rfl rfl ?_
    refine m_v1 (pc := 7) dX11_gives_7 lk_X11_292 ok_X11_needRosterBits (rcO o_1 (by decide) rfl) rfl rfl (c_nrb hW hn (fun u e hu h6 => kt_v ?_) (fun z => kt_x ?_))
    · subst e
      refine s_aload_n (pc := 10) (i := 0) dX11_gives_10 rfl rfl ?_
      refine m_gr (pc := 11) dX11_gives_11 ff_X11_83 rfl o_1 r_1_12 ?_
      refine s_aload_n (pc := 14) (i := 0) dX11_gives_14 rfl rfl ?_
      refine m_gr (pc := 15) dX11_gives_15 ff_X11_73 rfl o_1 r_1_10 ?_
      refine s_iload_n (pc := 18) (i := 2) dX11_gives_18 rfl rfl ?_
      refine m_v2 (pc := 19) dX11_gives_19 lk_X11_295 ok_X8_search (rcO o_517 (by decide) rfl) rfl rfl (c_X8_search hW hu h6 (fun I1 f1 h1 => kt_v ?_))
      refine s_aload_n (pc := 22) (i := 0) dX11_gives_22 rfl rfl ?_
      refine m_gr (pc := 23) dX11_gives_23 ff_X11_83 rfl o_1 r_1_12 ?_
      refine s_iload_n (pc := 26) (i := 1) dX11_gives_26 rfl rfl ?_
      refine m_v1 (pc := 27) dX11_gives_27 lk_X11_302 ok_X8_givenTo (rcO o_517 (by decide) rfl) rfl rfl (c_X8_givenTo hW.2.1 h6 h1 hc (kt_s ?_))
      refine s_ireturn (pc := 30) dX11_gives_30 rfl rfl ?_
      exact hg c u rfl hc rfl hu h6 I1 (fRo_kc f1)
    · exact r1 ⟨c, rfl, Nat.zero_le _, hc⟩ z
  · exact r0 z
end S
