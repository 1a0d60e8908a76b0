section S
variable {g : aG} {d : Nat} {I : Nat → Nat → Int32} {J : Nat → Nat → Int64} {n w : Nat} {Q : aO → aS → Prop}
variable {S : sD} {D : cD} {cs : List Nat} {u i c b s t l kn T L : Nat} {gg : Nat → Nat}
def fMr (I I' : Nat → Nat → Int32) : Prop := ∀ x j, x ≠ 545 → x ≠ 546 → ¬ (553 < x ∧ x < 557) → ¬ (x = 534 ∧ j = 44) → I' x j = I x j
theorem fMr_r : fMr I I := fun _ _ _ _ _ _ => rfl
theorem fMr_t {I' I'' : Nat → Nat → Int32} (h : fMr I I') (h2 : fMr I' I'') : fMr I I'' := fun x j a b c e => (h2 x j a b c e).trans (h x j a b c e)
theorem fMr_m {I' : Nat → Nat → Int32} (h : fm I I') : fMr I I' := fun x j a b _ _ => h x j a b
theorem fMr_u {I' : Nat → Nat → Int32} {y j : Nat} {x : Int32} (h : fMr I I') (hy : (553 < y ∧ y < 557) ∨ (y = 534 ∧ j = 44)) : fMr I (up I' y j x) := fun z t a b c e => (up_n3 (by omega)).trans (h z t a b c e)
theorem fMr_km {I' : Nat → Nat → Int32} (h : fMr I I') : km I I' := fun x j z => h x j (fun e => z (by unfold mS; omega)) (fun e => z (by unfold mS; omega)) (fun e => z (by unfold mS; omega)) (fun e => z (by unfold mS; omega))
theorem fMr_0 {I' : Nat → Nat → Int32} (h : fMr I I') : I' 534 0 = I 534 0 := h _ _ (by decide) (by decide) (by decide) (by decide)
theorem Wm_ro {I' : Nat → Nat → Int32} (h : Wm I D cs S) (hf : fMr I I') : Wm I' D cs S := ⟨Mo_fr h.1 (fun x j _ => hf x j (by omega) (by omega) (by omega) (by omega)), h.2.1, Lq_fr h.2.2.1 (fun x j _ => hf x j (by omega) (by omega) (by omega) (by omega)), h.2.2.2.1, Sm_fr h.2.2.2.2.1 (fun j _ => hf 550 j (by decide) (by decide) (by decide) (by omega)), h.2.2.2.2.2⟩
/-- the places are laid -/
def plM (D : cD) (u : Nat) (I : Nat → Nat → Int32) : Prop := I 534 44 = nI (roM u D) ∧ ∀ j, j < roM u D → I 554 j = nI (roP u D j)
def f55 (I I' : Nat → Nat → Int32) : Prop := ∀ x j, x ≠ 545 → x ≠ 546 → x ≠ 555 → I' x j = I x j
theorem f55_r : f55 I I := fun _ _ _ _ _ => rfl
theorem f55_t {I' I'' : Nat → Nat → Int32} (h : f55 I I') (h2 : f55 I' I'') : f55 I I'' := fun x j a b c => (h2 x j a b c).trans (h x j a b c)
theorem f55_m {I' : Nat → Nat → Int32} (h : fm I I') : f55 I I' := fun x j a b _ => h x j a b
theorem f55_u {I' : Nat → Nat → Int32} {j : Nat} {x : Int32} (h : f55 I I') : f55 I (up I' 555 j x) := fun z t a b c => (up_a c).trans (h z t a b c)
theorem f55_M {I' : Nat → Nat → Int32} (h : f55 I I') : fMr I I' := fun x j a b c _ => h x j a b (by omega)
theorem plM_f {I' : Nat → Nat → Int32} (h : plM D u I) (hf : f55 I I') : plM D u I' := ⟨(hf 534 44 (by decide) (by decide) (by decide)).trans h.1, fun j hj => (hf 554 j (by decide) (by decide) (by decide)).trans (h.2 j hj)⟩
theorem c_onu (hu : u < 4096) (hq : Q (.inl (some (.int (nI (bc u.testBit 12))))) (Z I J n w)) : Cn g (d + 0) mX12_ones [.int (nI u)] (Z I J n w) Q := by
  have h := c_X12_ones (g := g) (d := d) hq
  rw [bs_sf (show u < 2 ^ 12 by omega)] at h; exact h
theorem bc_12 (hc : cc D ≤ 12) (hu : u < 2 ^ cc D) : bc u.testBit 12 = roM u D := by
  have h := bc_up (q := u.testBit) (m := cc D) (12 - cc D) (fun i h1 _ => Nat.testBit_lt_two_pow (Nat.lt_of_lt_of_le hu (Nat.pow_le_pow_right (by omega) h1)))
  rw [show cc D + (12 - cc D) = 12 by omega] at h
  exact h
theorem c_X12_isFewCouncils {x : Int32} (hc12 : cc D ≤ 12) (h18 : I 534 18 = nI (cc D)) (k1 : ∀ u, x = nI u → u < 2 ^ cc D → roM u D ≤ 6 → Q (.inl (some (.int 1))) (Z I J n w)) (k0 : ¬ fewR D x → Q (.inl (some (.int 0))) (Z I J n w)) : Cn g (d + 1) mX12_isFewCouncils [.ref 534, .int x] (Z I J n w) Q := by
  have hp := p2_12 hc12
  by_cases hx : x < 0
  · skip
    show Rn g (d + 1) mX12_isFewCouncils 0 [.ref 534, .int x] [] [] (Z I J n w) Q
    refine s_iload_n (pc := 0) (i := 1) dX12_isFewCouncils_0 rfl rfl ?_
    refine s_iflt (pc := 1) (tgt := 27) dX12_isFewCouncils_1 rfl (fun h1 => ?_) (fun h1 => absurd (hx) h1)
    refine m_ic (pc := 27) (v := 0) dX12_isFewCouncils_27 rfl ?_
    refine s_ireturn (pc := 28) dX12_isFewCouncils_28 rfl rfl ?_
    exact k0 (fun y => by
      obtain ⟨u, e, hu, _⟩ := y
      rw [e] at hx
      exact nI_pos (by omega) hx)
  · obtain ⟨u, hu31, rfl⟩ := pos_n hx
    show Rn g (d + 1) mX12_isFewCouncils 0 [.ref 534, .int (nI u)] [] [] (Z I J n w) Q
    refine s_iload_n (pc := 0) (i := 1) dX12_isFewCouncils_0 rfl rfl ?_
    refine s_iflt (pc := 1) (tgt := 27) dX12_isFewCouncils_1 rfl (fun h1 => absurd h1 (nI_nlt (a := u) (b := 0) (by omega) (by omega))) (fun h1 => ?_)
    refine s_iload_n (pc := 4) (i := 1) dX12_isFewCouncils_4 rfl rfl ?_
    refine m_ic (pc := 5) (v := 1) dX12_isFewCouncils_5 rfl ?_
    refine s_aload_n (pc := 6) (i := 0) dX12_isFewCouncils_6 rfl rfl ?_
    refine m_gi (pc := 7) dX12_isFewCouncils_7 ff_X12_157 rfl o_534 ?_
    refine m_nm (v' := nI (cc D)) (h18) ?_
    refine s_ishl (pc := 10) dX12_isFewCouncils_10 ?_
    refine m_nm (v' := nI (2 ^ cc D)) (sh_1 (by omega)) ?_
    refine s_icge (pc := 11) (tgt := 27) dX12_isFewCouncils_11 rfl (fun h11 => ?_) (fun h11 => ?_)
    · have h11 : (2 ^ cc D) ≤ u := (nI_leI (a := 2 ^ cc D) (b := u) (by omega) (by omega)).mp h11
      refine m_ic (pc := 27) (v := 0) dX12_isFewCouncils_27 rfl ?_
      refine s_ireturn (pc := 28) dX12_isFewCouncils_28 rfl rfl ?_
      exact k0 (fun y => by
        obtain ⟨u', e, hu, _⟩ := y
        have e' := (nI_eq (a := u) (b := u') (by omega) (by omega)).mp e
        omega)
    · have h11 : ¬ (2 ^ cc D) ≤ u := fun z => h11 ((nI_leI (a := 2 ^ cc D) (b := u) (by omega) (by omega)).mpr z)
      refine s_iload_n (pc := 14) (i := 1) dX12_isFewCouncils_14 rfl rfl ?_
      refine m_s1 (pc := 15) dX12_isFewCouncils_15 lk_X12_338 ok_X12_ones rfl rfl (c_onu (by omega) (kt_s ?_))
      refine m_nm (v' := nI (roM u D)) (by rw [bc_12 hc12 (by omega)]) ?_
      have hM12 := bc_le u.testBit (cc D)
      have hM13 : roM u D ≤ cc D := hM12
      refine m_bi (pc := 18) (v := 6) dX12_isFewCouncils_18 rfl ?_
      refine s_icgt (pc := 20) (tgt := 27) dX12_isFewCouncils_20 rfl (fun h20 => ?_) (fun h20 => ?_)
      · have h20 : 6 < (roM u D) := (nI_ltI (a := 6) (b := roM u D) (by omega) (by omega)).mp h20
        refine m_ic (pc := 27) (v := 0) dX12_isFewCouncils_27 rfl ?_
        refine s_ireturn (pc := 28) dX12_isFewCouncils_28 rfl rfl ?_
        exact k0 (fun y => by have := fewR_u hc12 (by omega) y; omega)
      · have h20 : ¬ 6 < (roM u D) := fun z => h20 ((nI_ltI (a := 6) (b := roM u D) (by omega) (by omega)).mpr z)
        refine m_ic (pc := 23) (v := 1) dX12_isFewCouncils_23 rfl ?_
        refine s_goto (pc := 24) (tgt := 28) dX12_isFewCouncils_24 rfl ?_
        refine s_ireturn (pc := 28) dX12_isFewCouncils_28 rfl rfl ?_
        exact k1 u rfl (by omega) (by omega)
theorem mpl_lp (hW : Wm I D cs S) (hu : u < 4096) (h6 : roM u D ≤ 6) (hq : ∀ I', fMr I I' → plM D u I' → Q (.inl none) (Z I' J n w)) : ∀ f i I1, i + f = cc D → fMr I I1 → (I1 534 44 = nI (bc u.testBit i) ∧ ∀ j, j < bc u.testBit i → I1 554 j = nI (plc u.testBit i j)) → Rn g (d + 0) mX12_places 7 [.ref 534, .int (nI u), .int (nI i)] [] [] (Z I1 J n w) Q := by
  intro f
  induction f with
  | zero =>
    intro i I1 hi hF hM
    have e : cc D = i := by omega
    subst e
    have hb7 := hW.2.1.1
    have hc12 := hW.2.1.2.1
    refine s_iload_n (pc := 7) (i := 2) dX12_places_7 rfl rfl ?_
    refine s_aload_n (pc := 8) (i := 0) dX12_places_8 rfl rfl ?_
    refine m_gi (pc := 9) dX12_places_9 ff_X12_157 rfl o_534 ?_
    refine m_nm (v' := nI (cc D)) ((Wm_ro hW hF).1.2.1) ?_
    refine s_icge (pc := 12) (tgt := 52) dX12_places_12 rfl (fun h12 => ?_) (fun h12 => absurd (nI_le (a := cc D) (b := (cc D)) (by omega) (by omega)) h12)
    refine s_return (pc := 52) dX12_places_52 rfl ?_
    exact hq I1 hF hM
  | succ f ih =>
    intro i I1 hi hF hM
    have hb7 := hW.2.1.1
    have hc12 := hW.2.1.2.1
    refine s_iload_n (pc := 7) (i := 2) dX12_places_7 rfl rfl ?_
    refine s_aload_n (pc := 8) (i := 0) dX12_places_8 rfl rfl ?_
    refine m_gi (pc := 9) dX12_places_9 ff_X12_157 rfl o_534 ?_
    refine m_nm (v' := nI (cc D)) ((Wm_ro hW hF).1.2.1) ?_
    refine s_icge (pc := 12) (tgt := 52) dX12_places_12 rfl (fun h12 => absurd h12 (nI_ge (a := i) (b := cc D) (by omega) (by omega))) (fun h12 => ?_)
    refine s_iload_n (pc := 15) (i := 1) dX12_places_15 rfl rfl ?_
    refine s_iload_n (pc := 16) (i := 2) dX12_places_16 rfl rfl ?_
    refine s_ishr (pc := 17) dX12_places_17 ?_
    refine m_ic (pc := 18) (v := 1) dX12_places_18 rfl ?_
    refine s_iand (pc := 19) dX12_places_19 ?_
    refine m_nm (v' := if u.testBit i = true then 1 else 0) (tb_1 hu (by omega)) ?_
    refine s_ifne (pc := 20) (tgt := 26) dX12_places_20 rfl (fun h20 => ?_) (fun h20 => ?_)
    · have hy : u.testBit i = true := by
        by_cases z : u.testBit i = true
        · exact z
        · rw [if_neg z] at h20; exact absurd rfl h20
      have hb6 := bc_lt (p := u.testBit) (cc D) (show i < cc D by omega) hy
      have h6b : bc u.testBit (cc D) ≤ 6 := h6
      refine s_aload_n (pc := 26) (i := 0) dX12_places_26 rfl rfl ?_
      refine m_gr (pc := 27) dX12_places_27 ff_X12_74 rfl o_534 r_534_42 ?_
      refine s_aload_n (pc := 30) (i := 0) dX12_places_30 rfl rfl ?_
      refine m_gi (pc := 31) dX12_places_31 ff_X12_394 rfl o_534 ?_
      refine m_nm (v' := nI (bc u.testBit i)) (hM.1) ?_
      refine s_iload_n (pc := 34) (i := 2) dX12_places_34 rfl rfl ?_
      refine m_is (pc := 35) dX12_places_35 a_554 (vp_in_nI (n := bc u.testBit i) (by omega) (by decide)) ?_
      rw [nI_clamp (n := bc u.testBit i) (by omega)]
      refine s_aload_n (pc := 36) (i := 0) dX12_places_36 rfl rfl ?_
      refine s_dup (pc := 37) dX12_places_37 rfl ?_
      refine m_gi (pc := 38) dX12_places_38 ff_X12_394 rfl o_534 ?_
      refine m_nm (v' := nI (bc u.testBit i)) ((up_a (by decide)).trans hM.1) ?_
      refine m_ic (pc := 41) (v := 1) dX12_places_41 rfl ?_
      refine s_iadd (pc := 42) dX12_places_42 ?_
      refine m_nm (v' := nI ((bc u.testBit i) + 1)) (nI_add (bc u.testBit i) 1) ?_
      refine m_pi (pc := 43) dX12_places_43 ff_X12_394 rfl rfl o_534 ?_
      refine m_inc (pc := 46) (v := 1) dX12_places_46 rfl rfl ?_
      dsimp only [List.set, List.filter]
      rw [nI_1]
      refine s_goto (pc := 49) (tgt := 7) dX12_places_49 rfl ?_
      have E : bc u.testBit (i + 1) = bc u.testBit i + 1 := bc_yy hy
      refine ih (i + 1) _ (by omega) (fMr_u (fMr_u hF (by omega)) (by omega)) ⟨up_s.trans (by rw [E]), fun j hj => ?_⟩
      rw [up_a (by decide)]
      by_cases e : j = bc u.testBit i
      · subst e; rw [up_s, plc_y hy]
      · rw [up_k e, plc_s (by omega)]; exact hM.2 j (by omega)
    · skip
      refine s_goto (pc := 23) (tgt := 46) dX12_places_23 rfl ?_
      refine m_inc (pc := 46) (v := 1) dX12_places_46 rfl rfl ?_
      dsimp only [List.set, List.filter]
      rw [nI_1]
      refine s_goto (pc := 49) (tgt := 7) dX12_places_49 rfl ?_
      have hy : u.testBit i = false := by
        cases z : u.testBit i with
        | false => rfl
        | true => rw [if_pos z] at h20; exact absurd h20 (by decide)
      have E : bc u.testBit (i + 1) = bc u.testBit i := bc_nn hy
      exact ih (i + 1) I1 (by omega) hF ⟨by rw [E]; exact hM.1, fun j hj => by rw [plc_s (by omega)]; exact hM.2 j (by omega)⟩
theorem c_X12_places (hW : Wm I D cs S) (hu : u < 4096) (h6 : roM u D ≤ 6) (hq : ∀ I', fMr I I' → plM D u I' → Q (.inl none) (Z I' J n w)) : Cn g (d + 0) mX12_places [.ref 534, .int (nI u)] (Z I J n w) Q := by
  show Rn g (d + 0) mX12_places 0 [.ref 534, .int (nI u), .retAddr 0] [] [] (Z I J n w) Q
  refine s_aload_n (pc := 0) (i := 0) dX12_places_0 rfl rfl ?_
  refine m_ic (pc := 1) (v := 0) dX12_places_1 rfl ?_
  refine m_pi (pc := 2) dX12_places_2 ff_X12_394 rfl rfl o_534 ?_
  refine m_ic (pc := 5) (v := 0) dX12_places_5 rfl ?_
  refine s_istore_n (pc := 6) (i := 2) dX12_places_6 rfl (Nat.le_of_ble_eq_true rfl) ?_
  dsimp only [List.set, List.filter]
  exact mpl_lp hW hu h6 hq (cc D) 0 _ (by omega) (fMr_u fMr_r (by decide)) ⟨up_s, fun j hj => absurd hj (Nat.not_lt_zero _)⟩
theorem tog_lp (hW : Wm I D cs S) (hP : plM D u I) (h6 : roM u D ≤ 6) (hb : b < cb D) (ht : t < 64) (hq : ∀ I', fm I I' → Q (.inl (some (.int (nI (tgF (roM u D) (roW D cs S u) (roR D S) b t))))) (Z I' J n w)) : ∀ f i I1, i + f = roM u D → fm I I1 → Rn g (d + 6) mX12_togetherFor 5 [.ref 534, .int (nI b), .int (nI t), .int (nI (sms t (fun j => roW D cs S u j b) i)), .int (nI i)] [] [] (Z I1 J n w) Q := by
  intro f
  induction f with
  | zero =>
    intro i I1 hi hF
    have e : roM u D = i := by omega
    subst e
    have hb7 := hW.2.1.1
    have hc12 := hW.2.1.2.1
    have hst := hW.2.2.2.2.2.1 b
    have hsc := hW.2.1.2.2.2.1 b hb
    have hsm := sms_le (v := t) (f := (fun j => roW D cs S u j b)) (M := 135) (roM u D) (fun i hi => roW_b hW.2.1 i b hi)
    refine s_iload (pc := 5) (i := 4) dX12_togetherFor_5 rfl ?_
    refine s_aload_n (pc := 7) (i := 0) dX12_togetherFor_7 rfl rfl ?_
    refine m_gi (pc := 8) dX12_togetherFor_8 ff_X12_394 rfl o_534 ?_
    refine m_nm (v' := nI (roM u D)) ((hF 534 44 (by decide) (by decide)).trans hP.1) ?_
    refine s_icge (pc := 11) (tgt := 42) dX12_togetherFor_11 rfl (fun h11 => ?_) (fun h11 => absurd (nI_le (a := roM u D) (b := (roM u D)) (by omega) (by omega)) h11)
    refine s_iload_n (pc := 42) (i := 2) dX12_togetherFor_42 rfl rfl ?_
    refine s_ifne (pc := 43) (tgt := 50) dX12_togetherFor_43 rfl (fun h43 => ?_) (fun h43 => ?_)
    · have h43 : ¬ t = 0 := fun z => h43 ((nI_eq (a := t) (b := 0) (by omega) (by omega)).mpr z)
      refine s_aload_n (pc := 50) (i := 0) dX12_togetherFor_50 rfl rfl ?_
      refine m_gr (pc := 51) dX12_togetherFor_51 ff_X12_62 rfl o_534 r_534_37 ?_
      refine m_bi (pc := 54) (v := 91) dX12_togetherFor_54 rfl ?_
      refine s_iload_n (pc := 56) (i := 1) dX12_togetherFor_56 rfl rfl ?_
      refine s_iadd (pc := 57) dX12_togetherFor_57 ?_
      refine m_nm (v' := nI (91 + b)) (nI_add 91 b) ?_
      refine m_ia (pc := 58) dX12_togetherFor_58 a_550 (vp_in_nI (n := 91 + b) (by omega) (by decide)) ?_
      refine m_nm (v' := if sF S b = true then 1 else 0) (rdI (j := 91 + b) (((Wm_fm hW hF).2.2.2.2.1.1 b (by omega)).2.1) (by omega)) ?_
      refine m_ic (pc := 59) (v := 1) dX12_togetherFor_59 rfl ?_
      refine s_iceq (pc := 60) (tgt := 85) dX12_togetherFor_60 rfl (fun h60 => ?_) (fun h60 => ?_)
      · have hf : sF S b = true := ts_nf (fun z => by rw [if_neg (by rw [z]; decide)] at h60; exact absurd h60 (by decide))
        refine s_ldcw (pc := 85) dX12_togetherFor_85 ct_X12_397 ?_
        refine m_nm (v' := nI 99999) (rfl) ?_
        refine s_goto (pc := 88) (tgt := 92) dX12_togetherFor_88 rfl ?_
        refine s_ireturn (pc := 92) dX12_togetherFor_92 rfl rfl ?_
        have E : tgF (roM u D) (roW D cs S u) (roR D S) b t = 99999 := by rw [tgF, if_neg h43, if_neg (by rw [roR, if_pos hf]; omega)]
        have h := hq I1 hF
        rw [E] at h; exact h
      · have hf : sF S b = false := ts_nt (fun z => h60 (by rw [if_pos z]))
        refine s_aload_n (pc := 63) (i := 0) dX12_togetherFor_63 rfl rfl ?_
        refine m_gr (pc := 64) dX12_togetherFor_64 ff_X12_62 rfl o_534 r_534_37 ?_
        refine m_bi (pc := 67) (v := 84) dX12_togetherFor_67 rfl ?_
        refine s_iload_n (pc := 69) (i := 1) dX12_togetherFor_69 rfl rfl ?_
        refine s_iadd (pc := 70) dX12_togetherFor_70 ?_
        refine m_nm (v' := nI (84 + b)) (nI_add 84 b) ?_
        refine m_ia (pc := 71) dX12_togetherFor_71 a_550 (vp_in_nI (n := 84 + b) (by omega) (by decide)) ?_
        refine m_nm (v' := nI (sT S b)) (rdI (j := 84 + b) (((Wm_fm hW hF).2.2.2.2.1.1 b (by omega)).1) (by omega)) ?_
        refine s_iload_n (pc := 72) (i := 3) dX12_togetherFor_72 rfl rfl ?_
        refine s_iadd (pc := 73) dX12_togetherFor_73 ?_
        refine m_nm (v' := nI ((sT S b) + ((sms t (fun j => roW D cs S u j b) (roM u D))))) (nI_add (sT S b) ((sms t (fun j => roW D cs S u j b) (roM u D)))) ?_
        refine s_aload_n (pc := 74) (i := 0) dX12_togetherFor_74 rfl rfl ?_
        refine m_gr (pc := 75) dX12_togetherFor_75 ff_X12_29 rfl o_534 r_534_12 ?_
        refine m_ic (pc := 78) (v := 2) dX12_togetherFor_78 rfl ?_
        refine s_iload_n (pc := 79) (i := 1) dX12_togetherFor_79 rfl rfl ?_
        refine s_imul (pc := 80) dX12_togetherFor_80 ?_
        refine m_nm (v' := nI (2 * b)) (pk_mul 2 b) ?_
        refine m_ia (pc := 81) dX12_togetherFor_81 a_539 (vp_in_nI (n := 2 * b) (by omega) (by decide)) ?_
        refine m_nm (v' := nI (cS D b)) (rdI (j := 2 * b) (((Wm_fm hW hF).1.2.2.2.1 b hb).1) (by omega)) ?_
        refine s_icle (pc := 82) (tgt := 91) dX12_togetherFor_82 rfl (fun h82 => ?_) (fun h82 => ?_)
        · have h82 : ((sT S b) + ((sms t (fun j => roW D cs S u j b) (roM u D)))) ≤ (cS D b) := (nI_leI (a := (sT S b) + ((sms t (fun j => roW D cs S u j b) (roM u D)))) (b := cS D b) (by omega) (by omega)).mp h82
          refine s_iload_n (pc := 91) (i := 3) dX12_togetherFor_91 rfl rfl ?_
          refine s_ireturn (pc := 92) dX12_togetherFor_92 rfl rfl ?_
          have E : tgF (roM u D) (roW D cs S u) (roR D S) b t = (sms t (fun j => roW D cs S u j b) (roM u D)) := by rw [tgF, if_neg h43, if_pos (by rw [roR, if_neg (by rw [hf]; decide), if_pos hb]; omega)]
          have h := hq I1 hF
          rw [E] at h; exact h
        · have h82 : ¬ ((sT S b) + ((sms t (fun j => roW D cs S u j b) (roM u D)))) ≤ (cS D b) := fun z => h82 ((nI_leI (a := (sT S b) + ((sms t (fun j => roW D cs S u j b) (roM u D)))) (b := cS D b) (by omega) (by omega)).mpr z)
          refine s_ldcw (pc := 85) dX12_togetherFor_85 ct_X12_397 ?_
          refine m_nm (v' := nI 99999) (rfl) ?_
          refine s_goto (pc := 88) (tgt := 92) dX12_togetherFor_88 rfl ?_
          refine s_ireturn (pc := 92) dX12_togetherFor_92 rfl rfl ?_
          have E : tgF (roM u D) (roW D cs S u) (roR D S) b t = 99999 := by rw [tgF, if_neg h43, if_neg (by rw [roR, if_neg (by rw [hf]; decide), if_pos hb]; omega)]
          have h := hq I1 hF
          rw [E] at h; exact h
    · have h43 : t = 0 := (nI_eq (a := t) (b := 0) (by omega) (by omega)).mp h43
      refine m_ic (pc := 46) (v := 0) dX12_togetherFor_46 rfl ?_
      refine s_goto (pc := 47) (tgt := 92) dX12_togetherFor_47 rfl ?_
      refine s_ireturn (pc := 92) dX12_togetherFor_92 rfl rfl ?_
      have E : tgF (roM u D) (roW D cs S u) (roR D S) b t = 0 := if_pos h43
      have h := hq I1 hF
      rw [E] at h; exact h
  | succ f ih =>
    intro i I1 hi hF
    have hb7 := hW.2.1.1
    have hc12 := hW.2.1.2.1
    refine s_iload (pc := 5) (i := 4) dX12_togetherFor_5 rfl ?_
    refine s_aload_n (pc := 7) (i := 0) dX12_togetherFor_7 rfl rfl ?_
    refine m_gi (pc := 8) dX12_togetherFor_8 ff_X12_394 rfl o_534 ?_
    refine m_nm (v' := nI (roM u D)) ((hF 534 44 (by decide) (by decide)).trans hP.1) ?_
    refine s_icge (pc := 11) (tgt := 42) dX12_togetherFor_11 rfl (fun h11 => absurd h11 (nI_ge (a := i) (b := roM u D) (by omega) (by omega))) (fun h11 => ?_)
    refine s_iload_n (pc := 14) (i := 3) dX12_togetherFor_14 rfl rfl ?_
    refine s_iload_n (pc := 15) (i := 2) dX12_togetherFor_15 rfl rfl ?_
    refine s_iload (pc := 16) (i := 4) dX12_togetherFor_16 rfl ?_
    refine s_ishr (pc := 18) dX12_togetherFor_18 ?_
    refine m_ic (pc := 19) (v := 1) dX12_togetherFor_19 rfl ?_
    refine s_iand (pc := 20) dX12_togetherFor_20 ?_
    refine m_nm (v' := if t.testBit i = true then 1 else 0) (tb_1 (by omega) (by omega)) ?_
    refine s_aload_n (pc := 21) (i := 0) dX12_togetherFor_21 rfl rfl ?_
    refine s_iload_n (pc := 22) (i := 1) dX12_togetherFor_22 rfl rfl ?_
    refine s_aload_n (pc := 23) (i := 0) dX12_togetherFor_23 rfl rfl ?_
    refine m_gr (pc := 24) dX12_togetherFor_24 ff_X12_74 rfl o_534 r_534_42 ?_
    refine s_iload (pc := 27) (i := 4) dX12_togetherFor_27 rfl ?_
    refine m_ia (pc := 29) dX12_togetherFor_29 a_554 (vp_in_nI (n := i) (by omega) (by decide)) ?_
    refine m_nm (v' := nI (roP u D i)) (rdI (j := i) ((hF 554 i (by decide) (by decide)).trans (hP.2 i (by omega))) (by omega)) ?_
    refine m_v2 (pc := 30) dX12_togetherFor_30 lk_X12_348 ok_X12_burdenBy (rcO o_534 (by decide) rfl) rfl rfl (c_X12_burdenBy (Wm_fm hW hF) hb (plc_lt (cc D) (show i < bc u.testBit (cc D) from (show i < roM u D by omega))).1 (fun I2 f2 => kt_s ?_))
    refine s_imul (pc := 33) dX12_togetherFor_33 ?_
    refine m_nm (v' := nI (if t.testBit i = true then roW D cs S u i b else 0)) (tb_m) ?_
    refine s_iadd (pc := 34) dX12_togetherFor_34 ?_
    refine m_nm (v' := nI (sms t (fun j => roW D cs S u j b) (i + 1))) (nI_add _ _) ?_
    refine s_istore_n (pc := 35) (i := 3) dX12_togetherFor_35 rfl (Nat.le_of_ble_eq_true rfl) ?_
    dsimp only [List.set, List.filter]
    refine m_inc (pc := 36) (v := 1) dX12_togetherFor_36 rfl rfl ?_
    dsimp only [List.set, List.filter]
    rw [nI_1]
    refine s_goto (pc := 39) (tgt := 5) dX12_togetherFor_39 rfl ?_
    exact ih (i + 1) I2  (by omega) (fm_t hF f2)
theorem c_X12_togetherFor (hW : Wm I D cs S) (hP : plM D u I) (h6 : roM u D ≤ 6) (hb : b < cb D) (ht : t < 64) (hq : ∀ I', fm I I' → Q (.inl (some (.int (nI (tgF (roM u D) (roW D cs S u) (roR D S) b t))))) (Z I' J n w)) : Cn g (d + 6) mX12_togetherFor [.ref 534, .int (nI b), .int (nI t)] (Z I J n w) Q := by
  show Rn g (d + 6) mX12_togetherFor 0 [.ref 534, .int (nI b), .int (nI t), .retAddr 0, .retAddr 0] [] [] (Z I J n w) Q
  refine m_ic (pc := 0) (v := 0) dX12_togetherFor_0 rfl ?_
  refine s_istore_n (pc := 1) (i := 3) dX12_togetherFor_1 rfl (Nat.le_of_ble_eq_true rfl) ?_
  dsimp only [List.set, List.filter]
  refine m_ic (pc := 2) (v := 0) dX12_togetherFor_2 rfl ?_
  refine s_istore (pc := 3) (i := 4) dX12_togetherFor_3 (Nat.le_of_ble_eq_true rfl) ?_
  dsimp only [List.set, List.filter]
  exact tog_lp hW hP h6 hb ht hq (roM u D) 0 I (by omega) fm_r
end S
