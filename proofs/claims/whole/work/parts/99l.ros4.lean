section S
variable {g : aG} {d : Nat} {I : Nat → Nat → Int32} {J : Nat → Nat → Int64} {n w : Nat} {Q : aO → aS → Prop}
variable {S : sD} {D : cD} {cs : List Nat} {N M : Nat} {v : Nat → Nat → Nat} {q : Nat → Nat} {r0 : Nat → Int} {m : Option Nat} {s t k u i : Nat} {a o f : Nat → Nat}
def fW (I I' : Nat → Nat → Int32) : Prop := ∀ x j, x ≠ 16 → x ≠ 17 → x ≠ 519 → x ≠ 520 → I' x j = I x j
theorem fW_r : fW I I := fun _ _ _ _ _ _ => rfl
theorem fW_t {I' I'' : Nat → Nat → Int32} (h : fW I I') (h2 : fW I' I'') : fW I I'' := fun x j a b c e => (h2 x j a b c e).trans (h x j a b c e)
theorem fW_l {I' I'' : Nat → Nat → Int32} (h : fW I I') (h2 : fl I' I'') : fW I I'' := fun x j a b c e => (h2 x j a b).trans (h x j a b c e)
theorem fW_u {I' : Nat → Nat → Int32} {y j : Nat} {x : Int32} (h : fW I I') (hy : y = 519 ∨ y = 520) : fW I (up I' y j x) := fun z t a b c e => (up_a (by omega)).trans (h z t a b c e)
def fRo (I I' : Nat → Nat → Int32) : Prop := ∀ x j, x ≠ 16 → x ≠ 17 → ¬ (516 < x ∧ x < 524) → I' x j = I x j
theorem fRo_r : fRo I I := fun _ _ _ _ _ => rfl
theorem fRo_t {I' I'' : Nat → Nat → Int32} (h : fRo I I') (h2 : fRo I' I'') : fRo I I'' := fun x j a b c => (h2 x j a b c).trans (h x j a b c)
theorem fRo_W {I' : Nat → Nat → Int32} (h : fW I I') : fRo I I' := fun x j a b c => h x j a b (by omega) (by omega)
theorem fRo_g {I' : Nat → Nat → Int32} (h : fgv I I') : fRo I I' := fun x j a b c => h x j (by omega) (by omega) (by omega) (by omega)
theorem fRo_u {I' : Nat → Nat → Int32} {y j : Nat} {x : Int32} (h : fRo I I') (hy : 516 < y ∧ y < 524) : fRo I (up I' y j x) := fun z t a b c => (up_a (fun e => c (by omega))).trans (h z t a b c)
theorem fRo_kc {I' : Nat → Nat → Int32} (h : fRo I I') : kc I I' := fun x j z => h x j (fun e => z (by unfold kS; omega)) (fun e => z (by unfold kS; omega)) (fun e => z (by unfold kS; omega))
theorem Wc_ro {I' : Nat → Nat → Int32} (h : Wc I 33 D cs S) (hf : fRo I I') : Wc I' 33 D cs S := ⟨Co_fr h.1 (fun x j _ _ => hf x j (by omega) (by omega) (by omega)), h.2.1, Lw_fr h.2.2.1 (fun x j _ _ => hf x j (by omega) (by omega) (by omega)), h.2.2.2.1, Sc_fr h.2.2.2.2.1 (fun x j _ _ => hf x j (by omega) (by omega) (by omega)), h.2.2.2.2.2⟩
/-- the least so far -/
def lsV (f : Nat → Nat) (i : Nat) : Int32 := if mnF f i < 99999 then nI (mnF f i) else -1
theorem lsV_n (h : mnF f i ≤ f i) : lsV f (i + 1) = lsV f i := by unfold lsV; rw [show mnF f (i + 1) = mnF f i from if_neg (by omega)]
theorem lsV_y (h : f i < mnF f i) (h9 : f i < 99999) : lsV f (i + 1) = nI (f i) := by
  have e : mnF f (i + 1) = f i := if_pos h
  unfold lsV; rw [e, if_pos h9]
def lsf (v : Nat → Nat → Nat) (r0 : Nat → Int) (t b : Nat) : Nat := if (v t b : Int) ≤ r0 b then v t b else 99999
theorem rwi_lp (hW : Wc I 33 D cs S) (hM6 : M ≤ 6) (hM7 : I 517 7 = nI M) (hq : ∀ i, i < M → I 518 i = nI (q i) ∧ q i < cc D) (hv : ∀ i b, v i b = bur D cs S b (q i) 0) (hR : ∀ b, b < cb D → I 521 b = iR (r0 b)) (hr1 : ∀ b, -1000 ≤ r0 b ∧ r0 b ≤ 1000) (ht : t < M) (hc : ∀ I' v5, fW I I' → ((∀ b, b < cb D → I' 519 (t * 7 + b) = nI (v t b)) ∧ (∀ j b, t < j → b < 7 → I' 519 (j * 7 + b) = I 519 (j * 7 + b)) ∧ ∀ j, I' 520 j = I 520 j) → Rn g (d + 4) mX8_weigh 106 [.ref 517, .ref 33, .int (nI t), .int (lsV (lsf v r0 t) (cb D)), .int (nI (cb D)), v5] [] [] (Z I' J n w) Q) : ∀ f i I1 (v5 : Value), i + f = cb D → fW I I1 → ((∀ b, b < i → I1 519 (t * 7 + b) = nI (v t b)) ∧ (∀ j b, t < j → b < 7 → I1 519 (j * 7 + b) = I 519 (j * 7 + b)) ∧ ∀ j, I1 520 j = I 520 j) → Rn g (d + 4) mX8_weigh 26 [.ref 517, .ref 33, .int (nI t), .int (lsV (lsf v r0 t) i), .int (nI i), v5] [] [] (Z I1 J n w) Q := by
  intro f
  induction f with
  | zero =>
    intro i I1 v5 hi hF hM
    have e : cb D = i := by omega
    subst e
    have hb7 := hW.2.1.1
    have hc12 := hW.2.1.2.1
    refine s_iload (pc := 26) (i := 4) dX8_weigh_26 rfl ?_
    refine s_aload_n (pc := 28) (i := 0) dX8_weigh_28 rfl rfl ?_
    refine m_gr (pc := 29) dX8_weigh_29 ff_X8_30 rfl o_517 r_517_0 ?_
    refine m_gr (pc := 32) dX8_weigh_32 ff_X8_41 rfl o_31 r_31_0 ?_
    refine m_gi (pc := 35) dX8_weigh_35 ff_X8_51 rfl o_4 ?_
    refine m_nm (v' := nI (cb D)) ((Wc_ro hW (fRo_W hF)).1.1) ?_
    refine s_icge (pc := 38) (tgt := 106) dX8_weigh_38 rfl (fun h38 => ?_) (fun h38 => absurd (nI_le (a := cb D) (b := (cb D)) (by omega) (by omega)) h38)
    exact hc I1 v5 hF hM
  | succ f ih =>
    intro i I1 v5 hi hF hM
    have hb7 := hW.2.1.1
    have hc12 := hW.2.1.2.1
    have hv1 : v t i ≤ 135 := by rw [hv]; exact bur_le hW.2.1 (hq t ht).2
    have hri := hr1 i
    have hmn := mnF_le (f := (lsf v r0 t)) i
    refine s_iload (pc := 26) (i := 4) dX8_weigh_26 rfl ?_
    refine s_aload_n (pc := 28) (i := 0) dX8_weigh_28 rfl rfl ?_
    refine m_gr (pc := 29) dX8_weigh_29 ff_X8_30 rfl o_517 r_517_0 ?_
    refine m_gr (pc := 32) dX8_weigh_32 ff_X8_41 rfl o_31 r_31_0 ?_
    refine m_gi (pc := 35) dX8_weigh_35 ff_X8_51 rfl o_4 ?_
    refine m_nm (v' := nI (cb D)) ((Wc_ro hW (fRo_W hF)).1.1) ?_
    refine s_icge (pc := 38) (tgt := 106) dX8_weigh_38 rfl (fun h38 => absurd h38 (nI_ge (a := i) (b := cb D) (by omega) (by omega))) (fun h38 => ?_)
    refine s_aload_n (pc := 41) (i := 0) dX8_weigh_41 rfl rfl ?_
    refine m_gr (pc := 42) dX8_weigh_42 ff_X8_30 rfl o_517 r_517_0 ?_
    refine s_aload_n (pc := 45) (i := 1) dX8_weigh_45 rfl rfl ?_
    refine s_iload (pc := 46) (i := 4) dX8_weigh_46 rfl ?_
    refine s_aload_n (pc := 48) (i := 0) dX8_weigh_48 rfl rfl ?_
    refine m_gr (pc := 49) dX8_weigh_49 ff_X8_9 rfl o_517 r_517_1 ?_
    refine s_iload_n (pc := 52) (i := 2) dX8_weigh_52 rfl rfl ?_
    refine m_ia (pc := 53) dX8_weigh_53 a_518 (vp_in_nI (n := t) (by omega) (by decide)) ?_
    refine m_nm (v' := nI (q t)) (rdI (j := t) ((hF 518 t (by decide) (by decide) (by decide) (by decide)).trans (hq t ht).1) (by omega)) ?_
    refine m_ic (pc := 54) (v := 0) dX8_weigh_54 rfl ?_
    refine m_v4 (pc := 55) dX8_weigh_55 lk_X8_74 ok_X3_burdenOn (rcO o_31 (by decide) rfl) rfl rfl (c_X3_burdenOn (k := 0) sO_33 (by decide) (Wc_ro hW (fRo_W hF)) (by omega) (hq t ht).2 (Nat.zero_le _) (fun I2 f2 => kt_s ?_))
    refine m_nm (v' := nI (v t i)) (congrArg nI (hv t i).symm) ?_
    refine s_istore (pc := 58) (i := 5) dX8_weigh_58 (Nat.le_of_ble_eq_true rfl) ?_
    dsimp only [List.set, List.filter]
    refine s_aload_n (pc := 60) (i := 0) dX8_weigh_60 rfl rfl ?_
    refine m_gr (pc := 61) dX8_weigh_61 ff_X8_15 rfl o_517 r_517_2 ?_
    refine s_iload_n (pc := 64) (i := 2) dX8_weigh_64 rfl rfl ?_
    refine m_bi (pc := 65) (v := 7) dX8_weigh_65 rfl ?_
    refine s_imul (pc := 67) dX8_weigh_67 ?_
    refine m_nm (v' := nI (t * 7)) (pk_mul t 7) ?_
    refine s_iload (pc := 68) (i := 4) dX8_weigh_68 rfl ?_
    refine s_iadd (pc := 70) dX8_weigh_70 ?_
    refine m_nm (v' := nI ((t * 7) + i)) (nI_add (t * 7) i) ?_
    refine s_iload (pc := 71) (i := 5) dX8_weigh_71 rfl ?_
    refine m_is (pc := 73) dX8_weigh_73 a_519 (vp_in_nI (n := (t * 7) + i) (by omega) (by decide)) ?_
    rw [nI_clamp (n := (t * 7) + i) (by omega)]
    refine s_iload (pc := 74) (i := 5) dX8_weigh_74 rfl ?_
    refine s_aload_n (pc := 76) (i := 0) dX8_weigh_76 rfl rfl ?_
    refine m_gr (pc := 77) dX8_weigh_77 ff_X8_21 rfl o_517 r_517_4 ?_
    refine s_iload (pc := 80) (i := 4) dX8_weigh_80 rfl ?_
    refine m_ia (pc := 82) dX8_weigh_82 a_521 (vp_in_nI (n := i) (by omega) (by decide)) ?_
    refine m_nm (v' := iR (r0 i)) (rdI (j := i) ((up_a (by decide)).trans ((f2 521 i (by decide) (by decide)).trans ((hF 521 i (by decide) (by decide) (by decide) (by decide)).trans (hR i (by omega))))) (by omega)) ?_
    refine s_icgt (pc := 83) (tgt := 100) dX8_weigh_83 rfl (fun h83 => ?_) (fun h83 => ?_)
    · have hr : ¬ (v t i : Int) ≤ r0 i := by have := (iR_lt (x := r0 i) (a := v t i) (by omega) (by omega) (by omega)).mp h83; omega
      refine m_inc (pc := 100) (v := 1) dX8_weigh_100 rfl rfl ?_
      dsimp only [List.set, List.filter]
      rw [nI_1]
      refine s_goto (pc := 103) (tgt := 26) dX8_weigh_103 rfl ?_
      have E : lsV (lsf v r0 t) (i + 1) = lsV (lsf v r0 t) i := lsV_n (by rw [show (lsf v r0 t) i = 99999 from if_neg hr]; exact hmn)
      have h := ih (i + 1) (up I2 519 (t * 7 + i) (nI (v t i))) (.int (nI (v t i))) (by omega) (fW_u (fW_l hF f2) (by decide)) ⟨fun b hb => by
          by_cases e : b = i
          · subst e; exact up_s
          · rw [up_k (by omega)]; exact (f2 519 _ (by decide) (by decide)).trans (hM.1 b (by omega)), fun j b h1 h2 => by rw [up_k (by omega)]; exact (f2 519 _ (by decide) (by decide)).trans (hM.2.1 j b h1 h2), fun j => (up_a (by decide)).trans ((f2 520 j (by decide) (by decide)).trans (hM.2.2 j))⟩
      rw [E] at h; exact h
    · have hr : (v t i : Int) ≤ r0 i := by
        by_cases z : (v t i : Int) ≤ r0 i
        · exact z
        · exact absurd ((iR_lt (x := r0 i) (a := v t i) (by omega) (by omega) (by omega)).mpr (by omega)) h83
      by_cases hl : mnF (lsf v r0 t) i < 99999
      · skip
        refine s_iload_n (pc := 86) (i := 3) dX8_weigh_86 rfl rfl ?_
        refine m_nm (v' := nI (mnF (lsf v r0 t) i)) (if_pos hl) ?_
        refine m_ic (pc := 87) (v := -1) dX8_weigh_87 rfl ?_
        refine s_iceq (pc := 88) (tgt := 97) dX8_weigh_88 rfl (fun h88 => absurd h88 (nI_m1 (by omega))) (fun h88 => ?_)
        refine s_iload (pc := 91) (i := 5) dX8_weigh_91 rfl ?_
        refine s_iload_n (pc := 93) (i := 3) dX8_weigh_93 rfl rfl ?_
        refine m_nm (v' := nI (mnF (lsf v r0 t) i)) (if_pos hl) ?_
        refine s_icge (pc := 94) (tgt := 100) dX8_weigh_94 rfl (fun h94 => ?_) (fun h94 => ?_)
        · have h94 : (mnF (lsf v r0 t) i) ≤ (v t i) := (nI_leI (a := mnF (lsf v r0 t) i) (b := v t i) (by omega) (by omega)).mp h94
          refine m_inc (pc := 100) (v := 1) dX8_weigh_100 rfl rfl ?_
          dsimp only [List.set, List.filter]
          rw [nI_1]
          refine s_goto (pc := 103) (tgt := 26) dX8_weigh_103 rfl ?_
          have E : lsV (lsf v r0 t) (i + 1) = lsV (lsf v r0 t) i := lsV_n (by rw [show (lsf v r0 t) i = v t i from if_pos hr]; exact h94)
          have h := ih (i + 1) (up I2 519 (t * 7 + i) (nI (v t i))) (.int (nI (v t i))) (by omega) (fW_u (fW_l hF f2) (by decide)) ⟨fun b hb => by
              by_cases e : b = i
              · subst e; exact up_s
              · rw [up_k (by omega)]; exact (f2 519 _ (by decide) (by decide)).trans (hM.1 b (by omega)), fun j b h1 h2 => by rw [up_k (by omega)]; exact (f2 519 _ (by decide) (by decide)).trans (hM.2.1 j b h1 h2), fun j => (up_a (by decide)).trans ((f2 520 j (by decide) (by decide)).trans (hM.2.2 j))⟩
          rw [E] at h; exact h
        · have h94 : ¬ (mnF (lsf v r0 t) i) ≤ (v t i) := fun z => h94 ((nI_leI (a := mnF (lsf v r0 t) i) (b := v t i) (by omega) (by omega)).mpr z)
          refine s_iload (pc := 97) (i := 5) dX8_weigh_97 rfl ?_
          refine s_istore_n (pc := 99) (i := 3) dX8_weigh_99 rfl (Nat.le_of_ble_eq_true rfl) ?_
          dsimp only [List.set, List.filter]
          refine m_inc (pc := 100) (v := 1) dX8_weigh_100 rfl rfl ?_
          dsimp only [List.set, List.filter]
          rw [nI_1]
          refine s_goto (pc := 103) (tgt := 26) dX8_weigh_103 rfl ?_
          have E : lsV (lsf v r0 t) (i + 1) = nI (v t i) := by
            have h := lsV_y (f := (lsf v r0 t)) (i := i) (by rw [lsf, if_pos hr]; omega) (by rw [lsf, if_pos hr]; omega)
            rw [lsf, if_pos hr] at h; exact h
          have h := ih (i + 1) (up I2 519 (t * 7 + i) (nI (v t i))) (.int (nI (v t i))) (by omega) (fW_u (fW_l hF f2) (by decide)) ⟨fun b hb => by
              by_cases e : b = i
              · subst e; exact up_s
              · rw [up_k (by omega)]; exact (f2 519 _ (by decide) (by decide)).trans (hM.1 b (by omega)), fun j b h1 h2 => by rw [up_k (by omega)]; exact (f2 519 _ (by decide) (by decide)).trans (hM.2.1 j b h1 h2), fun j => (up_a (by decide)).trans ((f2 520 j (by decide) (by decide)).trans (hM.2.2 j))⟩
          rw [E] at h; exact h
      · skip
        refine s_iload_n (pc := 86) (i := 3) dX8_weigh_86 rfl rfl ?_
        refine m_nm (v' := -1) (if_neg hl) ?_
        refine m_ic (pc := 87) (v := -1) dX8_weigh_87 rfl ?_
        refine s_iceq (pc := 88) (tgt := 97) dX8_weigh_88 rfl (fun h88 => ?_) (fun h88 => absurd h88 (by decide))
        refine s_iload (pc := 97) (i := 5) dX8_weigh_97 rfl ?_
        refine s_istore_n (pc := 99) (i := 3) dX8_weigh_99 rfl (Nat.le_of_ble_eq_true rfl) ?_
        dsimp only [List.set, List.filter]
        refine m_inc (pc := 100) (v := 1) dX8_weigh_100 rfl rfl ?_
        dsimp only [List.set, List.filter]
        rw [nI_1]
        refine s_goto (pc := 103) (tgt := 26) dX8_weigh_103 rfl ?_
        have E : lsV (lsf v r0 t) (i + 1) = nI (v t i) := by
          have h := lsV_y (f := (lsf v r0 t)) (i := i) (by rw [lsf, if_pos hr]; omega) (by rw [lsf, if_pos hr]; omega)
          rw [lsf, if_pos hr] at h; exact h
        have h := ih (i + 1) (up I2 519 (t * 7 + i) (nI (v t i))) (.int (nI (v t i))) (by omega) (fW_u (fW_l hF f2) (by decide)) ⟨fun b hb => by
            by_cases e : b = i
            · subst e; exact up_s
            · rw [up_k (by omega)]; exact (f2 519 _ (by decide) (by decide)).trans (hM.1 b (by omega)), fun j b h1 h2 => by rw [up_k (by omega)]; exact (f2 519 _ (by decide) (by decide)).trans (hM.2.1 j b h1 h2), fun j => (up_a (by decide)).trans ((f2 520 j (by decide) (by decide)).trans (hM.2.2 j))⟩
        rw [E] at h; exact h
theorem rwo_lp (hW : Wc I 33 D cs S) (hM6 : M ≤ 6) (hM7 : I 517 7 = nI M) (hq : ∀ i, i < M → I 518 i = nI (q i) ∧ q i < cc D) (hv : ∀ i b, v i b = bur D cs S b (q i) 0) (hR : ∀ b, b < cb D → I 521 b = iR (r0 b)) (hr1 : ∀ b, -1000 ≤ r0 b ∧ r0 b ≤ 1000) (h1 : ∀ I', fW I I' → ((∀ i b, 0 ≤ i → i < M → b < cb D → I' 519 (i * 7 + b) = nI (v i b)) ∧ ∀ i k, 0 ≤ i → i + k = M → I' 520 i = nI (lfF (cb D) v r0 k i)) → Q (.inl (some (.int 1))) (Z I' J n w)) (h0 : ∀ I', fW I I' → roL (cb D) v M 0 r0 = 99999 → Q (.inl (some (.int 0))) (Z I' J n w)) : ∀ t I1 v3 v4 v5, t ≤ M → fW I I1 → ((∀ i b, t ≤ i → i < M → b < cb D → I1 519 (i * 7 + b) = nI (v i b)) ∧ ∀ i k, t ≤ i → i + k = M → I1 520 i = nI (lfF (cb D) v r0 k i)) → Rn g (d + 4) mX8_weigh 17 [.ref 517, .ref 33, .int (nI t + -1), v3, v4, v5] [] [] (Z I1 J n w) Q := by
  intro t
  induction t with
  | zero =>
    intro I1 v3 v4 v5 ht hF hM
    refine s_iload_n (pc := 17) (i := 2) dX8_weigh_17 rfl rfl ?_
    refine s_iflt (pc := 18) (tgt := 135) dX8_weigh_18 rfl (fun h18 => ?_) (fun h18 => absurd h18 (by decide))
    refine m_ic (pc := 135) (v := 1) dX8_weigh_135 rfl ?_
    refine s_ireturn (pc := 136) dX8_weigh_136 rfl rfl ?_
    exact h1 I1 hF hM
  | succ t ih =>
    intro I1 v3 v4 v5 ht hF hM
    have hb7 := hW.2.1.1
    refine s_iload_n (pc := 17) (i := 2) dX8_weigh_17 rfl rfl ?_
    refine m_nm (v' := nI t) (nI_mi) ?_
    refine s_iflt (pc := 18) (tgt := 135) dX8_weigh_18 rfl (fun h18 => absurd h18 (nI_nlt (a := t) (b := 0) (by omega) (by omega))) (fun h18 => ?_)
    refine m_ic (pc := 21) (v := -1) dX8_weigh_21 rfl ?_
    refine s_istore_n (pc := 22) (i := 3) dX8_weigh_22 rfl (Nat.le_of_ble_eq_true rfl) ?_
    dsimp only [List.set, List.filter]
    skip
    refine m_ic (pc := 23) (v := 0) dX8_weigh_23 rfl ?_
    refine s_istore (pc := 24) (i := 4) dX8_weigh_24 (Nat.le_of_ble_eq_true rfl) ?_
    dsimp only [List.set, List.filter]
    rw [nI_mi]
    refine rwi_lp (Wc_ro hW (fRo_W hF)) hM6 ((hF 517 7 (by decide) (by decide) (by decide) (by decide)).trans hM7) (fun i hi => ⟨(hF 518 i (by decide) (by decide) (by decide) (by decide)).trans (hq i hi).1, (hq i hi).2⟩) hv (fun b hb => (hF 521 b (by decide) (by decide) (by decide) (by decide)).trans (hR b hb)) hr1 (show t < M by omega) (fun I2 v5 f2 h2 => ?_) (cb D) 0 I1 _ (by omega) fW_r ⟨fun b hb => absurd hb (Nat.not_lt_zero _), fun _ _ _ _ => rfl, fun _ => rfl⟩
    have hmn := mnF_le (f := (lsf v r0 t)) (cb D)
    by_cases hl : mnF (lsf v r0 t) (cb D) < 99999
    · skip
      refine s_iload_n (pc := 106) (i := 3) dX8_weigh_106 rfl rfl ?_
      refine m_nm (v' := nI (mnF (lsf v r0 t) (cb D))) (if_pos hl) ?_
      refine m_ic (pc := 107) (v := -1) dX8_weigh_107 rfl ?_
      refine s_icne (pc := 108) (tgt := 113) dX8_weigh_108 rfl (fun h108 => ?_) (fun h108 => absurd h108 (nI_m1 (by omega)))
      refine s_aload_n (pc := 113) (i := 0) dX8_weigh_113 rfl rfl ?_
      refine m_gr (pc := 114) dX8_weigh_114 ff_X8_18 rfl o_517 r_517_3 ?_
      refine s_iload_n (pc := 117) (i := 2) dX8_weigh_117 rfl rfl ?_
      refine s_aload_n (pc := 118) (i := 0) dX8_weigh_118 rfl rfl ?_
      refine m_gr (pc := 119) dX8_weigh_119 ff_X8_18 rfl o_517 r_517_3 ?_
      refine s_iload_n (pc := 122) (i := 2) dX8_weigh_122 rfl rfl ?_
      refine m_ic (pc := 123) (v := 1) dX8_weigh_123 rfl ?_
      refine s_iadd (pc := 124) dX8_weigh_124 ?_
      refine m_nm (v' := nI (t + 1)) (nI_add t 1) ?_
      refine m_ia (pc := 125) dX8_weigh_125 a_520 (vp_in_nI (n := t + 1) (by omega) (by decide)) ?_
      refine m_nm (v' := nI (lfF (cb D) v r0 (M - (t + 1)) (t + 1))) (rdI (j := t + 1) ((h2.2.2 _).trans (hM.2 (t + 1) (M - (t + 1)) (Nat.le_refl _) (by omega))) (by omega)) ?_
      refine s_iload_n (pc := 126) (i := 3) dX8_weigh_126 rfl rfl ?_
      refine m_nm (v' := nI (mnF (lsf v r0 t) (cb D))) (if_pos hl) ?_
      refine s_iadd (pc := 127) dX8_weigh_127 ?_
      refine m_nm (v' := nI ((lfF (cb D) v r0 (M - (t + 1)) (t + 1)) + (mnF (lsf v r0 t) (cb D)))) (nI_add (lfF (cb D) v r0 (M - (t + 1)) (t + 1)) (mnF (lsf v r0 t) (cb D))) ?_
      refine m_is (pc := 128) dX8_weigh_128 a_520 (vp_in_nI (n := t) (by omega) (by decide)) ?_
      rw [nI_clamp (n := t) (by omega)]
      refine m_inc (pc := 129) (v := (-1)) dX8_weigh_129 rfl rfl ?_
      dsimp only [List.set, List.filter]
      refine s_goto (pc := 132) (tgt := 17) dX8_weigh_132 rfl ?_
      refine ih _ _ _ _ (by omega) (fW_u (fW_t hF f2) (by decide)) ⟨fun i b h3 h4 h5 => ?_, fun i k h3 h4 => ?_⟩
      · rw [up_a (by decide)]
        by_cases e : i = t
        · subst e; exact h2.1 b h5
        · rw [h2.2.1 i b (by omega) (by omega)]; exact hM.1 i b (by omega) h4 h5
      · by_cases e : i = t
        · subst e
          rw [up_s, show k = (M - (i + 1)) + 1 by omega, lfF]; rfl
        · rw [up_k e, h2.2.2]; exact hM.2 i k (by omega) h4
    · skip
      refine s_iload_n (pc := 106) (i := 3) dX8_weigh_106 rfl rfl ?_
      refine m_nm (v' := -1) (if_neg hl) ?_
      refine m_ic (pc := 107) (v := -1) dX8_weigh_107 rfl ?_
      refine s_icne (pc := 108) (tgt := 113) dX8_weigh_108 rfl (fun h108 => absurd h108 (by decide)) (fun h108 => ?_)
      refine m_ic (pc := 111) (v := 0) dX8_weigh_111 rfl ?_
      refine s_ireturn (pc := 112) dX8_weigh_112 rfl rfl ?_
      refine h0 I2 (fW_t hF f2) (roL_no (Nat.zero_add M) (Nat.zero_le t) (by omega) (fun b hb z => ?_))
      have e1 := mnF_ge (f := (lsf v r0 t)) (i := b) (cb D) hb
      rw [lsf, if_pos z] at e1
      have e2 : v t b ≤ 135 := by rw [hv]; exact bur_le hW.2.1 (hq t (by omega)).2
      omega
theorem nI_s1 {a : Nat} : nI a - 1 = nI a + -1 := Int32.sub_eq_add_neg _ _
theorem c_X8_weigh (hW : Wc I 33 D cs S) (hM6 : M ≤ 6) (hM7 : I 517 7 = nI M) (hq : ∀ i, i < M → I 518 i = nI (q i) ∧ q i < cc D) (hv : ∀ i b, v i b = bur D cs S b (q i) 0) (hR : ∀ b, b < cb D → I 521 b = iR (r0 b)) (hr1 : ∀ b, -1000 ≤ r0 b ∧ r0 b ≤ 1000) (h1 : ∀ I', fW I I' → ((∀ i b, 0 ≤ i → i < M → b < cb D → I' 519 (i * 7 + b) = nI (v i b)) ∧ ∀ i k, 0 ≤ i → i + k = M → I' 520 i = nI (lfF (cb D) v r0 k i)) → Q (.inl (some (.int 1))) (Z I' J n w)) (h0 : ∀ I', fW I I' → roL (cb D) v M 0 r0 = 99999 → Q (.inl (some (.int 0))) (Z I' J n w)) : Cn g (d + 4) mX8_weigh [.ref 517, .ref 33] (Z I J n w) Q := by
  have hb7 := hW.2.1.1
  show Rn g (d + 4) mX8_weigh 0 [.ref 517, .ref 33, .retAddr 0, .retAddr 0, .retAddr 0, .retAddr 0] [] [] (Z I J n w) Q
  refine s_aload_n (pc := 0) (i := 0) dX8_weigh_0 rfl rfl ?_
  refine m_gr (pc := 1) dX8_weigh_1 ff_X8_18 rfl o_517 r_517_3 ?_
  refine s_aload_n (pc := 4) (i := 0) dX8_weigh_4 rfl rfl ?_
  refine m_gi (pc := 5) dX8_weigh_5 ff_X8_34 rfl o_517 ?_
  refine m_nm (v' := nI M) (hM7) ?_
  refine m_ic (pc := 8) (v := 0) dX8_weigh_8 rfl ?_
  refine m_is (pc := 9) dX8_weigh_9 a_520 (vp_in_nI (n := M) (by omega) (by decide)) ?_
  rw [nI_clamp (n := M) (by omega)]
  refine s_aload_n (pc := 10) (i := 0) dX8_weigh_10 rfl rfl ?_
  refine m_gi (pc := 11) dX8_weigh_11 ff_X8_34 rfl o_517 ?_
  refine m_nm (v' := nI M) ((up_a (by decide)).trans hM7) ?_
  refine m_ic (pc := 14) (v := 1) dX8_weigh_14 rfl ?_
  refine s_isub (pc := 15) dX8_weigh_15 ?_
  refine m_nm (v' := nI M + -1) (nI_s1) ?_
  refine s_istore_n (pc := 16) (i := 2) dX8_weigh_16 rfl (Nat.le_of_ble_eq_true rfl) ?_
  dsimp only [List.set, List.filter]
  refine rwo_lp hW hM6 hM7 hq hv hR hr1 h1 h0 M _ _ _ _ (Nat.le_refl _) (fW_u fW_r (by decide)) ⟨fun i b h3 h4 => absurd h3 (by omega), fun i k h3 h4 => ?_⟩
  have e : i = M := by omega
  have ek : k = 0 := by omega
  subst e; subst ek
  exact up_s
end S
