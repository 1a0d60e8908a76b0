section S
variable {g : aG} {d : Nat} {I : Nat → Nat → Int32} {J : Nat → Nat → Int64} {n w : Nat} {Q : aO → aS → Prop}
variable {σ : aS} {S : sD} {D : cD} {cs : List Nat} {b c k v : Nat} {B : Nat → Option Nat}
theorem fgs_t {I' I'' : Nat → Nat → Int32} (h : fgs I I') (h2 : fgs I' I'') : fgs I I'' := fun x j a b c d => (h2 x j a b c d).trans (h x j a b c d)
def vFit (D : cD) (cs : List Nat) (S : sD) (B : Nat → Option Nat) (q : Nat) : Int32 := if q = 0 then nI (fpA (fiP D cs S B) (cc D) (cb D)).1 else (fpA (fiP D cs S B) (cc D) (cb D)).2
theorem fo_lp (hW : Wc I 33 D cs S) (hB : Bc I 22 B k) (hbk : bOk B) (hq : ∀ I', fgs I I' → I' 524 3 = nI (fpA (fiP D cs S B) (cc D) (cb D)).1 ∧ I' 524 4 = (fpA (fiP D cs S B) (cc D) (cb D)).2 → Q (.inl none) (Z I' J n w)) : ∀ f i I1 (v3 : Value), i + f = cb D → fgs I I1 → (I1 524 3 = nI (fpA (fiP D cs S B) (cc D) i).1 ∧ I1 524 4 = (fpA (fiP D cs S B) (cc D) i).2) → Rn g (d + 5) mX2_findFits 12 [.ref 524, .ref 33, .int (nI i), v3] [] [] (Z I1 J n w) Q := by
  intro f
  induction f with
  | zero =>
    intro i I1 v3 hi hF hM
    have e : cb D = i := by omega
    subst e
    have hb7 := hW.2.1.1
    have hc12 := hW.2.1.2.1
    refine s_iload_n (pc := 12) (i := 2) dX2_findFits_12 rfl rfl ?_
    refine s_aload_n (pc := 13) (i := 0) dX2_findFits_13 rfl rfl ?_
    refine m_gr (pc := 14) dX2_findFits_14 ff_X2_15 rfl o_524 r_524_0 ?_
    refine m_gr (pc := 17) dX2_findFits_17 ff_X2_30 rfl o_31 r_31_0 ?_
    refine m_gi (pc := 20) dX2_findFits_20 ff_X2_36 rfl o_4 ?_
    refine m_nm (v' := nI (cb D)) ((Wc_g hW hF).1.1) ?_
    refine s_icge (pc := 23) (tgt := 104) dX2_findFits_23 rfl (fun h23 => ?_) (fun h23 => absurd (nI_le (a := cb D) (b := (cb D)) (by omega) (by omega)) h23)
    refine s_return (pc := 104) dX2_findFits_104 rfl ?_
    exact hq I1 hF hM
  | succ f ih =>
    intro i I1 v3 hi hF hM
    have hb7 := hW.2.1.1
    have hc12 := hW.2.1.2.1
    refine s_iload_n (pc := 12) (i := 2) dX2_findFits_12 rfl rfl ?_
    refine s_aload_n (pc := 13) (i := 0) dX2_findFits_13 rfl rfl ?_
    refine m_gr (pc := 14) dX2_findFits_14 ff_X2_15 rfl o_524 r_524_0 ?_
    refine m_gr (pc := 17) dX2_findFits_17 ff_X2_30 rfl o_31 r_31_0 ?_
    refine m_gi (pc := 20) dX2_findFits_20 ff_X2_36 rfl o_4 ?_
    refine m_nm (v' := nI (cb D)) ((Wc_g hW hF).1.1) ?_
    refine s_icge (pc := 23) (tgt := 104) dX2_findFits_23 rfl (fun h23 => absurd h23 (nI_ge (a := i) (b := cb D) (by omega) (by omega))) (fun h23 => ?_)
    refine m_ic (pc := 26) (v := 0) dX2_findFits_26 rfl ?_
    refine s_istore_n (pc := 27) (i := 3) dX2_findFits_27 rfl (Nat.le_of_ble_eq_true rfl) ?_
    dsimp only [List.set, List.filter]
    refine ff_in (Wc_g hW hF) (Bc_g hB hF) hbk (by omega) (fpA_I hc12 i (by omega)) (fun I2 f2 h2 => ?_) (cc D) 0 I1 (by omega) fgs_r hM
    refine m_inc (pc := 98) (v := 1) dX2_findFits_98 rfl rfl ?_
    dsimp only [List.set, List.filter]
    rw [nI_1]
    refine s_goto (pc := 101) (tgt := 12) dX2_findFits_101 rfl ?_
    exact ih (i + 1) I2 _ (by omega) (fgs_t hF f2) h2
theorem c_X2_findFits (hW : Wc I 33 D cs S) (hB : Bc I 22 B k) (hbk : bOk B) (hq : ∀ I', fgs I I' → I' 524 3 = nI (fpA (fiP D cs S B) (cc D) (cb D)).1 ∧ I' 524 4 = (fpA (fiP D cs S B) (cc D) (cb D)).2 → Q (.inl none) (Z I' J n w)) : Cn g (d + 5) mX2_findFits [.ref 524, .ref 33] (Z I J n w) Q := by
  show Rn g (d + 5) mX2_findFits 0 [.ref 524, .ref 33, .retAddr 0, .retAddr 0] [] [] (Z I J n w) Q
  refine s_aload_n (pc := 0) (i := 0) dX2_findFits_0 rfl rfl ?_
  refine m_ic (pc := 1) (v := 0) dX2_findFits_1 rfl ?_
  refine m_pi (pc := 2) dX2_findFits_2 ff_X2_23 rfl rfl o_524 ?_
  refine s_aload_n (pc := 5) (i := 0) dX2_findFits_5 rfl rfl ?_
  refine m_ic (pc := 6) (v := -1) dX2_findFits_6 rfl ?_
  refine m_pi (pc := 7) dX2_findFits_7 ff_X2_27 rfl rfl o_524 ?_
  refine m_ic (pc := 10) (v := 0) dX2_findFits_10 rfl ?_
  refine s_istore_n (pc := 11) (i := 2) dX2_findFits_11 rfl (Nat.le_of_ble_eq_true rfl) ?_
  dsimp only [List.set, List.filter]
  exact fo_lp hW hB hbk hq (cb D) 0 _ _ (by omega) (fgs_u (fgs_u fgs_r)) ⟨(up_k (by decide)).trans up_s, up_s⟩
theorem c_X11_fits (hW : Wc I 33 D cs S) (hn : n + 1 ≤ 600000 ∧ w + 6 ≤ 7000000) (hB : Bc I 22 B k) (hbk : bOk B) {x : Int32} (r0 : ¬ iv 0 (2) x → Q (.inr 1) (Z (up I 1 18 (I 1 18 + 1)) J (n + 1) (w + 6))) (hg : ∀ q, x = nI q → q < 2 → ∀ I', kc I I' → Q (.inl (some (.int (vFit D cs S B q)))) (Z I' J n w)) : Cn g (d + 8) mX11_fits [.ref 1, .int x] (Z I J n w) Q := by
  have hb7 := hW.2.1.1
  have hc12 := hW.2.1.2.1
  show Rn g (d + 8) mX11_fits 0 [.ref 1, .int x] [] [] (Z I J n w) Q
  refine s_aload_n (pc := 0) (i := 0) dX11_fits_0 rfl rfl ?_
  refine s_iload_n (pc := 1) (i := 1) dX11_fits_1 rfl rfl ?_
  refine m_ic (pc := 2) (v := 2) dX11_fits_2 rfl ?_
  refine m_v2 (pc := 3) dX11_fits_3 lk_X11_181 ok_X11_needWhat (rcO o_1 (by decide) rfl) rfl rfl (c_nw (m := 2) rfl (by decide) hn (fun q eq hq => kt_v ?_) (fun z => kt_x ?_))
  · subst eq
    refine s_aload_n (pc := 6) (i := 0) dX11_fits_6 rfl rfl ?_
    refine m_gr (pc := 7) dX11_fits_7 ff_X11_92 rfl o_1 r_1_13 ?_
    refine s_aload_n (pc := 10) (i := 0) dX11_fits_10 rfl rfl ?_
    refine m_gr (pc := 11) dX11_fits_11 ff_X11_73 rfl o_1 r_1_10 ?_
    refine m_v1 (pc := 14) dX11_fits_14 lk_X11_324 ok_X2_findFits (rcO o_524 (by decide) rfl) rfl rfl (c_X2_findFits hW hB hbk (fun I2 f2 h2 => kt_v ?_))
    refine s_iload_n (pc := 17) (i := 1) dX11_fits_17 rfl rfl ?_
    refine s_ifne (pc := 18) (tgt := 31) dX11_fits_18 rfl (fun h18 => ?_) (fun h18 => ?_)
    · have h18 : ¬ q = 0 := fun z => h18 ((nI_eq (a := q) (b := 0) (by omega) (by omega)).mpr z)
      refine s_aload_n (pc := 31) (i := 0) dX11_fits_31 rfl rfl ?_
      refine m_gr (pc := 32) dX11_fits_32 ff_X11_92 rfl o_1 r_1_13 ?_
      refine m_gi (pc := 35) dX11_fits_35 ff_X11_331 rfl o_524 ?_
      refine s_ireturn (pc := 38) dX11_fits_38 rfl rfl ?_
      have E : vFit D cs S B q = (fpA (fiP D cs S B) (cc D) (cb D)).2 := if_neg h18
      have h := hg q rfl hq I2 (fgs_kc f2)
      rw [E, ← h2.2] at h; exact h
    · have h18 : q = 0 := (nI_eq (a := q) (b := 0) (by omega) (by omega)).mp h18
      refine s_aload_n (pc := 21) (i := 0) dX11_fits_21 rfl rfl ?_
      refine m_gr (pc := 22) dX11_fits_22 ff_X11_92 rfl o_1 r_1_13 ?_
      refine m_gi (pc := 25) dX11_fits_25 ff_X11_328 rfl o_524 ?_
      refine s_goto (pc := 28) (tgt := 38) dX11_fits_28 rfl ?_
      refine s_ireturn (pc := 38) dX11_fits_38 rfl rfl ?_
      have E : vFit D cs S B q = nI (fpA (fiP D cs S B) (cc D) (cb D)).1 := if_pos h18
      have h := hg q rfl hq I2 (fgs_kc f2)
      rw [E, ← h2.1] at h; exact h
  · exact r0  z
theorem mfi_in {q : Nat} {s : Nat × Int32} (hW : Wm I D cs S) (hB : Bm I 553 B) (hbk : bOk B) (hb : b < cb D) (hs : fpI s (12 * b)) (hc : ∀ I', fm I I' → Rn g (d + 8) mX12_fits 95 [.ref 534, .int (nI q), .int (nI (fpR (fiP D cs S B) b (cc D) s).1), .int (fpR (fiP D cs S B) b (cc D) s).2, .int (nI b), .int (nI (cc D))] [] [] (Z I' J n w) Q) : ∀ f i I1, i + f = cc D → fm I I1 → Rn g (d + 8) mX12_fits 45 [.ref 534, .int (nI q), .int (nI (fpR (fiP D cs S B) b i s).1), .int (fpR (fiP D cs S B) b i s).2, .int (nI b), .int (nI i)] [] [] (Z I1 J n w) Q := by
  intro f
  induction f with
  | zero =>
    intro i I1 hi hF
    have e : cc D = i := by omega
    subst e
    have hb7 := hW.2.1.1
    have hc12 := hW.2.1.2.1
    refine s_iload (pc := 45) (i := 5) dX12_fits_45 rfl ?_
    refine s_aload_n (pc := 47) (i := 0) dX12_fits_47 rfl rfl ?_
    refine m_gi (pc := 48) dX12_fits_48 ff_X12_157 rfl o_534 ?_
    refine m_nm (v' := nI (cc D)) ((Wm_fm hW hF).1.2.1) ?_
    refine s_icge (pc := 51) (tgt := 95) dX12_fits_51 rfl (fun h51 => ?_) (fun h51 => absurd (nI_le (a := cc D) (b := (cc D)) (by omega) (by omega)) h51)
    exact hc I1 hF
  | succ f ih =>
    intro i I1 hi hF
    have hb7 := hW.2.1.1
    have hc12 := hW.2.1.2.1
    have hR := fpR_I (P := (fiP D cs S B)) hs (show b < 7 by omega) i (by omega)
    refine s_iload (pc := 45) (i := 5) dX12_fits_45 rfl ?_
    refine s_aload_n (pc := 47) (i := 0) dX12_fits_47 rfl rfl ?_
    refine m_gi (pc := 48) dX12_fits_48 ff_X12_157 rfl o_534 ?_
    refine m_nm (v' := nI (cc D)) ((Wm_fm hW hF).1.2.1) ?_
    refine s_icge (pc := 51) (tgt := 95) dX12_fits_51 rfl (fun h51 => absurd h51 (nI_ge (a := i) (b := cc D) (by omega) (by omega))) (fun h51 => ?_)
    refine s_aload_n (pc := 54) (i := 0) dX12_fits_54 rfl rfl ?_
    refine s_iload (pc := 55) (i := 4) dX12_fits_55 rfl ?_
    refine s_iload (pc := 57) (i := 5) dX12_fits_57 rfl ?_
    refine m_v2 (pc := 59) dX12_fits_59 lk_X12_419 ok_X12_isFit (rcO o_534 (by decide) rfl) rfl rfl (c_X12_isFit (Wm_fm hW hF) (fun j hj => (hF 553 j (by decide) (by decide)).trans (hB j hj)) hbk hb (by omega) (fun I2 f2 => kt_s ?_))
    refine s_ifne (pc := 62) (tgt := 68) dX12_fits_62 rfl (fun h62 => ?_) (fun h62 => ?_)
    · have e1 : fiP D cs S B b i = true := flb_1 h62
      refine m_inc (pc := 68) (v := 1) dX12_fits_68 rfl rfl ?_
      dsimp only [List.set, List.filter]
      rw [nI_1]
      refine s_iload_n (pc := 71) (i := 3) dX12_fits_71 rfl rfl ?_
      refine m_ic (pc := 72) (v := -1) dX12_fits_72 rfl ?_
      refine s_icne (pc := 73) (tgt := 87) dX12_fits_73 rfl (fun h73 => ?_) (fun h73 => ?_)
      · have y : ¬ (fpR (fiP D cs S B) b i s).1 = 0 := fun z => h73 (hR.2.mpr z)
        refine s_iload_n (pc := 87) (i := 3) dX12_fits_87 rfl rfl ?_
        refine s_istore_n (pc := 88) (i := 3) dX12_fits_88 rfl (Nat.le_of_ble_eq_true rfl) ?_
        dsimp only [List.set, List.filter]
        refine m_inc (pc := 89) (v := 1) dX12_fits_89 rfl rfl ?_
        dsimp only [List.set, List.filter]
        rw [nI_1]
        refine s_goto (pc := 92) (tgt := 45) dX12_fits_92 rfl ?_
        have E : fpR (fiP D cs S B) b (i + 1) s = ((fpR (fiP D cs S B) b i s).1 + 1, (fpR (fiP D cs S B) b i s).2) := (fpS_y e1).trans (by rw [if_neg y])
        have h := ih (i + 1) I2 (by omega) (fm_t hF f2)
        rw [E] at h; exact h
      · have y : (fpR (fiP D cs S B) b i s).1 = 0 := hR.2.mp h73
        refine m_bi (pc := 76) (v := 100) dX12_fits_76 rfl ?_
        refine s_iload (pc := 78) (i := 4) dX12_fits_78 rfl ?_
        refine s_imul (pc := 80) dX12_fits_80 ?_
        refine m_nm (v' := nI (100 * b)) (pk_mul 100 b) ?_
        refine s_iload (pc := 81) (i := 5) dX12_fits_81 rfl ?_
        refine s_iadd (pc := 83) dX12_fits_83 ?_
        refine m_nm (v' := nI ((100 * b) + i)) (nI_add (100 * b) i) ?_
        refine s_goto (pc := 84) (tgt := 88) dX12_fits_84 rfl ?_
        refine s_istore_n (pc := 88) (i := 3) dX12_fits_88 rfl (Nat.le_of_ble_eq_true rfl) ?_
        dsimp only [List.set, List.filter]
        refine m_inc (pc := 89) (v := 1) dX12_fits_89 rfl rfl ?_
        dsimp only [List.set, List.filter]
        rw [nI_1]
        refine s_goto (pc := 92) (tgt := 45) dX12_fits_92 rfl ?_
        have E : fpR (fiP D cs S B) b (i + 1) s = ((fpR (fiP D cs S B) b i s).1 + 1, nI (100 * b + i)) := (fpS_y e1).trans (by rw [if_pos y])
        have h := ih (i + 1) I2 (by omega) (fm_t hF f2)
        rw [E] at h; exact h
    · have e0 : fiP D cs S B b i = false := flb_0 h62
      refine s_goto (pc := 65) (tgt := 89) dX12_fits_65 rfl ?_
      refine m_inc (pc := 89) (v := 1) dX12_fits_89 rfl rfl ?_
      dsimp only [List.set, List.filter]
      rw [nI_1]
      refine s_goto (pc := 92) (tgt := 45) dX12_fits_92 rfl ?_
      have E : fpR (fiP D cs S B) b (i + 1) s = (fpR (fiP D cs S B) b i s) := fpS_n e0
      have h := ih (i + 1) I2 (by omega) (fm_t hF f2)
      rw [E] at h; exact h
theorem mfi_lp {q : Nat} (hq2 : q < 2) (hW : Wm I D cs S) (hB : Bm I 553 B) (hbk : bOk B) (hq : ∀ I', fm I I' → Q (.inl (some (.int (vFit D cs S B q)))) (Z I' J n w)) : ∀ f i I1 (v5 : Value), i + f = cb D → fm I I1 → Rn g (d + 8) mX12_fits 33 [.ref 534, .int (nI q), .int (nI (fpA (fiP D cs S B) (cc D) i).1), .int (fpA (fiP D cs S B) (cc D) i).2, .int (nI i), v5] [] [] (Z I1 J n w) Q := by
  intro f
  induction f with
  | zero =>
    intro i I1 v5 hi hF
    have e : cb D = i := by omega
    subst e
    have hb7 := hW.2.1.1
    have hc12 := hW.2.1.2.1
    refine s_iload (pc := 33) (i := 4) dX12_fits_33 rfl ?_
    refine s_aload_n (pc := 35) (i := 0) dX12_fits_35 rfl rfl ?_
    refine m_gi (pc := 36) dX12_fits_36 ff_X12_154 rfl o_534 ?_
    refine m_nm (v' := nI (cb D)) ((Wm_fm hW hF).1.1) ?_
    refine s_icge (pc := 39) (tgt := 101) dX12_fits_39 rfl (fun h39 => ?_) (fun h39 => absurd (nI_le (a := cb D) (b := (cb D)) (by omega) (by omega)) h39)
    refine s_iload_n (pc := 101) (i := 1) dX12_fits_101 rfl rfl ?_
    refine s_ifne (pc := 102) (tgt := 109) dX12_fits_102 rfl (fun h102 => ?_) (fun h102 => ?_)
    · have h102 : ¬ q = 0 := fun z => h102 ((nI_eq (a := q) (b := 0) (by omega) (by omega)).mpr z)
      refine s_iload_n (pc := 109) (i := 3) dX12_fits_109 rfl rfl ?_
      refine s_ireturn (pc := 110) dX12_fits_110 rfl rfl ?_
      have E : vFit D cs S B q = (fpA (fiP D cs S B) (cc D) (cb D)).2 := if_neg h102
      have h := hq I1 hF
      rw [E] at h; exact h
    · have h102 : q = 0 := (nI_eq (a := q) (b := 0) (by omega) (by omega)).mp h102
      refine s_iload_n (pc := 105) (i := 2) dX12_fits_105 rfl rfl ?_
      refine s_goto (pc := 106) (tgt := 110) dX12_fits_106 rfl ?_
      refine s_ireturn (pc := 110) dX12_fits_110 rfl rfl ?_
      have E : vFit D cs S B q = nI (fpA (fiP D cs S B) (cc D) (cb D)).1 := if_pos h102
      have h := hq I1 hF
      rw [E] at h; exact h
  | succ f ih =>
    intro i I1 v5 hi hF
    have hb7 := hW.2.1.1
    have hc12 := hW.2.1.2.1
    refine s_iload (pc := 33) (i := 4) dX12_fits_33 rfl ?_
    refine s_aload_n (pc := 35) (i := 0) dX12_fits_35 rfl rfl ?_
    refine m_gi (pc := 36) dX12_fits_36 ff_X12_154 rfl o_534 ?_
    refine m_nm (v' := nI (cb D)) ((Wm_fm hW hF).1.1) ?_
    refine s_icge (pc := 39) (tgt := 101) dX12_fits_39 rfl (fun h39 => absurd h39 (nI_ge (a := i) (b := cb D) (by omega) (by omega))) (fun h39 => ?_)
    refine m_ic (pc := 42) (v := 0) dX12_fits_42 rfl ?_
    refine s_istore (pc := 43) (i := 5) dX12_fits_43 (Nat.le_of_ble_eq_true rfl) ?_
    dsimp only [List.set, List.filter]
    refine mfi_in (Wm_fm hW hF) (fun j hj => (hF 553 j (by decide) (by decide)).trans (hB j hj)) hbk (by omega) (fpA_I hc12 i (by omega)) (fun I2 f2 => ?_) (cc D) 0 I1 (by omega) fm_r
    refine m_inc (pc := 95) (v := 1) dX12_fits_95 rfl rfl ?_
    dsimp only [List.set, List.filter]
    rw [nI_1]
    refine s_goto (pc := 98) (tgt := 33) dX12_fits_98 rfl ?_
    exact ih (i + 1) I2 _ (by omega) (fm_t hF f2)
theorem c_X12_fits (hW : Wn I D cs S) (hB : Bm I 553 B) (hbk : bOk B) {x : Int32} (r0 : ¬ iv 0 (2) x → Q (.inl (some (.int 0))) (Z (thr I 1 1) J n w)) (hg : ∀ q, x = nI q → q < 2 → ∀ I', km I I' → I' 534 0 = 0 → Q (.inl (some (.int (vFit D cs S B q)))) (Z I' J n w)) : Cn g (d + 8) mX12_fits [.ref 534, .int x] (Z I J n w) Q := by
  have hb7 := hW.2.1.1
  have hc12 := hW.2.1.2.1
  show Rn g (d + 8) mX12_fits 0 [.ref 534, .int x, .retAddr 0, .retAddr 0, .retAddr 0, .retAddr 0] [] [] (Z I J n w) Q
  refine s_aload_n (pc := 0) (i := 0) dX12_fits_0 rfl rfl ?_
  refine m_ic (pc := 1) (v := 0) dX12_fits_1 rfl ?_
  refine m_pi (pc := 2) dX12_fits_2 ff_X12_3 rfl rfl o_534 ?_
  refine s_aload_n (pc := 5) (i := 0) dX12_fits_5 rfl rfl ?_
  refine s_iload_n (pc := 6) (i := 1) dX12_fits_6 rfl rfl ?_
  refine m_ic (pc := 7) (v := 0) dX12_fits_7 rfl ?_
  refine m_ic (pc := 8) (v := 1) dX12_fits_8 rfl ?_
  refine m_s3 (pc := 9) dX12_fits_9 lk_X12_373 ok_X12_within rfl rfl (c_win (lo := 0) (m := 2) rfl rfl (by omega) (fun q eq lq hq => kt_s ?_) (fun z => kt_s ?_))
  · subst eq
    refine m_ic (pc := 12) (v := 1) dX12_fits_12 rfl ?_
    refine m_ic (pc := 13) (v := 1) dX12_fits_13 rfl ?_
    refine m_v3 (pc := 14) dX12_fits_14 lk_X12_192 ok_X12_may (rcO o_534 (by decide) rfl) rfl rfl (c_may1 (k := 1) (by decide) rfl up_s (by decide) (kt_s ?_))
    · refine s_ifne (pc := 17) (tgt := 22) dX12_fits_17 rfl (fun h17 => ?_) (fun h17 => absurd h17 (by decide))
      refine s_aload_n (pc := 22) (i := 0) dX12_fits_22 rfl rfl ?_
      refine m_v0 (pc := 23) dX12_fits_23 lk_X12_310 ok_X12_take (rcO o_534 (by decide) rfl) rfl rfl (c_X12_take (kt_v ?_))
      have hM := tk_W hW
      have hK := tk_k (I := I)
      have h00 := tk_0 (I := I)
      obtain ⟨I1, e1⟩ : ∃ z, z = cpI (up I 534 0 0) 549 550 126 := ⟨_, rfl⟩
      rw [← e1] at hM hK h00 ⊢
      have hB1 : Bm I1 553 B := fun j hj => (hK 553 j (by unfold mS; omega)).trans (hB j hj)
      refine m_ic (pc := 26) (v := 0) dX12_fits_26 rfl ?_
      refine s_istore_n (pc := 27) (i := 2) dX12_fits_27 rfl (Nat.le_of_ble_eq_true rfl) ?_
      dsimp only [List.set, List.filter]
      refine m_ic (pc := 28) (v := -1) dX12_fits_28 rfl ?_
      refine s_istore_n (pc := 29) (i := 3) dX12_fits_29 rfl (Nat.le_of_ble_eq_true rfl) ?_
      dsimp only [List.set, List.filter]
      refine m_ic (pc := 30) (v := 0) dX12_fits_30 rfl ?_
      refine s_istore (pc := 31) (i := 4) dX12_fits_31 (Nat.le_of_ble_eq_true rfl) ?_
      dsimp only [List.set, List.filter]
      exact mfi_lp hq hM hB1 hbk (fun I' f => hg q rfl hq I' (km_t hK (km_m f)) ((fm_0 f).trans h00)) (cb D) 0 I1 _ (by omega) fm_r
  · refine m_ic (pc := 12) (v := 1) dX12_fits_12 rfl ?_
    refine m_ic (pc := 13) (v := 1) dX12_fits_13 rfl ?_
    refine m_v3 (pc := 14) dX12_fits_14 lk_X12_192 ok_X12_may (rcO o_534 (by decide) rfl) rfl rfl (c_may0 (k := 1) (by decide) rfl up_s (by decide) (kt_s ?_))
    · refine s_ifne (pc := 17) (tgt := 22) dX12_fits_17 rfl (fun h17 => absurd h17 (by decide)) (fun h17 => ?_)
      refine m_ic (pc := 20) (v := 0) dX12_fits_20 rfl ?_
      refine s_ireturn (pc := 21) dX12_fits_21 rfl rfl ?_
      rw [thr_0]
      exact r0  z
end S
