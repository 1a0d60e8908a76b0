section S
variable {g : aG} {d : Nat} {I : Nat → Nat → Int32} {J : Nat → Nat → Int64} {n w : Nat} {Q : aO → aS → Prop}
variable {σ : aS} {S : sD} {D : cD} {cs : List Nat} {b c k : Nat}
theorem wea_lp {q : Nat} (hW : Wc I 33 D cs S) (hq2 : q < 2) (hq : Q (.inl (some (.int (vPk (mxr (fun b => nI (sT S b)) (cb D)) q)))) (Z I J n w)) : ∀ f i, i + f = cb D → Rn g (d + 8) mX11_weariest 13 [.ref 1, .int (nI q), .int (mxr (fun b => nI (sT S b)) i).1, .int (mxr (fun b => nI (sT S b)) i).2, .int (nI i)] [] [] (Z I J n w) Q := by
  intro f
  induction f with
  | zero =>
    intro i hi
    have e : cb D = i := by omega
    subst e
    have hb7 := hW.2.1.1
    have hc12 := hW.2.1.2.1
    refine s_iload (pc := 13) (i := 4) dX11_weariest_13 rfl ?_
    refine s_aload_n (pc := 15) (i := 0) dX11_weariest_15 rfl rfl ?_
    refine m_gr (pc := 16) dX11_weariest_16 ff_X11_19 rfl o_1 r_1_1 ?_
    refine m_gi (pc := 19) dX11_weariest_19 ff_X11_143 rfl o_4 ?_
    refine m_nm (v' := nI (cb D)) (hW.1.1) ?_
    refine s_icge (pc := 22) (tgt := 59) dX11_weariest_22 rfl (fun h22 => ?_) (fun h22 => absurd (nI_le (a := cb D) (b := (cb D)) (by omega) (by omega)) h22)
    refine s_iload_n (pc := 59) (i := 1) dX11_weariest_59 rfl rfl ?_
    refine s_ifne (pc := 60) (tgt := 67) dX11_weariest_60 rfl (fun h60 => ?_) (fun h60 => ?_)
    · have h60 : ¬ q = 0 := fun z => h60 ((nI_eq (a := q) (b := 0) (by omega) (by omega)).mpr z)
      refine s_iload_n (pc := 67) (i := 3) dX11_weariest_67 rfl rfl ?_
      refine s_ireturn (pc := 68) dX11_weariest_68 rfl rfl ?_
      have E : vPk (mxr (fun b => nI (sT S b)) (cb D)) q = (mxr (fun b => nI (sT S b)) (cb D)).2 := if_neg h60
      rw [E] at hq; exact hq
    · have h60 : q = 0 := (nI_eq (a := q) (b := 0) (by omega) (by omega)).mp h60
      refine s_iload_n (pc := 63) (i := 2) dX11_weariest_63 rfl rfl ?_
      refine s_goto (pc := 64) (tgt := 68) dX11_weariest_64 rfl ?_
      refine s_ireturn (pc := 68) dX11_weariest_68 rfl rfl ?_
      have E : vPk (mxr (fun b => nI (sT S b)) (cb D)) q = (mxr (fun b => nI (sT S b)) (cb D)).1 := if_pos h60
      rw [E] at hq; exact hq
  | succ f ih =>
    intro i hi
    have hb7 := hW.2.1.1
    have hc12 := hW.2.1.2.1
    refine s_iload (pc := 13) (i := 4) dX11_weariest_13 rfl ?_
    refine s_aload_n (pc := 15) (i := 0) dX11_weariest_15 rfl rfl ?_
    refine m_gr (pc := 16) dX11_weariest_16 ff_X11_19 rfl o_1 r_1_1 ?_
    refine m_gi (pc := 19) dX11_weariest_19 ff_X11_143 rfl o_4 ?_
    refine m_nm (v' := nI (cb D)) (hW.1.1) ?_
    refine s_icge (pc := 22) (tgt := 59) dX11_weariest_22 rfl (fun h22 => absurd h22 (nI_ge (a := i) (b := cb D) (by omega) (by omega))) (fun h22 => ?_)
    refine s_aload_n (pc := 25) (i := 0) dX11_weariest_25 rfl rfl ?_
    refine m_gr (pc := 26) dX11_weariest_26 ff_X11_73 rfl o_1 r_1_10 ?_
    refine m_gr (pc := 29) dX11_weariest_29 ff_X11_224 rfl o_33 r_33_0 ?_
    refine s_iload (pc := 32) (i := 4) dX11_weariest_32 rfl ?_
    refine m_ia (pc := 34) dX11_weariest_34 a_34 (vp_in_nI (n := i) (by omega) (by decide)) ?_
    refine m_nm (v' := nI (sT S i)) (rdI (j := i) ((hW.2.2.2.2.1.1 i (by omega)).1) (by omega)) ?_
    refine s_iload_n (pc := 35) (i := 3) dX11_weariest_35 rfl rfl ?_
    refine s_icle (pc := 36) (tgt := 53) dX11_weariest_36 rfl (fun h36 => ?_) (fun h36 => ?_)
    · have e := mxr_n (v := (fun b => nI (sT S b))) h36
      refine m_inc (pc := 53) (v := 1) dX11_weariest_53 rfl rfl ?_
      dsimp only [List.set, List.filter]
      rw [nI_1]
      refine s_goto (pc := 56) (tgt := 13) dX11_weariest_56 rfl ?_
      have h := ih (i + 1) (by omega)
      rw [e] at h; exact h
    · have e := mxr_y (v := (fun b => nI (sT S b))) h36
      refine s_iload (pc := 39) (i := 4) dX11_weariest_39 rfl ?_
      refine s_istore_n (pc := 41) (i := 2) dX11_weariest_41 rfl (Nat.le_of_ble_eq_true rfl) ?_
      dsimp only [List.set, List.filter]
      refine s_aload_n (pc := 42) (i := 0) dX11_weariest_42 rfl rfl ?_
      refine m_gr (pc := 43) dX11_weariest_43 ff_X11_73 rfl o_1 r_1_10 ?_
      refine m_gr (pc := 46) dX11_weariest_46 ff_X11_224 rfl o_33 r_33_0 ?_
      refine s_iload (pc := 49) (i := 4) dX11_weariest_49 rfl ?_
      refine m_ia (pc := 51) dX11_weariest_51 a_34 (vp_in_nI (n := i) (by omega) (by decide)) ?_
      refine m_nm (v' := nI (sT S i)) (rdI (j := i) ((hW.2.2.2.2.1.1 i (by omega)).1) (by omega)) ?_
      refine s_istore_n (pc := 52) (i := 3) dX11_weariest_52 rfl (Nat.le_of_ble_eq_true rfl) ?_
      dsimp only [List.set, List.filter]
      refine m_inc (pc := 53) (v := 1) dX11_weariest_53 rfl rfl ?_
      dsimp only [List.set, List.filter]
      rw [nI_1]
      refine s_goto (pc := 56) (tgt := 13) dX11_weariest_56 rfl ?_
      have h := ih (i + 1) (by omega)
      rw [e] at h; exact h
theorem c_X11_weariest (hW : Wc I 33 D cs S) (hn : n + 1 ≤ 600000 ∧ w + 6 ≤ 7000000) {x : Int32} (r0 : ¬ iv 0 (2) x → Q (.inr 1) (Z (up I 1 18 (I 1 18 + 1)) J (n + 1) (w + 6))) (hg : ∀ q, x = nI q → q < 2 → ∀ I', kc I I' → Q (.inl (some (.int (vPk (mxr (fun b => nI (sT S b)) (cb D)) q)))) (Z I' J n w)) : Cn g (d + 8) mX11_weariest [.ref 1, .int x] (Z I J n w) Q := by
  have hb7 := hW.2.1.1
  have hc12 := hW.2.1.2.1
  show Rn g (d + 8) mX11_weariest 0 [.ref 1, .int x, .retAddr 0, .retAddr 0, .retAddr 0] [] [] (Z I J n w) Q
  refine s_aload_n (pc := 0) (i := 0) dX11_weariest_0 rfl rfl ?_
  refine s_iload_n (pc := 1) (i := 1) dX11_weariest_1 rfl rfl ?_
  refine m_ic (pc := 2) (v := 2) dX11_weariest_2 rfl ?_
  refine m_v2 (pc := 3) dX11_weariest_3 lk_X11_181 ok_X11_needWhat (rcO o_1 (by decide) rfl) rfl rfl (c_nw (m := 2) rfl (by decide) hn (fun q eq hq => kt_v ?_) (fun z => kt_x ?_))
  · subst eq
    refine m_ic (pc := 6) (v := -1) dX11_weariest_6 rfl ?_
    refine s_istore_n (pc := 7) (i := 2) dX11_weariest_7 rfl (Nat.le_of_ble_eq_true rfl) ?_
    dsimp only [List.set, List.filter]
    refine m_ic (pc := 8) (v := -1) dX11_weariest_8 rfl ?_
    refine s_istore_n (pc := 9) (i := 3) dX11_weariest_9 rfl (Nat.le_of_ble_eq_true rfl) ?_
    dsimp only [List.set, List.filter]
    refine m_ic (pc := 10) (v := 0) dX11_weariest_10 rfl ?_
    refine s_istore (pc := 11) (i := 4) dX11_weariest_11 (Nat.le_of_ble_eq_true rfl) ?_
    dsimp only [List.set, List.filter]
    exact wea_lp hW hq (hg q rfl hq I kc_r) (cb D) 0 (by omega)
  · exact r0  z
theorem sT_b (h : sOk D S) : ∀ i, sT S i < 2 ^ 30 := fun i => by have := (h.1 i).1; omega
theorem mwe_lp {q : Nat} (hW : Wn I D cs S) (hq2 : q < 2) (hq : Q (.inl (some (.int (vPk (mxr (fun b => nI (sT S b)) (cb D)) q)))) (Z I J n w)) : ∀ f i, i + f = cb D → Rn g (d + 2) mX12_weariest 26 [.ref 534, .int (nI q), .int (ob (mx1 (sT S) i)), .int (nI i)] [] [] (Z I J n w) Q := by
  have hb7 := hW.2.1.1
  rw [mx1_r (sT_b hW.2.2.2.2.2)] at hq
  intro f
  induction f with
  | zero =>
    intro i hi
    have e0 : cb D = i := by omega
    subst e0
    cases e : mx1 (sT S) (cb D) with
    | none =>
      rw [e] at hq
      have hq' : Q (.inl (some (.int (-1)))) (Z I J n w) := by
        have E : vPk (ob none, ob ((none : Option Nat).map (sT S))) q = -1 := by unfold vPk; split <;> rfl
        rw [E] at hq; exact hq
      refine s_iload_n (pc := 26) (i := 3) dX12_weariest_26 rfl rfl ?_
      refine s_aload_n (pc := 27) (i := 0) dX12_weariest_27 rfl rfl ?_
      refine m_gi (pc := 28) dX12_weariest_28 ff_X12_154 rfl o_534 ?_
      refine m_nm (v' := nI (cb D)) (hW.1.1) ?_
      refine s_icge (pc := 31) (tgt := 68) dX12_weariest_31 rfl (fun h31 => ?_) (fun h31 => absurd (nI_le (a := cb D) (b := cb D) (by omega) (by omega)) h31)
      refine s_iload_n (pc := 68) (i := 1) dX12_weariest_68 rfl rfl ?_
      refine s_ifeq (pc := 69) (tgt := 77) dX12_weariest_69 rfl (fun h69 => ?_) (fun h69 => ?_)
      · have h69 : q = 0 := (nI_eq (a := q) (b := 0) (by omega) (by omega)).mp h69
        refine s_iload_n (pc := 77) (i := 2) dX12_weariest_77 rfl rfl ?_
        refine s_goto (pc := 78) (tgt := 90) dX12_weariest_78 rfl ?_
        refine s_ireturn (pc := 90) dX12_weariest_90 rfl rfl ?_
        exact hq'
      · have h69 : ¬ q = 0 := fun z => h69 ((nI_eq (a := q) (b := 0) (by omega) (by omega)).mpr z)
        refine s_iload_n (pc := 72) (i := 2) dX12_weariest_72 rfl rfl ?_
        refine m_ic (pc := 73) (v := -1) dX12_weariest_73 rfl ?_
        refine s_icne (pc := 74) (tgt := 81) dX12_weariest_74 rfl (fun h74 => absurd h74 (by decide)) (fun h74 => ?_)
        refine s_iload_n (pc := 77) (i := 2) dX12_weariest_77 rfl rfl ?_
        refine s_goto (pc := 78) (tgt := 90) dX12_weariest_78 rfl ?_
        refine s_ireturn (pc := 90) dX12_weariest_90 rfl rfl ?_
        exact hq'
    | some b =>
      have hb := mx1_lt _ _ e
      rw [e] at hq
      refine s_iload_n (pc := 26) (i := 3) dX12_weariest_26 rfl rfl ?_
      refine s_aload_n (pc := 27) (i := 0) dX12_weariest_27 rfl rfl ?_
      refine m_gi (pc := 28) dX12_weariest_28 ff_X12_154 rfl o_534 ?_
      refine m_nm (v' := nI (cb D)) (hW.1.1) ?_
      refine s_icge (pc := 31) (tgt := 68) dX12_weariest_31 rfl (fun h31 => ?_) (fun h31 => absurd (nI_le (a := cb D) (b := cb D) (by omega) (by omega)) h31)
      refine s_iload_n (pc := 68) (i := 1) dX12_weariest_68 rfl rfl ?_
      refine s_ifeq (pc := 69) (tgt := 77) dX12_weariest_69 rfl (fun h69 => ?_) (fun h69 => ?_)
      · have h69 : q = 0 := (nI_eq (a := q) (b := 0) (by omega) (by omega)).mp h69
        refine s_iload_n (pc := 77) (i := 2) dX12_weariest_77 rfl rfl ?_
        refine s_goto (pc := 78) (tgt := 90) dX12_weariest_78 rfl ?_
        refine s_ireturn (pc := 90) dX12_weariest_90 rfl rfl ?_
        have E : vPk (ob (some b), ob ((some b).map (sT S))) q = nI b := if_pos h69
        rw [E] at hq; exact hq
      · have h69 : ¬ q = 0 := fun z => h69 ((nI_eq (a := q) (b := 0) (by omega) (by omega)).mpr z)
        refine s_iload_n (pc := 72) (i := 2) dX12_weariest_72 rfl rfl ?_
        refine m_ic (pc := 73) (v := -1) dX12_weariest_73 rfl ?_
        refine s_icne (pc := 74) (tgt := 81) dX12_weariest_74 rfl (fun h74 => ?_) (fun h74 => absurd h74 (nI_m1 (by omega)))
        refine s_aload_n (pc := 81) (i := 0) dX12_weariest_81 rfl rfl ?_
        refine m_gr (pc := 82) dX12_weariest_82 ff_X12_59 rfl o_534 r_534_36 ?_
        refine m_bi (pc := 85) (v := 84) dX12_weariest_85 rfl ?_
        refine s_iload_n (pc := 87) (i := 2) dX12_weariest_87 rfl rfl ?_
        refine s_iadd (pc := 88) dX12_weariest_88 ?_
        refine m_nm (v' := nI (84 + b)) (nI_add 84 b) ?_
        refine m_ia (pc := 89) dX12_weariest_89 a_549 (vp_in_nI (n := 84 + b) (by omega) (by decide)) ?_
        refine m_nm (v' := nI (sT S b)) (rdI (j := 84 + b) ((hW.2.2.2.2.1.1 b (by omega)).1) (by omega)) ?_
        refine s_ireturn (pc := 90) dX12_weariest_90 rfl rfl ?_
        have E : vPk (ob (some b), ob ((some b).map (sT S))) q = nI (sT S b) := if_neg h69
        rw [E] at hq; exact hq
  | succ f ih =>
    intro i hi
    have h := ih (i + 1) (by omega)
    rw [mx1] at h
    cases e : mx1 (sT S) i with
    | none =>
      rw [e] at h
      refine s_iload_n (pc := 26) (i := 3) dX12_weariest_26 rfl rfl ?_
      refine s_aload_n (pc := 27) (i := 0) dX12_weariest_27 rfl rfl ?_
      refine m_gi (pc := 28) dX12_weariest_28 ff_X12_154 rfl o_534 ?_
      refine m_nm (v' := nI (cb D)) (hW.1.1) ?_
      refine s_icge (pc := 31) (tgt := 68) dX12_weariest_31 rfl (fun h31 => absurd h31 (nI_ge (a := i) (b := cb D) (by omega) (by omega))) (fun h31 => ?_)
      refine s_iload_n (pc := 34) (i := 2) dX12_weariest_34 rfl rfl ?_
      refine m_ic (pc := 35) (v := -1) dX12_weariest_35 rfl ?_
      refine s_iceq (pc := 36) (tgt := 60) dX12_weariest_36 rfl (fun h36 => ?_) (fun h36 => absurd h36 (by decide))
      refine s_iload_n (pc := 60) (i := 3) dX12_weariest_60 rfl rfl ?_
      refine s_istore_n (pc := 61) (i := 2) dX12_weariest_61 rfl (Nat.le_of_ble_eq_true rfl) ?_
      dsimp only [List.set, List.filter]
      refine m_inc (pc := 62) (v := 1) dX12_weariest_62 rfl rfl ?_
      dsimp only [List.set, List.filter]
      rw [nI_1]
      refine s_goto (pc := 65) (tgt := 26) dX12_weariest_65 rfl ?_
      exact h
    | some b =>
      have hb := mx1_lt _ _ e
      have hT1 := (hW.2.2.2.2.2.1 i).1
      have hT2 := (hW.2.2.2.2.2.1 b).1
      rw [e] at h
      simp only [] at h
      refine s_iload_n (pc := 26) (i := 3) dX12_weariest_26 rfl rfl ?_
      refine s_aload_n (pc := 27) (i := 0) dX12_weariest_27 rfl rfl ?_
      refine m_gi (pc := 28) dX12_weariest_28 ff_X12_154 rfl o_534 ?_
      refine m_nm (v' := nI (cb D)) (hW.1.1) ?_
      refine s_icge (pc := 31) (tgt := 68) dX12_weariest_31 rfl (fun h31 => absurd h31 (nI_ge (a := i) (b := cb D) (by omega) (by omega))) (fun h31 => ?_)
      refine s_iload_n (pc := 34) (i := 2) dX12_weariest_34 rfl rfl ?_
      refine m_ic (pc := 35) (v := -1) dX12_weariest_35 rfl ?_
      refine s_iceq (pc := 36) (tgt := 60) dX12_weariest_36 rfl (fun h36 => absurd h36 (nI_m1 (by omega))) (fun h36 => ?_)
      refine s_aload_n (pc := 39) (i := 0) dX12_weariest_39 rfl rfl ?_
      refine m_gr (pc := 40) dX12_weariest_40 ff_X12_59 rfl o_534 r_534_36 ?_
      refine m_bi (pc := 43) (v := 84) dX12_weariest_43 rfl ?_
      refine s_iload_n (pc := 45) (i := 3) dX12_weariest_45 rfl rfl ?_
      refine s_iadd (pc := 46) dX12_weariest_46 ?_
      refine m_nm (v' := nI (84 + i)) (nI_add 84 i) ?_
      refine m_ia (pc := 47) dX12_weariest_47 a_549 (vp_in_nI (n := 84 + i) (by omega) (by decide)) ?_
      refine m_nm (v' := nI (sT S i)) (rdI (j := 84 + i) ((hW.2.2.2.2.1.1 i (by omega)).1) (by omega)) ?_
      refine s_aload_n (pc := 48) (i := 0) dX12_weariest_48 rfl rfl ?_
      refine m_gr (pc := 49) dX12_weariest_49 ff_X12_59 rfl o_534 r_534_36 ?_
      refine m_bi (pc := 52) (v := 84) dX12_weariest_52 rfl ?_
      refine s_iload_n (pc := 54) (i := 2) dX12_weariest_54 rfl rfl ?_
      refine s_iadd (pc := 55) dX12_weariest_55 ?_
      refine m_nm (v' := nI (84 + b)) (nI_add 84 b) ?_
      refine m_ia (pc := 56) dX12_weariest_56 a_549 (vp_in_nI (n := 84 + b) (by omega) (by decide)) ?_
      refine m_nm (v' := nI (sT S b)) (rdI (j := 84 + b) ((hW.2.2.2.2.1.1 b (by omega)).1) (by omega)) ?_
      refine s_icle (pc := 57) (tgt := 62) dX12_weariest_57 rfl (fun h57 => ?_) (fun h57 => ?_)
      · have h57 : (sT S i) ≤ (sT S b) := (nI_leI (a := sT S i) (b := sT S b) (by omega) (by omega)).mp h57
        refine m_inc (pc := 62) (v := 1) dX12_weariest_62 rfl rfl ?_
        dsimp only [List.set, List.filter]
        rw [nI_1]
        refine s_goto (pc := 65) (tgt := 26) dX12_weariest_65 rfl ?_
        rw [if_neg (by omega)] at h; exact h
      · have h57 : ¬ (sT S i) ≤ (sT S b) := fun z => h57 ((nI_leI (a := sT S i) (b := sT S b) (by omega) (by omega)).mpr z)
        refine s_iload_n (pc := 60) (i := 3) dX12_weariest_60 rfl rfl ?_
        refine s_istore_n (pc := 61) (i := 2) dX12_weariest_61 rfl (Nat.le_of_ble_eq_true rfl) ?_
        dsimp only [List.set, List.filter]
        refine m_inc (pc := 62) (v := 1) dX12_weariest_62 rfl rfl ?_
        dsimp only [List.set, List.filter]
        rw [nI_1]
        refine s_goto (pc := 65) (tgt := 26) dX12_weariest_65 rfl ?_
        rw [if_pos (by omega)] at h; exact h
theorem c_X12_weariest (hW : Wn I D cs S) {x : Int32} (r0 : ¬ iv 0 (2) x → Q (.inl (some (.int 0))) (Z (thr I 1 1) J n w)) (hg : ∀ q, x = nI q → q < 2 → ∀ I', km I I' → I' 534 0 = 0 → Q (.inl (some (.int (vPk (mxr (fun b => nI (sT S b)) (cb D)) q)))) (Z I' J n w)) : Cn g (d + 2) mX12_weariest [.ref 534, .int x] (Z I J n w) Q := by
  have hb7 := hW.2.1.1
  have hc12 := hW.2.1.2.1
  show Rn g (d + 2) mX12_weariest 0 [.ref 534, .int x, .retAddr 0, .retAddr 0] [] [] (Z I J n w) Q
  refine s_aload_n (pc := 0) (i := 0) dX12_weariest_0 rfl rfl ?_
  refine m_ic (pc := 1) (v := 0) dX12_weariest_1 rfl ?_
  refine m_pi (pc := 2) dX12_weariest_2 ff_X12_3 rfl rfl o_534 ?_
  refine s_aload_n (pc := 5) (i := 0) dX12_weariest_5 rfl rfl ?_
  refine s_iload_n (pc := 6) (i := 1) dX12_weariest_6 rfl rfl ?_
  refine m_ic (pc := 7) (v := 0) dX12_weariest_7 rfl ?_
  refine m_ic (pc := 8) (v := 1) dX12_weariest_8 rfl ?_
  refine m_s3 (pc := 9) dX12_weariest_9 lk_X12_373 ok_X12_within rfl rfl (c_win (lo := 0) (m := 2) rfl rfl (by omega) (fun q eq lq hq => kt_s ?_) (fun z => kt_s ?_))
  · subst eq
    refine m_ic (pc := 12) (v := 1) dX12_weariest_12 rfl ?_
    refine m_ic (pc := 13) (v := 1) dX12_weariest_13 rfl ?_
    refine m_v3 (pc := 14) dX12_weariest_14 lk_X12_192 ok_X12_may (rcO o_534 (by decide) rfl) rfl rfl (c_may1 (k := 1) (by decide) rfl up_s (by decide) (kt_s ?_))
    · refine s_ifne (pc := 17) (tgt := 22) dX12_weariest_17 rfl (fun h17 => ?_) (fun h17 => absurd h17 (by decide))
      refine m_ic (pc := 22) (v := -1) dX12_weariest_22 rfl ?_
      refine s_istore_n (pc := 23) (i := 2) dX12_weariest_23 rfl (Nat.le_of_ble_eq_true rfl) ?_
      dsimp only [List.set, List.filter]
      refine m_ic (pc := 24) (v := 0) dX12_weariest_24 rfl ?_
      refine s_istore_n (pc := 25) (i := 3) dX12_weariest_25 rfl (Nat.le_of_ble_eq_true rfl) ?_
      dsimp only [List.set, List.filter]
      exact mwe_lp (Wn_0 hW) hq (hg q rfl hq _ th_k up_s) (cb D) 0 (by omega)
  · refine m_ic (pc := 12) (v := 1) dX12_weariest_12 rfl ?_
    refine m_ic (pc := 13) (v := 1) dX12_weariest_13 rfl ?_
    refine m_v3 (pc := 14) dX12_weariest_14 lk_X12_192 ok_X12_may (rcO o_534 (by decide) rfl) rfl rfl (c_may0 (k := 1) (by decide) rfl up_s (by decide) (kt_s ?_))
    · refine s_ifne (pc := 17) (tgt := 22) dX12_weariest_17 rfl (fun h17 => absurd h17 (by decide)) (fun h17 => ?_)
      refine m_ic (pc := 20) (v := 0) dX12_weariest_20 rfl ?_
      refine s_ireturn (pc := 21) dX12_weariest_21 rfl rfl ?_
      rw [thr_0]
      exact r0  z
theorem hea_lp {q : Nat} (hW : Wc I 33 D cs S) (hb : b < cb D) (hq2 : q < 2) (hq : ∀ I', fl I I' → Q (.inl (some (.int (vPk (mxr (fun c => nI (bur D cs S b c 0)) (cc D)) q)))) (Z I' J n w)) : ∀ f i I1 (v6 : Value), i + f = cc D → fl I I1 → Rn g (d + 8) mX11_heaviest 19 [.ref 1, .int (nI b), .int (nI q), .int (mxr (fun c => nI (bur D cs S b c 0)) i).1, .int (mxr (fun c => nI (bur D cs S b c 0)) i).2, .int (nI i), v6] [] [] (Z I1 J n w) Q := by
  have hc12 := hW.2.1.2.1
  intro f
  induction f with
  | zero =>
    intro i I1 v6 hi hF
    have e : cc D = i := by omega
    subst e
    have hV := Wc_fl hW (by decide) hF
    refine s_iload (pc := 19) (i := 5) dX11_heaviest_19 rfl ?_
    refine s_aload_n (pc := 21) (i := 0) dX11_heaviest_21 rfl rfl ?_
    refine m_gr (pc := 22) dX11_heaviest_22 ff_X11_19 rfl o_1 r_1_1 ?_
    refine m_gi (pc := 25) dX11_heaviest_25 ff_X11_184 rfl o_4 ?_
    refine m_nm (v' := nI (cc D)) (hV.1.2.1) ?_
    refine s_icge (pc := 28) (tgt := 68) dX11_heaviest_28 rfl (fun h28 => ?_) (fun h28 => absurd (nI_le (a := cc D) (b := cc D) (by omega) (by omega)) h28)
    refine s_iload_n (pc := 68) (i := 2) dX11_heaviest_68 rfl rfl ?_
    refine s_ifne (pc := 69) (tgt := 76) dX11_heaviest_69 rfl (fun h69 => ?_) (fun h69 => ?_)
    · have h69 : ¬ q = 0 := fun z => h69 ((nI_eq (a := q) (b := 0) (by omega) (by omega)).mpr z)
      refine s_iload (pc := 76) (i := 4) dX11_heaviest_76 rfl ?_
      refine s_ireturn (pc := 78) dX11_heaviest_78 rfl rfl ?_
      have E : vPk (mxr (fun c => nI (bur D cs S b c 0)) (cc D)) q = (mxr (fun c => nI (bur D cs S b c 0)) (cc D)).2 := if_neg h69
      rw [E] at hq; exact hq I1 hF
    · have h69 : q = 0 := (nI_eq (a := q) (b := 0) (by omega) (by omega)).mp h69
      refine s_iload_n (pc := 72) (i := 3) dX11_heaviest_72 rfl rfl ?_
      refine s_goto (pc := 73) (tgt := 78) dX11_heaviest_73 rfl ?_
      refine s_ireturn (pc := 78) dX11_heaviest_78 rfl rfl ?_
      have E : vPk (mxr (fun c => nI (bur D cs S b c 0)) (cc D)) q = (mxr (fun c => nI (bur D cs S b c 0)) (cc D)).1 := if_pos h69
      rw [E] at hq; exact hq I1 hF
  | succ f ih =>
    intro i I1 v6 hi hF
    have hV := Wc_fl hW (by decide) hF
    refine s_iload (pc := 19) (i := 5) dX11_heaviest_19 rfl ?_
    refine s_aload_n (pc := 21) (i := 0) dX11_heaviest_21 rfl rfl ?_
    refine m_gr (pc := 22) dX11_heaviest_22 ff_X11_19 rfl o_1 r_1_1 ?_
    refine m_gi (pc := 25) dX11_heaviest_25 ff_X11_184 rfl o_4 ?_
    refine m_nm (v' := nI (cc D)) (hV.1.2.1) ?_
    refine s_icge (pc := 28) (tgt := 68) dX11_heaviest_28 rfl (fun h28 => absurd h28 (nI_ge (a := i) (b := cc D) (by omega) (by omega))) (fun h28 => ?_)
    refine s_aload_n (pc := 31) (i := 0) dX11_heaviest_31 rfl rfl ?_
    refine m_gr (pc := 32) dX11_heaviest_32 ff_X11_58 rfl o_1 r_1_8 ?_
    refine s_aload_n (pc := 35) (i := 0) dX11_heaviest_35 rfl rfl ?_
    refine m_gr (pc := 36) dX11_heaviest_36 ff_X11_73 rfl o_1 r_1_10 ?_
    refine s_iload_n (pc := 39) (i := 1) dX11_heaviest_39 rfl rfl ?_
    refine s_iload (pc := 40) (i := 5) dX11_heaviest_40 rfl ?_
    refine m_ic (pc := 42) (v := 0) dX11_heaviest_42 rfl ?_
    refine m_v4 (pc := 43) dX11_heaviest_43 lk_X11_264 ok_X3_burdenOn (rcO o_31 (by decide) rfl) rfl rfl (c_X3_burdenOn (k := 0) (o := 33) sO_33 (by decide) hV hb (by omega) (by decide) (fun I2 f2 => kt_s ?_))
    refine s_istore (pc := 46) (i := 6) dX11_heaviest_46 (Nat.le_of_ble_eq_true rfl) ?_
    dsimp only [List.set, List.filter]
    refine s_iload (pc := 48) (i := 6) dX11_heaviest_48 rfl ?_
    refine s_iload (pc := 50) (i := 4) dX11_heaviest_50 rfl ?_
    refine s_icle (pc := 52) (tgt := 62) dX11_heaviest_52 rfl (fun h52 => ?_) (fun h52 => ?_)
    · have e := mxr_n (v := (fun c => nI (bur D cs S b c 0))) h52
      refine m_inc (pc := 62) (v := 1) dX11_heaviest_62 rfl rfl ?_
      dsimp only [List.set, List.filter]
      rw [nI_1]
      refine s_goto (pc := 65) (tgt := 19) dX11_heaviest_65 rfl ?_
      have h := ih (i + 1) I2 (.int (nI (bur D cs S b i 0))) (by omega) (fl_t hF f2)
      rw [e] at h; exact h
    · have e := mxr_y (v := (fun c => nI (bur D cs S b c 0))) h52
      refine s_iload (pc := 55) (i := 5) dX11_heaviest_55 rfl ?_
      refine s_istore_n (pc := 57) (i := 3) dX11_heaviest_57 rfl (Nat.le_of_ble_eq_true rfl) ?_
      dsimp only [List.set, List.filter]
      refine s_iload (pc := 58) (i := 6) dX11_heaviest_58 rfl ?_
      refine s_istore (pc := 60) (i := 4) dX11_heaviest_60 (Nat.le_of_ble_eq_true rfl) ?_
      dsimp only [List.set, List.filter]
      refine m_inc (pc := 62) (v := 1) dX11_heaviest_62 rfl rfl ?_
      dsimp only [List.set, List.filter]
      rw [nI_1]
      refine s_goto (pc := 65) (tgt := 19) dX11_heaviest_65 rfl ?_
      have h := ih (i + 1) I2 (.int (nI (bur D cs S b i 0))) (by omega) (fl_t hF f2)
      rw [e] at h; exact h
theorem c_X11_heaviest (hW : Wc I 33 D cs S) (hn : n + 1 ≤ 600000 ∧ w + 6 ≤ 7000000) {x y : Int32} (r0 : ¬ iv 0 (cb D) x → Q (.inr 0) (Z (up I 1 17 (I 1 17 + 1)) J (n + 1) (w + 6))) (r1 : iv 0 (cb D) x → ¬ iv 0 (2) y → Q (.inr 1) (Z (up I 1 18 (I 1 18 + 1)) J (n + 1) (w + 6))) (hg : ∀ b, ∀ q, x = nI b → b < cb D → y = nI q → q < 2 → ∀ I', kc I I' → Q (.inl (some (.int (vPk (mxr (fun c => nI (bur D cs S b c 0)) (cc D)) q)))) (Z I' J n w)) : Cn g (d + 8) mX11_heaviest [.ref 1, .int x, .int y] (Z I J n w) Q := by
  have hb7 := hW.2.1.1
  have hc12 := hW.2.1.2.1
  show Rn g (d + 8) mX11_heaviest 0 [.ref 1, .int x, .int y, .retAddr 0, .retAddr 0, .retAddr 0, .retAddr 0] [] [] (Z I J n w) Q
  refine s_aload_n (pc := 0) (i := 0) dX11_heaviest_0 rfl rfl ?_
  refine s_iload_n (pc := 1) (i := 1) dX11_heaviest_1 rfl rfl ?_
  refine m_v1 (pc := 2) dX11_heaviest_2 lk_X11_214 ok_X11_needBack (rcO o_1 (by decide) rfl) rfl rfl (c_nb hW.1 hW.2.1 hn (fun b eb hb => kt_v ?_) (fun z => kt_x ?_))
  · subst eb
    refine s_aload_n (pc := 5) (i := 0) dX11_heaviest_5 rfl rfl ?_
    refine s_iload_n (pc := 6) (i := 2) dX11_heaviest_6 rfl rfl ?_
    refine m_ic (pc := 7) (v := 2) dX11_heaviest_7 rfl ?_
    refine m_v2 (pc := 8) dX11_heaviest_8 lk_X11_181 ok_X11_needWhat (rcO o_1 (by decide) rfl) rfl rfl (c_nw (m := 2) rfl (by decide) hn (fun q eq hq => kt_v ?_) (fun z => kt_x ?_))
    · subst eq
      refine m_ic (pc := 11) (v := -1) dX11_heaviest_11 rfl ?_
      refine s_istore_n (pc := 12) (i := 3) dX11_heaviest_12 rfl (Nat.le_of_ble_eq_true rfl) ?_
      dsimp only [List.set, List.filter]
      refine m_ic (pc := 13) (v := -1) dX11_heaviest_13 rfl ?_
      refine s_istore (pc := 14) (i := 4) dX11_heaviest_14 (Nat.le_of_ble_eq_true rfl) ?_
      dsimp only [List.set, List.filter]
      refine m_ic (pc := 16) (v := 0) dX11_heaviest_16 rfl ?_
      refine s_istore (pc := 17) (i := 5) dX11_heaviest_17 (Nat.le_of_ble_eq_true rfl) ?_
      dsimp only [List.set, List.filter]
      exact hea_lp hW hb hq (fun I' f => hg b q rfl hb rfl hq I' (kc_l f)) (cc D) 0 I _ (by omega) fl_r
    · exact r1 ⟨b, rfl, Nat.zero_le _, hb⟩ z
  · exact r0  z
theorem bur_c {i : Nat} (hk : cOk D) (hi : i < cc D) : bur D cs S b i 0 ≤ 135 := bur_le hk hi
/-- only councils count -/
theorem mx1_c {f f' : Nat → Nat} : ∀ k, (∀ i, i < k → f i = f' i) → mx1 f k = mx1 f' k
  | 0, _ => rfl
  | k + 1, h => by
    rw [mx1, mx1, mx1_c k (fun i hi => h i (by omega))]
    cases e : mx1 f' k with
    | none => rfl
    | some b => have := mx1_lt _ _ e; simp only []; rw [h b (by omega), h k (by omega)]
theorem mxr_c {v v' : Nat → Int32} : ∀ k, (∀ i, i < k → v i = v' i) → mxr v k = mxr v' k
  | 0, _ => rfl
  | k + 1, h => by
    show (if (mxr v k).2 < v k then (nI k, v k) else mxr v k) = (if (mxr v' k).2 < v' k then (nI k, v' k) else mxr v' k)
    rw [mxr_c k (fun i hi => h i (by omega)), h k (by omega)]
theorem bur_z (hk : cOk D) : ∀ i, (fun c => if c < cc D then bur D cs S b c 0 else 0) i < 2 ^ 30 := fun i => by
  show (if i < cc D then bur D cs S b i 0 else 0) < 2 ^ 30
  split
  · rename_i h; have := bur_le (D := D) (cs := cs) (S := S) (b := b) (c := i) (k := 0) hk h; omega
  · decide
theorem mhr (hk : cOk D) : mxr (fun c => nI (bur D cs S b c 0)) (cc D) = (ob (mx1 (fun c => bur D cs S b c 0) (cc D)), ob ((mx1 (fun c => bur D cs S b c 0) (cc D)).map (fun c => bur D cs S b c 0))) := by
  have e1 : mxr (fun c => nI (bur D cs S b c 0)) (cc D) = mxr (fun c => nI ((fun c => if c < cc D then bur D cs S b c 0 else 0) c)) (cc D) := mxr_c _ (fun i hi => by simp only [if_pos hi])
  have e2 : mx1 (fun c => bur D cs S b c 0) (cc D) = mx1 (fun c => if c < cc D then bur D cs S b c 0 else 0) (cc D) := mx1_c _ (fun i hi => by simp only [if_pos hi])
  rw [e1, mx1_r (bur_z hk), ← e2]
  cases e : mx1 (fun c => bur D cs S b c 0) (cc D) with
  | none => rfl
  | some x => have := mx1_lt _ _ e; simp only [Option.map_some]; rw [if_pos this]
theorem mhe_lp {q : Nat} (hM : Wm I D cs S) (hb : b < cb D) (hq2 : q < 2) (hq : ∀ I', fm I I' → Q (.inl (some (.int (vPk (mxr (fun c => nI (bur D cs S b c 0)) (cc D)) q)))) (Z I' J n w)) : ∀ f i I1, i + f = cc D → fm I I1 → Rn g (d + 7) mX12_heaviest 40 [.ref 534, .int (nI b), .int (nI q), .int (ob (mx1 (fun c => bur D cs S b c 0) i)), .int (nI i)] [] [] (Z I1 J n w) Q := by
  have hc12 := hM.2.1.2.1
  rw [mhr hM.2.1] at hq
  intro f
  induction f with
  | zero =>
    intro i I1 hi hF
    have e0 : cc D = i := by omega
    subst e0
    have hV := Wm_fm hM hF
    cases e : mx1 (fun c => bur D cs S b c 0) (cc D) with
    | none =>
      rw [e] at hq
      have hq' : Q (.inl (some (.int (-1)))) (Z I1 J n w) := by
        have hq2 := hq I1 hF
        have E : vPk (ob none, ob ((none : Option Nat).map (fun c => bur D cs S b c 0))) q = -1 := by unfold vPk; split <;> rfl
        rw [E] at hq2; exact hq2
      refine s_iload (pc := 40) (i := 4) dX12_heaviest_40 rfl ?_
      refine s_aload_n (pc := 42) (i := 0) dX12_heaviest_42 rfl rfl ?_
      refine m_gi (pc := 43) dX12_heaviest_43 ff_X12_157 rfl o_534 ?_
      refine m_nm (v' := nI (cc D)) (hV.1.2.1) ?_
      refine s_icge (pc := 46) (tgt := 79) dX12_heaviest_46 rfl (fun h46 => ?_) (fun h46 => absurd (nI_le (a := cc D) (b := cc D) (by omega) (by omega)) h46)
      refine s_iload_n (pc := 79) (i := 2) dX12_heaviest_79 rfl rfl ?_
      refine s_ifeq (pc := 80) (tgt := 88) dX12_heaviest_80 rfl (fun h80 => ?_) (fun h80 => ?_)
      · have h80 : q = 0 := (nI_eq (a := q) (b := 0) (by omega) (by omega)).mp h80
        refine s_iload_n (pc := 88) (i := 3) dX12_heaviest_88 rfl rfl ?_
        refine s_goto (pc := 89) (tgt := 98) dX12_heaviest_89 rfl ?_
        refine s_ireturn (pc := 98) dX12_heaviest_98 rfl rfl ?_
        exact hq'
      · have h80 : ¬ q = 0 := fun z => h80 ((nI_eq (a := q) (b := 0) (by omega) (by omega)).mpr z)
        refine s_iload_n (pc := 83) (i := 3) dX12_heaviest_83 rfl rfl ?_
        refine m_ic (pc := 84) (v := -1) dX12_heaviest_84 rfl ?_
        refine s_icne (pc := 85) (tgt := 92) dX12_heaviest_85 rfl (fun h85 => absurd h85 (by decide)) (fun h85 => ?_)
        refine s_iload_n (pc := 88) (i := 3) dX12_heaviest_88 rfl rfl ?_
        refine s_goto (pc := 89) (tgt := 98) dX12_heaviest_89 rfl ?_
        refine s_ireturn (pc := 98) dX12_heaviest_98 rfl rfl ?_
        exact hq'
    | some x =>
      have hx := mx1_lt _ _ e
      rw [e] at hq
      refine s_iload (pc := 40) (i := 4) dX12_heaviest_40 rfl ?_
      refine s_aload_n (pc := 42) (i := 0) dX12_heaviest_42 rfl rfl ?_
      refine m_gi (pc := 43) dX12_heaviest_43 ff_X12_157 rfl o_534 ?_
      refine m_nm (v' := nI (cc D)) (hV.1.2.1) ?_
      refine s_icge (pc := 46) (tgt := 79) dX12_heaviest_46 rfl (fun h46 => ?_) (fun h46 => absurd (nI_le (a := cc D) (b := cc D) (by omega) (by omega)) h46)
      refine s_iload_n (pc := 79) (i := 2) dX12_heaviest_79 rfl rfl ?_
      refine s_ifeq (pc := 80) (tgt := 88) dX12_heaviest_80 rfl (fun h80 => ?_) (fun h80 => ?_)
      · have h80 : q = 0 := (nI_eq (a := q) (b := 0) (by omega) (by omega)).mp h80
        refine s_iload_n (pc := 88) (i := 3) dX12_heaviest_88 rfl rfl ?_
        refine s_goto (pc := 89) (tgt := 98) dX12_heaviest_89 rfl ?_
        refine s_ireturn (pc := 98) dX12_heaviest_98 rfl rfl ?_
        have E : vPk (ob (some x), ob ((some x).map (fun c => bur D cs S b c 0))) q = nI x := if_pos h80
        rw [E] at hq; exact hq I1 hF
      · have h80 : ¬ q = 0 := fun z => h80 ((nI_eq (a := q) (b := 0) (by omega) (by omega)).mpr z)
        refine s_iload_n (pc := 83) (i := 3) dX12_heaviest_83 rfl rfl ?_
        refine m_ic (pc := 84) (v := -1) dX12_heaviest_84 rfl ?_
        refine s_icne (pc := 85) (tgt := 92) dX12_heaviest_85 rfl (fun h85 => ?_) (fun h85 => absurd h85 (nI_m1 (by omega)))
        refine s_aload_n (pc := 92) (i := 0) dX12_heaviest_92 rfl rfl ?_
        refine s_iload_n (pc := 93) (i := 1) dX12_heaviest_93 rfl rfl ?_
        refine s_iload_n (pc := 94) (i := 3) dX12_heaviest_94 rfl rfl ?_
        refine m_v2 (pc := 95) dX12_heaviest_95 lk_X12_348 ok_X12_burdenBy (rcO o_534 (by decide) rfl) rfl rfl (c_X12_burdenBy hV hb hx (fun I2 f2 => kt_s ?_))
        refine s_ireturn (pc := 98) dX12_heaviest_98 rfl rfl ?_
        have E : vPk (ob (some x), ob ((some x).map (fun c => bur D cs S b c 0))) q = nI (bur D cs S b x 0) := if_neg h80
        rw [E] at hq; exact hq I2 (fm_t hF f2)
  | succ f ih =>
    intro i I1 hi hF
    have hV := Wm_fm hM hF
    cases e : mx1 (fun c => bur D cs S b c 0) i with
    | none =>
      refine s_iload (pc := 40) (i := 4) dX12_heaviest_40 rfl ?_
      refine s_aload_n (pc := 42) (i := 0) dX12_heaviest_42 rfl rfl ?_
      refine m_gi (pc := 43) dX12_heaviest_43 ff_X12_157 rfl o_534 ?_
      refine m_nm (v' := nI (cc D)) (hV.1.2.1) ?_
      refine s_icge (pc := 46) (tgt := 79) dX12_heaviest_46 rfl (fun h46 => absurd h46 (nI_ge (a := i) (b := cc D) (by omega) (by omega))) (fun h46 => ?_)
      refine s_iload_n (pc := 49) (i := 3) dX12_heaviest_49 rfl rfl ?_
      refine m_ic (pc := 50) (v := -1) dX12_heaviest_50 rfl ?_
      refine s_iceq (pc := 51) (tgt := 70) dX12_heaviest_51 rfl (fun h51 => ?_) (fun h51 => absurd h51 (by decide))
      refine s_iload (pc := 70) (i := 4) dX12_heaviest_70 rfl ?_
      refine s_istore_n (pc := 72) (i := 3) dX12_heaviest_72 rfl (Nat.le_of_ble_eq_true rfl) ?_
      dsimp only [List.set, List.filter]
      refine m_inc (pc := 73) (v := 1) dX12_heaviest_73 rfl rfl ?_
      dsimp only [List.set, List.filter]
      rw [nI_1]
      refine s_goto (pc := 76) (tgt := 40) dX12_heaviest_76 rfl ?_
      have h := ih (i + 1) I1 (by omega) hF
      rw [mx1, e] at h; exact h
    | some x =>
      have hx := mx1_lt _ _ e
      have hT1 := bur_le (D := D) (cs := cs) (S := S) (b := b) (c := i) (k := 0) hM.2.1 (by omega)
      have hT2 := bur_le (D := D) (cs := cs) (S := S) (b := b) (c := x) (k := 0) hM.2.1 (by omega)
      refine s_iload (pc := 40) (i := 4) dX12_heaviest_40 rfl ?_
      refine s_aload_n (pc := 42) (i := 0) dX12_heaviest_42 rfl rfl ?_
      refine m_gi (pc := 43) dX12_heaviest_43 ff_X12_157 rfl o_534 ?_
      refine m_nm (v' := nI (cc D)) (hV.1.2.1) ?_
      refine s_icge (pc := 46) (tgt := 79) dX12_heaviest_46 rfl (fun h46 => absurd h46 (nI_ge (a := i) (b := cc D) (by omega) (by omega))) (fun h46 => ?_)
      refine s_iload_n (pc := 49) (i := 3) dX12_heaviest_49 rfl rfl ?_
      refine m_ic (pc := 50) (v := -1) dX12_heaviest_50 rfl ?_
      refine s_iceq (pc := 51) (tgt := 70) dX12_heaviest_51 rfl (fun h51 => absurd h51 (nI_m1 (by omega))) (fun h51 => ?_)
      refine s_aload_n (pc := 54) (i := 0) dX12_heaviest_54 rfl rfl ?_
      refine s_iload_n (pc := 55) (i := 1) dX12_heaviest_55 rfl rfl ?_
      refine s_iload (pc := 56) (i := 4) dX12_heaviest_56 rfl ?_
      refine m_v2 (pc := 58) dX12_heaviest_58 lk_X12_348 ok_X12_burdenBy (rcO o_534 (by decide) rfl) rfl rfl (c_X12_burdenBy hV hb (by omega) (fun I2 f2 => kt_s ?_))
      refine s_aload_n (pc := 61) (i := 0) dX12_heaviest_61 rfl rfl ?_
      refine s_iload_n (pc := 62) (i := 1) dX12_heaviest_62 rfl rfl ?_
      refine s_iload_n (pc := 63) (i := 3) dX12_heaviest_63 rfl rfl ?_
      refine m_v2 (pc := 64) dX12_heaviest_64 lk_X12_348 ok_X12_burdenBy (rcO o_534 (by decide) rfl) rfl rfl (c_X12_burdenBy (Wm_fm hV f2) hb (by omega) (fun I3 f3 => kt_s ?_))
      refine s_icle (pc := 67) (tgt := 73) dX12_heaviest_67 rfl (fun h67 => ?_) (fun h67 => ?_)
      · have h67 : (bur D cs S b i 0) ≤ (bur D cs S b x 0) := (nI_leI (a := bur D cs S b i 0) (b := bur D cs S b x 0) (by omega) (by omega)).mp h67
        refine m_inc (pc := 73) (v := 1) dX12_heaviest_73 rfl rfl ?_
        dsimp only [List.set, List.filter]
        rw [nI_1]
        refine s_goto (pc := 76) (tgt := 40) dX12_heaviest_76 rfl ?_
        have h := ih (i + 1) I3 (by omega) (fm_t hF (fm_t f2 f3))
        rw [mx1, e] at h; simp only [] at h; rw [if_neg (by omega)] at h; exact h
      · have h67 : ¬ (bur D cs S b i 0) ≤ (bur D cs S b x 0) := fun z => h67 ((nI_leI (a := bur D cs S b i 0) (b := bur D cs S b x 0) (by omega) (by omega)).mpr z)
        refine s_iload (pc := 70) (i := 4) dX12_heaviest_70 rfl ?_
        refine s_istore_n (pc := 72) (i := 3) dX12_heaviest_72 rfl (Nat.le_of_ble_eq_true rfl) ?_
        dsimp only [List.set, List.filter]
        refine m_inc (pc := 73) (v := 1) dX12_heaviest_73 rfl rfl ?_
        dsimp only [List.set, List.filter]
        rw [nI_1]
        refine s_goto (pc := 76) (tgt := 40) dX12_heaviest_76 rfl ?_
        have h := ih (i + 1) I3 (by omega) (fm_t hF (fm_t f2 f3))
        rw [mx1, e] at h; simp only [] at h; rw [if_pos (by omega)] at h; exact h
theorem c_X12_heaviest (hW : Wn I D cs S) {x y : Int32} (r0 : ¬ iv 0 (cb D) x → Q (.inl (some (.int 0))) (Z (thr I 1 0) J n w)) (r1 : iv 0 (cb D) x → ¬ iv 0 (2) y → Q (.inl (some (.int 0))) (Z (thr I 2 1) J n w)) (hg : ∀ b, ∀ q, x = nI b → b < cb D → y = nI q → q < 2 → ∀ I', km I I' → I' 534 0 = 0 → Q (.inl (some (.int (vPk (mxr (fun c => nI (bur D cs S b c 0)) (cc D)) q)))) (Z I' J n w)) : Cn g (d + 7) mX12_heaviest [.ref 534, .int x, .int y] (Z I J n w) Q := by
  have hb7 := hW.2.1.1
  have hc12 := hW.2.1.2.1
  show Rn g (d + 7) mX12_heaviest 0 [.ref 534, .int x, .int y, .retAddr 0, .retAddr 0] [] [] (Z I J n w) Q
  refine s_aload_n (pc := 0) (i := 0) dX12_heaviest_0 rfl rfl ?_
  refine m_ic (pc := 1) (v := 0) dX12_heaviest_1 rfl ?_
  refine m_pi (pc := 2) dX12_heaviest_2 ff_X12_3 rfl rfl o_534 ?_
  refine s_aload_n (pc := 5) (i := 0) dX12_heaviest_5 rfl rfl ?_
  refine s_iload_n (pc := 6) (i := 1) dX12_heaviest_6 rfl rfl ?_
  refine m_ic (pc := 7) (v := 1) dX12_heaviest_7 rfl ?_
  refine m_v2 (pc := 8) dX12_heaviest_8 lk_X12_385 ok_X12_isBack (rcO o_534 (by decide) rfl) rfl rfl (c_X12_isBack (D := D) up_s ((up_n3 (by omega)).trans hW.1.1) hW.2.1 (by decide) (fun b eb hb => kt_s ?_) (fun z => kt_s ?_))
  · subst eb
    refine s_ifeq (pc := 11) (tgt := 29) dX12_heaviest_11 rfl (fun h11 => absurd h11 (by decide)) (fun h11 => ?_)
    refine s_aload_n (pc := 14) (i := 0) dX12_heaviest_14 rfl rfl ?_
    refine s_iload_n (pc := 15) (i := 2) dX12_heaviest_15 rfl rfl ?_
    refine m_ic (pc := 16) (v := 0) dX12_heaviest_16 rfl ?_
    refine m_ic (pc := 17) (v := 1) dX12_heaviest_17 rfl ?_
    refine m_s3 (pc := 18) dX12_heaviest_18 lk_X12_373 ok_X12_within rfl rfl (c_win (lo := 0) (m := 2) rfl rfl (by omega) (fun q eq lq hq => kt_s ?_) (fun z => kt_s ?_))
    · subst eq
      refine m_ic (pc := 21) (v := 2) dX12_heaviest_21 rfl ?_
      refine m_ic (pc := 22) (v := 1) dX12_heaviest_22 rfl ?_
      refine m_v3 (pc := 23) dX12_heaviest_23 lk_X12_192 ok_X12_may (rcO o_534 (by decide) rfl) rfl rfl (c_may1 (k := 1) (by decide) rfl up_s (by decide) (kt_s ?_))
      · refine s_ifne (pc := 26) (tgt := 31) dX12_heaviest_26 rfl (fun h26 => ?_) (fun h26 => absurd h26 (by decide))
        refine s_aload_n (pc := 31) (i := 0) dX12_heaviest_31 rfl rfl ?_
        refine m_v0 (pc := 32) dX12_heaviest_32 lk_X12_310 ok_X12_take (rcO o_534 (by decide) rfl) rfl rfl (c_X12_take (kt_v ?_))
        have hM := tk_W hW
        have hK := tk_k (I := I)
        have h00 := tk_0 (I := I)
        obtain ⟨I1, e1⟩ : ∃ z, z = cpI (up I 534 0 0) 549 550 126 := ⟨_, rfl⟩
        rw [← e1] at hM hK h00 ⊢
        refine m_ic (pc := 35) (v := -1) dX12_heaviest_35 rfl ?_
        refine s_istore_n (pc := 36) (i := 3) dX12_heaviest_36 rfl (Nat.le_of_ble_eq_true rfl) ?_
        dsimp only [List.set, List.filter]
        refine m_ic (pc := 37) (v := 0) dX12_heaviest_37 rfl ?_
        refine s_istore (pc := 38) (i := 4) dX12_heaviest_38 (Nat.le_of_ble_eq_true rfl) ?_
        dsimp only [List.set, List.filter]
        exact mhe_lp hM hb hq (fun I' f => hg b q rfl hb rfl hq I' (km_t hK (km_m f)) ((fm_0 f).trans h00)) (cc D) 0 I1 (by omega) fm_r
    · refine m_ic (pc := 21) (v := 2) dX12_heaviest_21 rfl ?_
      refine m_ic (pc := 22) (v := 1) dX12_heaviest_22 rfl ?_
      refine m_v3 (pc := 23) dX12_heaviest_23 lk_X12_192 ok_X12_may (rcO o_534 (by decide) rfl) rfl rfl (c_may0 (k := 1) (by decide) rfl up_s (by decide) (kt_s ?_))
      · refine s_ifne (pc := 26) (tgt := 31) dX12_heaviest_26 rfl (fun h26 => absurd h26 (by decide)) (fun h26 => ?_)
        refine m_ic (pc := 29) (v := 0) dX12_heaviest_29 rfl ?_
        refine s_ireturn (pc := 30) dX12_heaviest_30 rfl rfl ?_
        rw [thr_0]
        exact r1 ⟨b, rfl, Nat.zero_le _, hb⟩ z
  · refine s_ifeq (pc := 11) (tgt := 29) dX12_heaviest_11 rfl (fun h11 => ?_) (fun h11 => absurd h11 (by decide))
    refine m_ic (pc := 29) (v := 0) dX12_heaviest_29 rfl ?_
    refine s_ireturn (pc := 30) dX12_heaviest_30 rfl rfl ?_
    rw [thr_0]
    exact r0  z
end S
