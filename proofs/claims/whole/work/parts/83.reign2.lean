section S
variable {g : aG} {d : Nat} {I : Nat → Nat → Int32} {J : Nat → Nat → Int64} {n w : Nat} {Q : aO → aS → Prop}
variable {σ : aS} {S : sD} {D : cD} {cs : List Nat} {b c k : Nat} {I0 : Nat → Nat → Int32} {S0 : sD}
theorem c_X7_tellByChance {R : rD} {q : Nat} (hR : RK I0 I D cs S0 R) (hb : 0 < cb D) (hq16 : q ≤ 16) (hq : ∀ I', RK I0 I' D cs S0 (hlf2 D q R) → Q (.inl none) (Z I' J n w)) : Cn g (d + 3) mX7_tellByChance [.ref 526, .int (nI q)] (Z I J n w) Q := by
  have hb7 := hR.2.1.2.1.1
  have m0 := Nat.mod_lt (dw (nxs R.1)) (show 0 < 16 by decide)
  have m1 := Nat.mod_lt (dw (nxs (nxs R.1))) hb
  have m2 := Nat.mod_lt (dw (nxs (nxs (nxs R.1)))) hb
  have hO := hlf2_ok (q := q) hb hR.2.2.2.2
  show Rn g (d + 3) mX7_tellByChance 0 [.ref 526, .int (nI q), .retAddr 0, .retAddr 0] [] [] (Z I J n w) Q
  refine s_aload_n (pc := 0) (i := 0) dX7_tellByChance_0 rfl rfl ?_
  refine m_bi (pc := 1) (v := 16) dX7_tellByChance_1 rfl ?_
  refine m_v1 (pc := 3) dX7_tellByChance_3 lk_X7_57 ok_X7_draw (rcO o_526 (by decide) rfl) rfl rfl (c_X7_draw (m := 16) hR.2.2.1 (by decide) (by decide) (kt_s ?_))
  · refine s_iload_n (pc := 6) (i := 1) dX7_tellByChance_6 rfl rfl ?_
    refine s_iclt (pc := 7) (tgt := 11) dX7_tellByChance_7 rfl (fun h7 => ?_) (fun h7 => ?_)
    · have h7 : (dw (nxs R.1) % 16) < q := (nI_ltI (a := dw (nxs R.1) % 16) (b := q) (by omega) (by omega)).mp h7
      refine s_aload_n (pc := 11) (i := 0) dX7_tellByChance_11 rfl rfl ?_
      refine s_aload_n (pc := 12) (i := 0) dX7_tellByChance_12 rfl rfl ?_
      refine m_gr (pc := 13) dX7_tellByChance_13 ff_X7_18 rfl o_526 r_526_0 ?_
      refine m_gr (pc := 16) dX7_tellByChance_16 ff_X7_33 rfl o_31 r_31_0 ?_
      refine m_gi (pc := 19) dX7_tellByChance_19 ff_X7_39 rfl o_4 ?_
      refine m_nm (v' := nI (cb D)) ((up_a (by decide)).trans hR.2.1.1.1) ?_
      refine m_v1 (pc := 22) dX7_tellByChance_22 lk_X7_57 ok_X7_draw (rcO o_526 (by decide) rfl) rfl rfl (c_X7_draw (x := nxs R.1) up_s hb (by omega) (kt_s ?_))
      · refine s_istore_n (pc := 25) (i := 2) dX7_tellByChance_25 rfl (Nat.le_of_ble_eq_true rfl) ?_
        dsimp only [List.set, List.filter]
        refine s_aload_n (pc := 26) (i := 0) dX7_tellByChance_26 rfl rfl ?_
        refine s_aload_n (pc := 27) (i := 0) dX7_tellByChance_27 rfl rfl ?_
        refine m_gr (pc := 28) dX7_tellByChance_28 ff_X7_18 rfl o_526 r_526_0 ?_
        refine m_gr (pc := 31) dX7_tellByChance_31 ff_X7_33 rfl o_31 r_31_0 ?_
        refine m_gi (pc := 34) dX7_tellByChance_34 ff_X7_39 rfl o_4 ?_
        refine m_nm (v' := nI (cb D)) ((up_a (by decide)).trans ((up_a (by decide)).trans hR.2.1.1.1)) ?_
        refine m_v1 (pc := 37) dX7_tellByChance_37 lk_X7_57 ok_X7_draw (rcO o_526 (by decide) rfl) rfl rfl (c_X7_draw (x := nxs (nxs R.1)) up_s hb (by omega) (kt_s ?_))
        · obtain ⟨I2, e2⟩ : ∃ z, z = up (up (up I 526 2 (nxs R.1)) 526 2 (nxs (nxs R.1))) 526 2 (nxs (nxs (nxs R.1))) := ⟨_, rfl⟩
          rw [← e2]
          have W2 : Wc I2 527 D cs R.2.2 := Wc_5 hR.2.1 (fun x j z => by rw [e2, up_a z, up_a z, up_a z])
          have F2 : fR I0 I2 := by rw [e2]; exact fR_u (fR_u (fR_u hR.1))
          have hS : I2 526 2 = nxs (nxs (nxs R.1)) := by rw [e2, up_s]
          have hB : I2 526 3 = nI R.2.1 := by rw [e2, up_k (by decide), up_k (by decide), up_k (by decide)]; exact hR.2.2.2.1
          refine s_istore_n (pc := 40) (i := 3) dX7_tellByChance_40 rfl (Nat.le_of_ble_eq_true rfl) ?_
          dsimp only [List.set, List.filter]
          refine s_aload_n (pc := 41) (i := 0) dX7_tellByChance_41 rfl rfl ?_
          refine m_gr (pc := 42) dX7_tellByChance_42 ff_X7_12 rfl o_526 r_526_1 ?_
          refine s_iload_n (pc := 45) (i := 2) dX7_tellByChance_45 rfl rfl ?_
          refine s_iload_n (pc := 46) (i := 3) dX7_tellByChance_46 rfl rfl ?_
          refine m_v2 (pc := 47) dX7_tellByChance_47 lk_X7_69 ok_X9_tell (rcO o_527 (by decide) rfl) rfl rfl (c_X9_tell sO_527 W2.2.2.2.2.1 (by omega) (by omega) (fun x y z u => (W2.2.2.2.2.2.2.1 x y z u).1) (fun h => kt_s ?_) (fun I1 h f1 s1 => kt_s ?_))
          · have E : hlf2 D q R = (nxs (nxs (nxs R.1)), R.2.1, R.2.2) := by unfold hlf2; rw [if_pos h7, if_neg (by rw [h]; decide)]
            rw [E] at hO hq
            refine s_pop (pc := 50) dX7_tellByChance_50 rfl ?_
            refine s_return (pc := 51) dX7_tellByChance_51 rfl ?_
            exact hq _ ⟨F2, W2, hS, hB, hO⟩
          · have E : hlf2 D q R = (nxs (nxs (nxs R.1)), R.2.1, tol R.2.2 (dw (nxs (nxs R.1)) % cb D) (dw (nxs (nxs (nxs R.1))) % cb D) 12) := by unfold hlf2; rw [if_pos h7, if_pos h]
            rw [E] at hO hq
            refine s_pop (pc := 50) dX7_tellByChance_50 rfl ?_
            refine s_return (pc := 51) dX7_tellByChance_51 rfl ?_
            exact hq _ ⟨fR_t F2 (fR_s (fS_o f1)), Wc_fS W2 (by decide) (fS_o f1) s1 hO.1, (f1 526 2 (by omega)).trans hS, (f1 526 3 (by omega)).trans hB, hO⟩
    · have h7 : ¬ (dw (nxs R.1) % 16) < q := fun z => h7 ((nI_ltI (a := dw (nxs R.1) % 16) (b := q) (by omega) (by omega)).mpr z)
      refine s_return (pc := 10) dX7_tellByChance_10 rfl ?_
      have E : hlf2 D q R = (nxs R.1, R.2.1, R.2.2) := by unfold hlf2; rw [if_neg h7]
      rw [E] at hO hq
      exact hq _ ⟨fR_u hR.1, Wc_5 hR.2.1 (fun x j z => up_a z), up_s, (up_k (by decide)).trans hR.2.2.2.1, hO⟩
theorem day_n {R : rD} {q : Nat} (hb : 0 < cb D) (hc : 0 < cc D) : dayR D cs q R = ((hlf2 D q (hlf1 D cs (hlf2 D q (hlf1 D cs R)))).1, (hlf2 D q (hlf1 D cs (hlf2 D q (hlf1 D cs R)))).2.1, pss D (hlf2 D q (hlf1 D cs (hlf2 D q (hlf1 D cs R)))).2.2) := by
  unfold dayR hlf; rw [if_pos ⟨hb, hc⟩, if_pos ⟨hb, hc⟩]
theorem day_e {R : rD} {q : Nat} (h : ¬ (0 < cb D ∧ 0 < cc D)) : dayR D cs q R = (R.1, R.2.1, pss D R.2.2) := by
  unfold dayR hlf; rw [if_neg h, if_neg h]
theorem hlf_n {R : rD} {q : Nat} (hb : 0 < cb D) (hc : 0 < cc D) : hlf D cs q R = hlf2 D q (hlf1 D cs R) := if_pos ⟨hb, hc⟩
theorem hlf_e {R : rD} {q : Nat} (h : ¬ (0 < cb D ∧ 0 < cc D)) : hlf D cs q R = R := if_neg h
theorem RK_day {I9 : Nat → Nat → Int32} {X : rD} (hR : RK I0 I D cs S0 X) (f9 : ∀ x j, (x < 527 ∨ 527 + 6 < x) → I9 x j = I x j) (s9 : Sc I9 527 (pss D X.2.2)) (hO : rOk D S0 (X.1, X.2.1, pss D X.2.2)) : RK I0 I9 D cs S0 (X.1, X.2.1, pss D X.2.2) := ⟨fR_t hR.1 (fR_s (fS_o f9)), Wc_fS hR.2.1 (by decide) (fS_o f9) s9 (sOk_pss hR.2.2.2.2.1), (f9 526 2 (by omega)).trans hR.2.2.1, (f9 526 3 (by omega)).trans hR.2.2.2.1, hO⟩
theorem day_h {R : rD} {q : Nat} : dayR D cs q R = ((hlf D cs q (hlf D cs q R)).1, (hlf D cs q (hlf D cs q R)).2.1, pss D (hlf D cs q (hlf D cs q R)).2.2) := rfl
theorem run_h {q m i : Nat} {x : Int32} {e7 : Int32} {R : rD} (hb : 0 < cb D) (hc : 0 < cc D) (hq16 : q ≤ 16) (hR : RK I0 I D cs S0 R) (kk : ∀ I', RK I0 I' D cs S0 (hlf D cs q R) → Rn g (d + 6) mX7_run 84 [.ref 526, .ref 33, .int x, .int (nI q), .int (nI m), .int 0, .int (nI i), .int e7] [] [] (Z I' J n w) Q) : Rn g (d + 6) mX7_run 75 [.ref 526, .ref 33, .int x, .int (nI q), .int (nI m), .int 0, .int (nI i), .int e7] [] [] (Z I J n w) Q := by
  rw [hlf_n hb hc] at kk
  refine s_aload_n (pc := 75) (i := 0) dX7_run_75 rfl rfl ?_
  refine m_v0 (pc := 76) dX7_run_76 lk_X7_47 ok_X7_bearOrRest (rcO o_526 (by decide) rfl) rfl rfl (c_X7_bearOrRest hR hb hc (fun I8 hR => kt_v ?_))
  refine s_aload_n (pc := 79) (i := 0) dX7_run_79 rfl rfl ?_
  refine s_iload_n (pc := 80) (i := 3) dX7_run_80 rfl rfl ?_
  refine m_v1 (pc := 81) dX7_run_81 lk_X7_50 ok_X7_tellByChance (rcO o_526 (by decide) rfl) rfl rfl (c_X7_tellByChance hR hb hq16 (fun I9 hR => kt_v ?_))
  exact kk I9 hR
theorem run_n {q m : Nat} {x : Int32} (hb : 0 < cb D) (hc : 0 < cc D) (hk : cOk D) (hq16 : q ≤ 16) (hm : m ≤ 48) : ∀ f i I (R : rD) (v7 : Value), i + f = m → RK I0 I D cs S0 R → (∀ I', RK I0 I' D cs S0 (rgn D cs q f R) → Q (.inl none) (Z I' J n w)) → Rn g (d + 6) mX7_run 54 [.ref 526, .ref 33, .int x, .int (nI q), .int (nI m), .int 0, .int (nI i), v7] [] [] (Z I J n w) Q := by
  intro f
  induction f with
  | zero =>
    intro i I R v7 hi hR hq
    have e : m = i := by omega
    subst e
    refine s_iload (pc := 54) (i := 6) dX7_run_54 rfl ?_
    refine s_iload (pc := 56) (i := 4) dX7_run_56 rfl ?_
    refine s_icge (pc := 58) (tgt := 107) dX7_run_58 rfl (fun h58 => ?_) (fun h58 => absurd (nI_le (a := m) (b := m) (by omega) (by omega)) h58)
    refine s_return (pc := 107) dX7_run_107 rfl ?_
    exact hq I hR
  | succ f ih =>
    intro i I R v7 hi hR hq
    have hO := dayR_ok (cs := cs) (q := q) hk hR.2.2.2.2
    refine s_iload (pc := 54) (i := 6) dX7_run_54 rfl ?_
    refine s_iload (pc := 56) (i := 4) dX7_run_56 rfl ?_
    refine s_icge (pc := 58) (tgt := 107) dX7_run_58 rfl (fun h58 => absurd h58 (nI_ge (a := i) (b := m) (by omega) (by omega))) (fun h58 => ?_)
    refine m_ic (pc := 61) (v := 0) dX7_run_61 rfl ?_
    refine s_istore (pc := 62) (i := 7) dX7_run_62 (Nat.le_of_ble_eq_true rfl) ?_
    dsimp only [List.set, List.filter]
    refine s_iload (pc := 64) (i := 7) dX7_run_64 rfl ?_
    refine m_ic (pc := 66) (v := 2) dX7_run_66 rfl ?_
    refine s_icge (pc := 67) (tgt := 90) dX7_run_67 rfl (fun h67 => absurd h67 (by decide)) (fun h67 => ?_)
    refine s_iload (pc := 70) (i := 5) dX7_run_70 rfl ?_
    refine s_ifne (pc := 72) (tgt := 90) dX7_run_72 rfl (fun h72 => absurd h72 (by decide)) (fun h72 => ?_)
    refine run_h hb hc hq16 hR (fun I9 hR => ?_)
    refine m_inc (pc := 84) (v := 1) dX7_run_84 rfl rfl ?_
    dsimp only [List.set, List.filter]
    rw [show (0 : Int32) + 1 = 1 from rfl]
    refine s_goto (pc := 87) (tgt := 64) dX7_run_87 rfl ?_
    refine s_iload (pc := 64) (i := 7) dX7_run_64 rfl ?_
    refine m_ic (pc := 66) (v := 2) dX7_run_66 rfl ?_
    refine s_icge (pc := 67) (tgt := 90) dX7_run_67 rfl (fun h67 => absurd h67 (by decide)) (fun h67 => ?_)
    refine s_iload (pc := 70) (i := 5) dX7_run_70 rfl ?_
    refine s_ifne (pc := 72) (tgt := 90) dX7_run_72 rfl (fun h72 => absurd h72 (by decide)) (fun h72 => ?_)
    refine run_h hb hc hq16 hR (fun I9 hR => ?_)
    refine m_inc (pc := 84) (v := 1) dX7_run_84 rfl rfl ?_
    dsimp only [List.set, List.filter]
    rw [show (1 : Int32) + 1 = 2 from rfl]
    refine s_goto (pc := 87) (tgt := 64) dX7_run_87 rfl ?_
    refine s_iload (pc := 64) (i := 7) dX7_run_64 rfl ?_
    refine m_ic (pc := 66) (v := 2) dX7_run_66 rfl ?_
    refine s_icge (pc := 67) (tgt := 90) dX7_run_67 rfl (fun h67 => ?_) (fun h67 => absurd h67 (by decide))
    refine s_aload_n (pc := 90) (i := 0) dX7_run_90 rfl rfl ?_
    refine m_gr (pc := 91) dX7_run_91 ff_X7_18 rfl o_526 r_526_0 ?_
    refine s_aload_n (pc := 94) (i := 0) dX7_run_94 rfl rfl ?_
    refine m_gr (pc := 95) dX7_run_95 ff_X7_12 rfl o_526 r_526_1 ?_
    refine m_v1 (pc := 98) dX7_run_98 lk_X7_54 ok_X3_passDay (rcO o_31 (by decide) rfl) rfl rfl (c_X3_passDay (o := 527) sO_527 (by decide) hR.2.1 (fun I9 f9 s9 => kt_v ?_))
    refine m_inc (pc := 101) (v := 1) dX7_run_101 rfl rfl ?_
    dsimp only [List.set, List.filter]
    rw [nI_1]
    refine s_goto (pc := 104) (tgt := 54) dX7_run_104 rfl ?_
    exact ih (i + 1) I9 (dayR D cs q R) _ (by omega) (RK_day hR f9 s9 hO) hq
theorem run_e {q m : Nat} {x : Int32} (hne : ¬ (0 < cb D ∧ 0 < cc D)) (hk : cOk D) (hq16 : q ≤ 16) (hm : m ≤ 48) : ∀ f i I (R : rD) (v7 : Value), i + f = m → RK I0 I D cs S0 R → (∀ I', RK I0 I' D cs S0 (rgn D cs q f R) → Q (.inl none) (Z I' J n w)) → Rn g (d + 6) mX7_run 54 [.ref 526, .ref 33, .int x, .int (nI q), .int (nI m), .int 1, .int (nI i), v7] [] [] (Z I J n w) Q := by
  intro f
  induction f with
  | zero =>
    intro i I R v7 hi hR hq
    have e : m = i := by omega
    subst e
    refine s_iload (pc := 54) (i := 6) dX7_run_54 rfl ?_
    refine s_iload (pc := 56) (i := 4) dX7_run_56 rfl ?_
    refine s_icge (pc := 58) (tgt := 107) dX7_run_58 rfl (fun h58 => ?_) (fun h58 => absurd (nI_le (a := m) (b := m) (by omega) (by omega)) h58)
    refine s_return (pc := 107) dX7_run_107 rfl ?_
    exact hq I hR
  | succ f ih =>
    intro i I R v7 hi hR hq
    have hO := dayR_ok (cs := cs) (q := q) hk hR.2.2.2.2
    refine s_iload (pc := 54) (i := 6) dX7_run_54 rfl ?_
    refine s_iload (pc := 56) (i := 4) dX7_run_56 rfl ?_
    refine s_icge (pc := 58) (tgt := 107) dX7_run_58 rfl (fun h58 => absurd h58 (nI_ge (a := i) (b := m) (by omega) (by omega))) (fun h58 => ?_)
    refine m_ic (pc := 61) (v := 0) dX7_run_61 rfl ?_
    refine s_istore (pc := 62) (i := 7) dX7_run_62 (Nat.le_of_ble_eq_true rfl) ?_
    dsimp only [List.set, List.filter]
    refine s_iload (pc := 64) (i := 7) dX7_run_64 rfl ?_
    refine m_ic (pc := 66) (v := 2) dX7_run_66 rfl ?_
    refine s_icge (pc := 67) (tgt := 90) dX7_run_67 rfl (fun h67 => absurd h67 (by decide)) (fun h67 => ?_)
    refine s_iload (pc := 70) (i := 5) dX7_run_70 rfl ?_
    refine s_ifne (pc := 72) (tgt := 90) dX7_run_72 rfl (fun h72 => ?_) (fun h72 => absurd h72 (by decide))
    refine s_aload_n (pc := 90) (i := 0) dX7_run_90 rfl rfl ?_
    refine m_gr (pc := 91) dX7_run_91 ff_X7_18 rfl o_526 r_526_0 ?_
    refine s_aload_n (pc := 94) (i := 0) dX7_run_94 rfl rfl ?_
    refine m_gr (pc := 95) dX7_run_95 ff_X7_12 rfl o_526 r_526_1 ?_
    refine m_v1 (pc := 98) dX7_run_98 lk_X7_54 ok_X3_passDay (rcO o_31 (by decide) rfl) rfl rfl (c_X3_passDay (o := 527) sO_527 (by decide) hR.2.1 (fun I9 f9 s9 => kt_v ?_))
    refine m_inc (pc := 101) (v := 1) dX7_run_101 rfl rfl ?_
    dsimp only [List.set, List.filter]
    rw [nI_1]
    refine s_goto (pc := 104) (tgt := 54) dX7_run_104 rfl ?_
    refine ih (i + 1) I9 (dayR D cs q R) _ (by omega) ?_ hq
    rw [day_e hne]
    rw [day_e hne] at hO
    exact RK_day hR f9 s9 hO
theorem c_X7_run {q m : Nat} {x : Int32} (hW : Wc I 33 D cs S) (hq16 : q ≤ 16) (hm : m ≤ 48) (hq : ∀ I', fR I I' → (∃ I0, RK I0 I' D cs S (rgn D cs q m (x, 0, S))) → Q (.inl none) (Z I' J n w)) : Cn g (d + 6) mX7_run [.ref 526, .ref 33, .int x, .int (nI q), .int (nI m)] (Z I J n w) Q := by
  have hb7 := hW.2.1.1
  have hc12 := hW.2.1.2.1
  show Rn g (d + 6) mX7_run 0 [.ref 526, .ref 33, .int x, .int (nI q), .int (nI m), .retAddr 0, .retAddr 0, .retAddr 0] [] [] (Z I J n w) Q
  refine s_aload_n (pc := 0) (i := 0) dX7_run_0 rfl rfl ?_
  refine m_gr (pc := 1) dX7_run_1 ff_X7_12 rfl o_526 r_526_1 ?_
  refine s_aload_n (pc := 4) (i := 1) dX7_run_4 rfl rfl ?_
  refine m_v1 (pc := 5) dX7_run_5 lk_X7_22 ok_X9_copyFrom (rcO o_527 (by decide) rfl) rfl rfl (c_X9_copyFrom (o := 527) (q := 33) sO_527 sO_33 (by omega) (kt_v ?_))
  · refine s_aload_n (pc := 8) (i := 0) dX7_run_8 rfl rfl ?_
    refine s_iload_n (pc := 9) (i := 2) dX7_run_9 rfl rfl ?_
    refine m_pi (pc := 10) dX7_run_10 ff_X7_26 rfl rfl o_526 ?_
    refine s_aload_n (pc := 13) (i := 0) dX7_run_13 rfl rfl ?_
    refine m_ic (pc := 14) (v := 0) dX7_run_14 rfl ?_
    refine m_pi (pc := 15) dX7_run_15 ff_X7_30 rfl rfl o_526 ?_
    obtain ⟨I3, e3⟩ : ∃ z, z = up (up (cqS I 33 527) 526 2 x) 526 3 0 := ⟨_, rfl⟩
    rw [← e3]
    have F3 : fR I I3 := fun y j z1 z2 z3 => by rw [e3, up_a (by omega), up_a (by omega), cq_out (by omega)]
    have R3 : RK I3 I3 D cs S (x, 0, S) := ⟨fR_r, ⟨Co_fr hW.1 (fun y j z1 z2 => F3 y j (by omega) (by omega) (by omega)), hW.2.1, Lw_fr hW.2.2.1 (fun y j z1 z2 => F3 y j (by omega) (by omega) (by omega)), hW.2.2.2.1, Sc_fr (cq_in (o := 527) hW.2.2.2.2.1) (fun y j z1 z2 => by rw [e3, up_a (by omega), up_a (by omega)]), hW.2.2.2.2.2⟩, by rw [e3, up_k (by decide), up_s], by rw [e3, up_s]; rfl, rOk_0 hW.2.2.2.2.2⟩
    refine s_aload_n (pc := 18) (i := 0) dX7_run_18 rfl rfl ?_
    refine m_gr (pc := 19) dX7_run_19 ff_X7_18 rfl o_526 r_526_0 ?_
    refine m_gr (pc := 22) dX7_run_22 ff_X7_33 rfl o_31 r_31_0 ?_
    refine m_gi (pc := 25) dX7_run_25 ff_X7_39 rfl o_4 ?_
    refine m_nm (v' := nI (cb D)) (R3.2.1.1.1) ?_
    refine s_ifeq (pc := 28) (tgt := 44) dX7_run_28 rfl (fun h28 => ?_) (fun h28 => ?_)
    · have h28 : (cb D) = 0 := (nI_eq (a := cb D) (b := 0) (by omega) (by omega)).mp h28
      refine m_ic (pc := 44) (v := 1) dX7_run_44 rfl ?_
      refine s_goto (pc := 45) (tgt := 49) dX7_run_45 rfl ?_
      refine s_istore (pc := 49) (i := 5) dX7_run_49 (Nat.le_of_ble_eq_true rfl) ?_
      dsimp only [List.set, List.filter]
      refine m_ic (pc := 51) (v := 0) dX7_run_51 rfl ?_
      refine s_istore (pc := 52) (i := 6) dX7_run_52 (Nat.le_of_ble_eq_true rfl) ?_
      dsimp only [List.set, List.filter]
      exact run_e (by omega) hW.2.1 hq16 hm m 0 I3 (x, 0, S) _ (by omega) R3 (fun I' h => hq I' (fR_t F3 h.1) ⟨_, h⟩)
    · have h28 : ¬ (cb D) = 0 := fun z => h28 ((nI_eq (a := cb D) (b := 0) (by omega) (by omega)).mpr z)
      refine s_aload_n (pc := 31) (i := 0) dX7_run_31 rfl rfl ?_
      refine m_gr (pc := 32) dX7_run_32 ff_X7_18 rfl o_526 r_526_0 ?_
      refine m_gr (pc := 35) dX7_run_35 ff_X7_33 rfl o_31 r_31_0 ?_
      refine m_gi (pc := 38) dX7_run_38 ff_X7_44 rfl o_4 ?_
      refine m_nm (v' := nI (cc D)) (R3.2.1.1.2.1) ?_
      refine s_ifne (pc := 41) (tgt := 48) dX7_run_41 rfl (fun h41 => ?_) (fun h41 => ?_)
      · have h41 : ¬ (cc D) = 0 := fun z => h41 ((nI_eq (a := cc D) (b := 0) (by omega) (by omega)).mpr z)
        refine m_ic (pc := 48) (v := 0) dX7_run_48 rfl ?_
        refine s_istore (pc := 49) (i := 5) dX7_run_49 (Nat.le_of_ble_eq_true rfl) ?_
        dsimp only [List.set, List.filter]
        refine m_ic (pc := 51) (v := 0) dX7_run_51 rfl ?_
        refine s_istore (pc := 52) (i := 6) dX7_run_52 (Nat.le_of_ble_eq_true rfl) ?_
        dsimp only [List.set, List.filter]
        exact run_n (by omega) (by omega) hW.2.1 hq16 hm m 0 I3 (x, 0, S) _ (by omega) R3 (fun I' h => hq I' (fR_t F3 h.1) ⟨_, h⟩)
      · have h41 : (cc D) = 0 := (nI_eq (a := cc D) (b := 0) (by omega) (by omega)).mp h41
        refine m_ic (pc := 44) (v := 1) dX7_run_44 rfl ?_
        refine s_goto (pc := 45) (tgt := 49) dX7_run_45 rfl ?_
        refine s_istore (pc := 49) (i := 5) dX7_run_49 (Nat.le_of_ble_eq_true rfl) ?_
        dsimp only [List.set, List.filter]
        refine m_ic (pc := 51) (v := 0) dX7_run_51 rfl ?_
        refine s_istore (pc := 52) (i := 6) dX7_run_52 (Nat.le_of_ble_eq_true rfl) ?_
        dsimp only [List.set, List.filter]
        exact run_e (by omega) hW.2.1 hq16 hm m 0 I3 (x, 0, S) _ (by omega) R3 (fun I' h => hq I' (fR_t F3 h.1) ⟨_, h⟩)
end S
