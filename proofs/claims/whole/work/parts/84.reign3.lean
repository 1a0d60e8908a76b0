section S
variable {g : aG} {d : Nat} {I : Nat → Nat → Int32} {J : Nat → Nat → Int64} {n w : Nat} {Q : aO → aS → Prop}
variable {σ : aS} {S : sD} {D : cD} {cs : List Nat} {b c k : Nat} {I0 : Nat → Nat → Int32} {S0 : sD}
def fN (I I' : Nat → Nat → Int32) : Prop := ∀ x j, x ≠ 545 → x ≠ 546 → x ≠ 550 → (x ≠ 534 ∨ j ≠ 48) → I' x j = I x j
theorem fN_r : fN I I := fun _ _ _ _ _ _ => rfl
theorem fN_t {I' I'' : Nat → Nat → Int32} (h : fN I I') (h2 : fN I' I'') : fN I I'' := fun x j a b c e => (h2 x j a b c e).trans (h x j a b c e)
theorem fN_x {I' : Nat → Nat → Int32} (h : fX I I') : fN I I' := fun x j a b c _ => h x j a b c
theorem fN_u {I' : Nat → Nat → Int32} {v : Int32} (h : fN I I') : fN I (up I' 534 48 v) := fun x j a b c e => by rw [up_n3 (by omega)]; exact h x j a b c e
theorem km_N {I' : Nat → Nat → Int32} (h : fN I I') : km I I' := fun x j a => h x j (by unfold mS at a; omega) (by unfold mS at a; omega) (by unfold mS at a; omega) (by unfold mS at a; omega)
def NK (I0 I : Nat → Nat → Int32) (D : cD) (cs : List Nat) (S0 : sD) (R : rD) : Prop := fN I0 I ∧ Wm I D cs R.2.2 ∧ I 534 48 = R.1 ∧ rOk D S0 R
theorem Wm_48 {v : Int32} (h : Wm I D cs S) : Wm (up I 534 48 v) D cs S := ⟨Mo_fr h.1 (fun x j z => up_n3 (by omega)), h.2.1, Lq_fr h.2.2.1 (fun x j z => up_n3 (by omega)), h.2.2.2.1, Sm_fr h.2.2.2.2.1 (fun j _ => up_a (by decide)), h.2.2.2.2.2⟩
theorem mh_1 {q m : Nat} {x : Int32} {v5 v6 v7 : Value} {R : rD} (hb : 0 < cb D) (hc : 0 < cc D) (hR : NK I0 I D cs S0 R) (kk : ∀ I' (v5 v6 : Value), NK I0 I' D cs S0 (hlf1 D cs R) → Rn g (d + 7) mX12_reignGoes 72 [.ref 534, .int x, .int (nI q), .int (nI m), .int (nI k), v5, v6, v7] [] [] (Z I' J n w) Q) : Rn g (d + 7) mX12_reignGoes 34 [.ref 534, .int x, .int (nI q), .int (nI m), .int (nI k), v5, v6, v7] [] [] (Z I J n w) Q := by
  have hb7 := hR.2.1.2.1.1
  have hc12 := hR.2.1.2.1.2.1
  have m1 := Nat.mod_lt (dw (nxs R.1)) hb
  have m2 := Nat.mod_lt (dw (nxs (nxs R.1))) hc
  have hO := hlf1_ok (cs := cs) hR.2.1.2.1 hb hc hR.2.2.2
  refine s_aload_n (pc := 34) (i := 0) dX12_reignGoes_34 rfl rfl ?_
  refine s_aload_n (pc := 35) (i := 0) dX12_reignGoes_35 rfl rfl ?_
  refine m_gi (pc := 36) dX12_reignGoes_36 ff_X12_154 rfl o_534 ?_
  refine m_nm (v' := nI (cb D)) (hR.2.1.1.1) ?_
  refine m_v1 (pc := 39) dX12_reignGoes_39 lk_X12_450 ok_X12_draws (rcO o_534 (by decide) rfl) rfl rfl (c_X12_draws hR.2.2.1 hb (by omega) (kt_s ?_))
  · refine s_istore (pc := 42) (i := 5) dX12_reignGoes_42 (Nat.le_of_ble_eq_true rfl) ?_
    dsimp only [List.set, List.filter]
    refine s_aload_n (pc := 44) (i := 0) dX12_reignGoes_44 rfl rfl ?_
    refine s_aload_n (pc := 45) (i := 0) dX12_reignGoes_45 rfl rfl ?_
    refine m_gi (pc := 46) dX12_reignGoes_46 ff_X12_157 rfl o_534 ?_
    refine m_nm (v' := nI (cc D)) ((up_k (by decide)).trans hR.2.1.1.2.1) ?_
    refine m_v1 (pc := 49) dX12_reignGoes_49 lk_X12_450 ok_X12_draws (rcO o_534 (by decide) rfl) rfl rfl (c_X12_draws (x := nxs R.1) up_s hc (by omega) (kt_s ?_))
    · obtain ⟨I2, e2⟩ : ∃ z, z = up (up I 534 48 (nxs R.1)) 534 48 (nxs (nxs R.1)) := ⟨_, rfl⟩
      rw [← e2]
      have W2 : Wm I2 D cs R.2.2 := by rw [e2]; exact Wm_48 (Wm_48 hR.2.1)
      have F2 : fN I0 I2 := by rw [e2]; exact fN_u (fN_u hR.1)
      have hS : I2 534 48 = nxs (nxs R.1) := by rw [e2, up_s]
      refine s_istore (pc := 52) (i := 6) dX12_reignGoes_52 (Nat.le_of_ble_eq_true rfl) ?_
      dsimp only [List.set, List.filter]
      refine s_aload_n (pc := 54) (i := 0) dX12_reignGoes_54 rfl rfl ?_
      refine s_iload (pc := 55) (i := 5) dX12_reignGoes_55 rfl ?_
      refine s_iload (pc := 57) (i := 6) dX12_reignGoes_57 rfl ?_
      refine m_v2 (pc := 59) dX12_reignGoes_59 lk_X12_354 ok_X12_isSat (rcO o_534 (by decide) rfl) rfl rfl (c_X12_isSat W2 m1 m2 (fun h => kt_s ?_) (fun I1 h f1 s1 => kt_s ?_))
      · have E : hlf1 D cs R = (nxs (nxs R.1), R.2.1, if sT R.2.2 (dw (nxs R.1) % cb D) = 0 then R.2.2 else rst R.2.2 (dw (nxs R.1) % cb D)) := if_pos h
        rw [E] at hO kk
        refine s_ifne (pc := 62) (tgt := 72) dX12_reignGoes_62 rfl (fun h62 => absurd h62 (by decide)) (fun h62 => ?_)
        refine s_aload_n (pc := 65) (i := 0) dX12_reignGoes_65 rfl rfl ?_
        refine s_iload (pc := 66) (i := 5) dX12_reignGoes_66 rfl ?_
        refine m_v1 (pc := 68) dX12_reignGoes_68 lk_X12_364 ok_X12_isRested (rcO o_534 (by decide) rfl) rfl rfl (c_X12_isRested W2 m1 (fun z => kt_s ?_) (fun I1 z f1 s1 => kt_s ?_))
        · rw [if_pos z] at hO kk
          refine s_pop (pc := 71) dX12_reignGoes_71 rfl ?_
          exact kk I2 _ _ ⟨F2, W2, hS, hO⟩
        · rw [if_neg z] at hO kk
          refine s_pop (pc := 71) dX12_reignGoes_71 rfl ?_
          exact kk I1 _ _ ⟨fN_t F2 (fN_x f1), Wm_fX W2 f1 s1 hO.1, (f1 534 48 (by decide) (by decide) (by decide)).trans hS, hO⟩
      · have E : hlf1 D cs R = (nxs (nxs R.1), R.2.1 + 1, sat D cs R.2.2 (dw (nxs R.1) % cb D) (dw (nxs (nxs R.1)) % cc D)) := if_neg (by rw [h]; decide)
        rw [E] at hO kk
        refine s_ifne (pc := 62) (tgt := 72) dX12_reignGoes_62 rfl (fun h62 => ?_) (fun h62 => absurd h62 (by decide))
        exact kk I1 _ _ ⟨fN_t F2 (fN_x f1), Wm_fX W2 f1 s1 hO.1, (f1 534 48 (by decide) (by decide) (by decide)).trans hS, hO⟩
theorem mh_2 {q m : Nat} {x : Int32} {v5 v6 v7 : Value} {R : rD} (hb : 0 < cb D) (hq16 : q ≤ 16) (hR : NK I0 I D cs S0 R) (kk : ∀ I' (v7 : Value), NK I0 I' D cs S0 (hlf2 D q R) → Rn g (d + 7) mX12_reignGoes 107 [.ref 534, .int x, .int (nI q), .int (nI m), .int (nI k), v5, v6, v7] [] [] (Z I' J n w) Q) : Rn g (d + 7) mX12_reignGoes 72 [.ref 534, .int x, .int (nI q), .int (nI m), .int (nI k), v5, v6, v7] [] [] (Z I J n w) Q := by
  have hb7 := hR.2.1.2.1.1
  have m0 := Nat.mod_lt (dw (nxs R.1)) (show 0 < 16 by decide)
  have m1 := Nat.mod_lt (dw (nxs (nxs R.1))) hb
  have m2 := Nat.mod_lt (dw (nxs (nxs (nxs R.1)))) hb
  have hO := hlf2_ok (q := q) hb hR.2.2.2
  refine s_aload_n (pc := 72) (i := 0) dX12_reignGoes_72 rfl rfl ?_
  refine m_bi (pc := 73) (v := 16) dX12_reignGoes_73 rfl ?_
  refine m_v1 (pc := 75) dX12_reignGoes_75 lk_X12_450 ok_X12_draws (rcO o_534 (by decide) rfl) rfl rfl (c_X12_draws (m := 16) hR.2.2.1 (by decide) (by decide) (kt_s ?_))
  · refine s_iload_n (pc := 78) (i := 2) dX12_reignGoes_78 rfl rfl ?_
    refine s_icge (pc := 79) (tgt := 107) dX12_reignGoes_79 rfl (fun h79 => ?_) (fun h79 => ?_)
    · have h79 : q ≤ (dw (nxs R.1) % 16) := (nI_leI (a := q) (b := dw (nxs R.1) % 16) (by omega) (by omega)).mp h79
      have E : hlf2 D q R = (nxs R.1, R.2.1, R.2.2) := by unfold hlf2; rw [if_neg (by omega)]
      rw [E] at hO kk
      exact kk _ _ ⟨fN_u hR.1, Wm_48 hR.2.1, up_s, hO⟩
    · have h79 : ¬ q ≤ (dw (nxs R.1) % 16) := fun z => h79 ((nI_leI (a := q) (b := dw (nxs R.1) % 16) (by omega) (by omega)).mpr z)
      refine s_aload_n (pc := 82) (i := 0) dX12_reignGoes_82 rfl rfl ?_
      refine s_aload_n (pc := 83) (i := 0) dX12_reignGoes_83 rfl rfl ?_
      refine m_gi (pc := 84) dX12_reignGoes_84 ff_X12_154 rfl o_534 ?_
      refine m_nm (v' := nI (cb D)) ((up_k (by decide)).trans hR.2.1.1.1) ?_
      refine m_v1 (pc := 87) dX12_reignGoes_87 lk_X12_450 ok_X12_draws (rcO o_534 (by decide) rfl) rfl rfl (c_X12_draws (x := nxs R.1) up_s hb (by omega) (kt_s ?_))
      · refine s_istore (pc := 90) (i := 7) dX12_reignGoes_90 (Nat.le_of_ble_eq_true rfl) ?_
        dsimp only [List.set, List.filter]
        refine s_aload_n (pc := 92) (i := 0) dX12_reignGoes_92 rfl rfl ?_
        refine s_iload (pc := 93) (i := 7) dX12_reignGoes_93 rfl ?_
        refine s_aload_n (pc := 95) (i := 0) dX12_reignGoes_95 rfl rfl ?_
        refine s_aload_n (pc := 96) (i := 0) dX12_reignGoes_96 rfl rfl ?_
        refine m_gi (pc := 97) dX12_reignGoes_97 ff_X12_154 rfl o_534 ?_
        refine m_nm (v' := nI (cb D)) ((up_k (by decide)).trans ((up_k (by decide)).trans hR.2.1.1.1)) ?_
        refine m_v1 (pc := 100) dX12_reignGoes_100 lk_X12_450 ok_X12_draws (rcO o_534 (by decide) rfl) rfl rfl (c_X12_draws (x := nxs (nxs R.1)) up_s hb (by omega) (kt_s ?_))
        · obtain ⟨I2, e2⟩ : ∃ z, z = up (up (up I 534 48 (nxs R.1)) 534 48 (nxs (nxs R.1))) 534 48 (nxs (nxs (nxs R.1))) := ⟨_, rfl⟩
          rw [← e2]
          have W2 : Wm I2 D cs R.2.2 := by rw [e2]; exact Wm_48 (Wm_48 (Wm_48 hR.2.1))
          have F2 : fN I0 I2 := by rw [e2]; exact fN_u (fN_u (fN_u hR.1))
          have hS : I2 534 48 = nxs (nxs (nxs R.1)) := by rw [e2, up_s]
          refine m_v2 (pc := 103) dX12_reignGoes_103 lk_X12_358 ok_X12_isToldOn (rcO o_534 (by decide) rfl) rfl rfl (c_X12_isToldOn W2 m1 m2 (fun h => kt_s ?_) (fun I1 h f1 s1 => kt_s ?_))
          · have E : hlf2 D q R = (nxs (nxs (nxs R.1)), R.2.1, R.2.2) := by unfold hlf2; rw [if_pos (by omega), if_neg (by rw [h]; decide)]
            rw [E] at hO kk
            refine s_pop (pc := 106) dX12_reignGoes_106 rfl ?_
            exact kk I2 _ ⟨F2, W2, hS, hO⟩
          · have E : hlf2 D q R = (nxs (nxs (nxs R.1)), R.2.1, tol R.2.2 (dw (nxs (nxs R.1)) % cb D) (dw (nxs (nxs (nxs R.1))) % cb D) 12) := by unfold hlf2; rw [if_pos (by omega), if_pos h]
            rw [E] at hO kk
            refine s_pop (pc := 106) dX12_reignGoes_106 rfl ?_
            exact kk I1 _ ⟨fN_t F2 (fN_x f1), Wm_fX W2 f1 s1 hO.1, (f1 534 48 (by decide) (by decide) (by decide)).trans hS, hO⟩
theorem mh_h {q m : Nat} {x : Int32} {v5 v6 v7 : Value} {R : rD} (hq16 : q ≤ 16) (hR : NK I0 I D cs S0 R) (kk : ∀ I' (v5 v6 v7 : Value), NK I0 I' D cs S0 (hlf D cs q R) → Rn g (d + 7) mX12_reignGoes 107 [.ref 534, .int x, .int (nI q), .int (nI m), .int (nI k), v5, v6, v7] [] [] (Z I' J n w) Q) : Rn g (d + 7) mX12_reignGoes 20 [.ref 534, .int x, .int (nI q), .int (nI m), .int (nI k), v5, v6, v7] [] [] (Z I J n w) Q := by
  have hb7 := hR.2.1.2.1.1
  have hc12 := hR.2.1.2.1.2.1
  refine s_aload_n (pc := 20) (i := 0) dX12_reignGoes_20 rfl rfl ?_
  refine m_gi (pc := 21) dX12_reignGoes_21 ff_X12_154 rfl o_534 ?_
  refine m_nm (v' := nI (cb D)) (hR.2.1.1.1) ?_
  refine s_ifle (pc := 24) (tgt := 107) dX12_reignGoes_24 rfl (fun h24 => ?_) (fun h24 => ?_)
  · have h24 : (cb D) ≤ 0 := (nI_leI (a := cb D) (b := 0) (by omega) (by omega)).mp h24
    rw [hlf_e (by omega)] at kk
    exact kk I _ _ _ hR
  · have h24 : ¬ (cb D) ≤ 0 := fun z => h24 ((nI_leI (a := cb D) (b := 0) (by omega) (by omega)).mpr z)
    refine s_aload_n (pc := 27) (i := 0) dX12_reignGoes_27 rfl rfl ?_
    refine m_gi (pc := 28) dX12_reignGoes_28 ff_X12_157 rfl o_534 ?_
    refine m_nm (v' := nI (cc D)) (hR.2.1.1.2.1) ?_
    refine s_ifle (pc := 31) (tgt := 107) dX12_reignGoes_31 rfl (fun h31 => ?_) (fun h31 => ?_)
    · have h31 : (cc D) ≤ 0 := (nI_leI (a := cc D) (b := 0) (by omega) (by omega)).mp h31
      rw [hlf_e (by omega)] at kk
      exact kk I _ _ _ hR
    · have h31 : ¬ (cc D) ≤ 0 := fun z => h31 ((nI_leI (a := cc D) (b := 0) (by omega) (by omega)).mpr z)
      rw [hlf_n (by omega) (by omega)] at kk
      exact mh_1 (by omega) (by omega) hR (fun I' v5 v6 h1 => mh_2 (by omega) hq16 h1 (fun I'' v7 h2 => kk I'' _ _ _ h2))
theorem NK_day {I9 : Nat → Nat → Int32} {X : rD} (hR : NK I0 I D cs S0 X) (f9 : fX I I9) (s9 : Sm (I9 550) (pss D X.2.2)) (hO : rOk D S0 (X.1, X.2.1, pss D X.2.2)) : NK I0 I9 D cs S0 (X.1, X.2.1, pss D X.2.2) := ⟨fN_t hR.1 (fN_x f9), Wm_fX hR.2.1 f9 s9 (sOk_pss hR.2.2.2.1), (f9 534 48 (by decide) (by decide) (by decide)).trans hR.2.2.1, hO⟩
theorem mod_e (i : Nat) (h : i < 1000) : nI (2 * i) - nI (2 * i) / 2 * 2 = 0 := by rw [show (2 : Int32) = nI 2 from rfl, pk_rem (by omega) (by decide) (by decide), Nat.mul_mod_right]; rfl
theorem mod_o (i : Nat) (h : i < 1000) : nI (2 * i + 1) - nI (2 * i + 1) / 2 * 2 = 1 := by rw [show (2 : Int32) = nI 2 from rfl, pk_rem (by omega) (by decide) (by decide), show (2 * i + 1) % 2 = 1 by omega]; rfl
theorem mg_lp {q m : Nat} {x : Int32} (hk : cOk D) (hq16 : q ≤ 16) (hm : m ≤ 48) : ∀ f i I (R : rD) (v5 v6 v7 : Value), i + f = m → NK I0 I D cs S0 R → (∀ I', NK I0 I' D cs S0 (rgn D cs q f R) → Q (.inl none) (Z I' J n w)) → Rn g (d + 7) mX12_reignGoes 12 [.ref 534, .int x, .int (nI q), .int (nI m), .int (nI (2 * i)), v5, v6, v7] [] [] (Z I J n w) Q := by
  intro f
  induction f with
  | zero =>
    intro i I R v5 v6 v7 hi hR hq
    have e : m = i := by omega
    subst e
    refine s_iload (pc := 12) (i := 4) dX12_reignGoes_12 rfl ?_
    refine m_ic (pc := 14) (v := 2) dX12_reignGoes_14 rfl ?_
    refine s_iload_n (pc := 15) (i := 3) dX12_reignGoes_15 rfl rfl ?_
    refine s_imul (pc := 16) dX12_reignGoes_16 ?_
    refine m_nm (v' := nI (2 * m)) (pk_mul 2 m) ?_
    refine s_icge (pc := 17) (tgt := 125) dX12_reignGoes_17 rfl (fun h17 => ?_) (fun h17 => absurd (nI_le (a := 2 * m) (b := 2 * m) (by omega) (by omega)) h17)
    refine s_return (pc := 125) dX12_reignGoes_125 rfl ?_
    exact hq I hR
  | succ f ih =>
    intro i I R v5 v6 v7 hi hR hq
    have hO := dayR_ok (cs := cs) (q := q) hk hR.2.2.2
    refine s_iload (pc := 12) (i := 4) dX12_reignGoes_12 rfl ?_
    refine m_ic (pc := 14) (v := 2) dX12_reignGoes_14 rfl ?_
    refine s_iload_n (pc := 15) (i := 3) dX12_reignGoes_15 rfl rfl ?_
    refine s_imul (pc := 16) dX12_reignGoes_16 ?_
    refine m_nm (v' := nI (2 * m)) (pk_mul 2 m) ?_
    refine s_icge (pc := 17) (tgt := 125) dX12_reignGoes_17 rfl (fun h17 => absurd h17 (nI_ge (a := 2 * i) (b := 2 * m) (by omega) (by omega))) (fun h17 => ?_)
    refine mh_h (k := 2 * i) hq16 hR (fun I7 v5 v6 v7 hR => ?_)
    refine s_iload (pc := 107) (i := 4) dX12_reignGoes_107 rfl ?_
    refine m_ic (pc := 109) (v := 2) dX12_reignGoes_109 rfl ?_
    refine s_irem (pc := 110) dX12_reignGoes_110 (by decide) ?_
    refine m_nm (v' := 0) (mod_e i (by omega)) ?_
    refine m_ic (pc := 111) (v := 1) dX12_reignGoes_111 rfl ?_
    refine s_icne (pc := 112) (tgt := 119) dX12_reignGoes_112 rfl (fun h112 => ?_) (fun h112 => absurd h112 (by decide))
    refine m_inc (pc := 119) (v := 1) dX12_reignGoes_119 rfl rfl ?_
    dsimp only [List.set, List.filter]
    rw [nI_1]
    refine s_goto (pc := 122) (tgt := 12) dX12_reignGoes_122 rfl ?_
    refine s_iload (pc := 12) (i := 4) dX12_reignGoes_12 rfl ?_
    refine m_ic (pc := 14) (v := 2) dX12_reignGoes_14 rfl ?_
    refine s_iload_n (pc := 15) (i := 3) dX12_reignGoes_15 rfl rfl ?_
    refine s_imul (pc := 16) dX12_reignGoes_16 ?_
    refine m_nm (v' := nI (2 * m)) (pk_mul 2 m) ?_
    refine s_icge (pc := 17) (tgt := 125) dX12_reignGoes_17 rfl (fun h17 => absurd h17 (nI_ge (a := 2 * i + 1) (b := 2 * m) (by omega) (by omega))) (fun h17 => ?_)
    refine mh_h (k := 2 * i + 1) hq16 hR (fun I8 v5 v6 v7 hR => ?_)
    refine s_iload (pc := 107) (i := 4) dX12_reignGoes_107 rfl ?_
    refine m_ic (pc := 109) (v := 2) dX12_reignGoes_109 rfl ?_
    refine s_irem (pc := 110) dX12_reignGoes_110 (by decide) ?_
    refine m_nm (v' := 1) (mod_o i (by omega)) ?_
    refine m_ic (pc := 111) (v := 1) dX12_reignGoes_111 rfl ?_
    refine s_icne (pc := 112) (tgt := 119) dX12_reignGoes_112 rfl (fun h112 => absurd h112 (by decide)) (fun h112 => ?_)
    refine s_aload_n (pc := 115) (i := 0) dX12_reignGoes_115 rfl rfl ?_
    refine m_v0 (pc := 116) dX12_reignGoes_116 lk_X12_367 ok_X12_passes (rcO o_534 (by decide) rfl) rfl rfl (c_X12_passes hR.2.1 (fun I9 f9 s9 => kt_v ?_))
    refine m_inc (pc := 119) (v := 1) dX12_reignGoes_119 rfl rfl ?_
    dsimp only [List.set, List.filter]
    rw [nI_1]
    refine s_goto (pc := 122) (tgt := 12) dX12_reignGoes_122 rfl ?_
    rw [show 2 * i + 1 + 1 = 2 * (i + 1) by omega]
    exact ih (i + 1) I9 (dayR D cs q R) _ _ _ (by omega) (NK_day hR f9 s9 hO) hq
theorem c_X12_reignGoes {q m : Nat} {x : Int32} (hW : Wn I D cs S) (hq16 : q ≤ 16) (hm : m ≤ 48) (hq : ∀ I', fN I I' → Wm I' D cs (rgn D cs q m (x, 0, S)).2.2 → rOk D S (rgn D cs q m (x, 0, S)) → Q (.inl none) (Z I' J n w)) : Cn g (d + 7) mX12_reignGoes [.ref 534, .int x, .int (nI q), .int (nI m)] (Z I J n w) Q := by
  show Rn g (d + 7) mX12_reignGoes 0 [.ref 534, .int x, .int (nI q), .int (nI m), .retAddr 0, .retAddr 0, .retAddr 0, .retAddr 0] [] [] (Z I J n w) Q
  refine s_aload_n (pc := 0) (i := 0) dX12_reignGoes_0 rfl rfl ?_
  refine m_v0 (pc := 1) dX12_reignGoes_1 lk_X12_310 ok_X12_take (rcO o_534 (by decide) rfl) rfl rfl (c_X12_take (kt_v ?_))
  refine s_aload_n (pc := 4) (i := 0) dX12_reignGoes_4 rfl rfl ?_
  refine s_iload_n (pc := 5) (i := 1) dX12_reignGoes_5 rfl rfl ?_
  refine m_pi (pc := 6) dX12_reignGoes_6 ff_X12_446 rfl rfl o_534 ?_
  refine m_ic (pc := 9) (v := 0) dX12_reignGoes_9 rfl ?_
  refine s_istore (pc := 10) (i := 4) dX12_reignGoes_10 (Nat.le_of_ble_eq_true rfl) ?_
  dsimp only [List.set, List.filter]
  obtain ⟨I3, e3⟩ : ∃ z, z = up (cpI I 549 550 126) 534 48 x := ⟨_, rfl⟩
  rw [← e3]
  have W3 : Wm I3 D cs S := by
    rw [e3]; exact Wm_48 (Wn_W hW (fun y j z1 z2 z3 => cp_ne (by omega)) (fun j z => by unfold cpI; rw [if_pos ⟨rfl, z⟩]))
  have F3 : fN I I3 := fun y j z1 z2 z3 z4 => by rw [e3, up_n3 (by omega), cp_ne z3]
  have R3 : NK I3 I3 D cs S (x, 0, S) := ⟨fN_r, W3, by rw [e3, up_s], rOk_0 hW.2.2.2.2.2⟩
  exact mg_lp hW.2.1 hq16 hm m 0 I3 (x, 0, S) _ _ _ (by omega) R3 (fun I' h => hq I' (fN_t F3 h.1) h.2.1 h.2.2.2)
theorem bm_lp {S1 : sD} (h18 : I 534 18 = nI (cc D)) (hk : cOk D) (hS : Sm (I 549) S) (hS1 : Sm (I 550) S1) (hq : Q (.inl (some (.int (aI2 (fun c => sN S1 c - sN S c) (cc D))))) (Z I J n w)) : ∀ f i, i + f = cc D → Rn g (d + 0) mX12_borneMore 4 [.ref 534, .int (aI2 (fun c => sN S1 c - sN S c) i), .int (nI i)] [] [] (Z I J n w) Q := by
  intro f
  induction f with
  | zero =>
    intro i hi
    have e : cc D = i := by omega
    subst e
    have hc12 := hk.2.1
    refine s_iload_n (pc := 4) (i := 2) dX12_borneMore_4 rfl rfl ?_
    refine s_aload_n (pc := 5) (i := 0) dX12_borneMore_5 rfl rfl ?_
    refine m_gi (pc := 6) dX12_borneMore_6 ff_X12_157 rfl o_534 ?_
    refine m_nm (v' := nI (cc D)) (h18) ?_
    refine s_icge (pc := 9) (tgt := 40) dX12_borneMore_9 rfl (fun h9 => ?_) (fun h9 => absurd (nI_le (a := cc D) (b := (cc D)) (by omega) (by omega)) h9)
    refine s_iload_n (pc := 40) (i := 1) dX12_borneMore_40 rfl rfl ?_
    refine s_ireturn (pc := 41) dX12_borneMore_41 rfl rfl ?_
    exact hq
  | succ f ih =>
    intro i hi
    have hc12 := hk.2.1
    refine s_iload_n (pc := 4) (i := 2) dX12_borneMore_4 rfl rfl ?_
    refine s_aload_n (pc := 5) (i := 0) dX12_borneMore_5 rfl rfl ?_
    refine m_gi (pc := 6) dX12_borneMore_6 ff_X12_157 rfl o_534 ?_
    refine m_nm (v' := nI (cc D)) (h18) ?_
    refine s_icge (pc := 9) (tgt := 40) dX12_borneMore_9 rfl (fun h9 => absurd h9 (nI_ge (a := i) (b := cc D) (by omega) (by omega))) (fun h9 => ?_)
    refine s_iload_n (pc := 12) (i := 1) dX12_borneMore_12 rfl rfl ?_
    refine s_aload_n (pc := 13) (i := 0) dX12_borneMore_13 rfl rfl ?_
    refine m_gr (pc := 14) dX12_borneMore_14 ff_X12_62 rfl o_534 r_534_37 ?_
    refine m_bi (pc := 17) (v := 112) dX12_borneMore_17 rfl ?_
    refine s_iload_n (pc := 19) (i := 2) dX12_borneMore_19 rfl rfl ?_
    refine s_iadd (pc := 20) dX12_borneMore_20 ?_
    refine m_nm (v' := nI (112 + i)) (nI_add 112 i) ?_
    refine m_ia (pc := 21) dX12_borneMore_21 a_550 (vp_in_nI (n := 112 + i) (by omega) (by decide)) ?_
    refine m_nm (v' := sN S1 i) (rdI (j := 112 + i) (hS1.2.2.1 i (by omega)) (by omega)) ?_
    refine s_aload_n (pc := 22) (i := 0) dX12_borneMore_22 rfl rfl ?_
    refine m_gr (pc := 23) dX12_borneMore_23 ff_X12_59 rfl o_534 r_534_36 ?_
    refine m_bi (pc := 26) (v := 112) dX12_borneMore_26 rfl ?_
    refine s_iload_n (pc := 28) (i := 2) dX12_borneMore_28 rfl rfl ?_
    refine s_iadd (pc := 29) dX12_borneMore_29 ?_
    refine m_nm (v' := nI (112 + i)) (nI_add 112 i) ?_
    refine m_ia (pc := 30) dX12_borneMore_30 a_549 (vp_in_nI (n := 112 + i) (by omega) (by decide)) ?_
    refine m_nm (v' := sN S i) (rdI (j := 112 + i) (hS.2.2.1 i (by omega)) (by omega)) ?_
    refine s_isub (pc := 31) dX12_borneMore_31 ?_
    refine s_iadd (pc := 32) dX12_borneMore_32 ?_
    refine s_istore_n (pc := 33) (i := 1) dX12_borneMore_33 rfl (Nat.le_of_ble_eq_true rfl) ?_
    dsimp only [List.set, List.filter]
    refine m_inc (pc := 34) (v := 1) dX12_borneMore_34 rfl rfl ?_
    dsimp only [List.set, List.filter]
    rw [nI_1]
    refine s_goto (pc := 37) (tgt := 4) dX12_borneMore_37 rfl ?_
    exact ih (i + 1)  (by omega)
theorem c_X12_borneMore {R : rD} (h18 : I 534 18 = nI (cc D)) (hk : cOk D) (hS : Sm (I 549) S) (hS1 : Sm (I 550) R.2.2) (hR : rOk D S R) (hq : Q (.inl (some (.int (nI R.2.1)))) (Z I J n w)) : Cn g (d + 0) mX12_borneMore [.ref 534] (Z I J n w) Q := by
  rw [← hR.2] at hq
  show Rn g (d + 0) mX12_borneMore 0 [.ref 534, .retAddr 0, .retAddr 0] [] [] (Z I J n w) Q
  refine m_ic (pc := 0) (v := 0) dX12_borneMore_0 rfl ?_
  refine s_istore_n (pc := 1) (i := 1) dX12_borneMore_1 rfl (Nat.le_of_ble_eq_true rfl) ?_
  dsimp only [List.set, List.filter]
  refine m_ic (pc := 2) (v := 0) dX12_borneMore_2 rfl ?_
  refine s_istore_n (pc := 3) (i := 2) dX12_borneMore_3 rfl (Nat.le_of_ble_eq_true rfl) ?_
  dsimp only [List.set, List.filter]
  exact bm_lp h18 hk hS hS1 hq (cc D) 0 (by omega)
end S
