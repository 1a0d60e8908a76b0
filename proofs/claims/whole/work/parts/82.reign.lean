section S
variable {g : aG} {d : Nat} {I : Nat → Nat → Int32} {J : Nat → Nat → Int64} {n w : Nat} {Q : aO → aS → Prop}
variable {σ : aS} {S : sD} {D : cD} {cs : List Nat} {b c k : Nat}
/-- the next seed; what is drawn by it -/
def nxs (x : Int32) : Int32 := x * 1103515245 + 12345
def dw (x : Int32) : Nat := (x >>> ((16 : Int32) &&& 31) &&& 32767).toBitVec.toNat
theorem dw_1 (x : Int32) : x >>> ((16 : Int32) &&& 31) &&& 32767 = nI (dw x) ∧ dw x < 32768 := by
  obtain ⟨j, hj, e⟩ := pk_andE (x >>> ((16 : Int32) &&& 31)) (m := 32767) 15 (by decide)
  unfold dw
  rw [e, pk_tn (by omega)]
  exact ⟨rfl, hj⟩
theorem b_15 : ∀ i, i < 32 → bt 32767 i = decide (i < 15) := by decide +kernel
theorem dw_2 (x : Int32) : (x.toUInt32 >>> ((16 : Int32).toUInt32 &&& Int32.toUInt32 31)).toInt32 &&& 32767 = nI (dw x) := by
  rw [← (dw_1 x).1]
  refine b_ext (fun i hi => ?_)
  rw [b_and, b_and, show (16 : Int32) = nI 16 from rfl, b_ushr 16 (by decide), b_sshr 16 (by decide) x hi, b_15 i hi]
  by_cases z : i < 15
  · rw [if_pos (by omega)]
  · simp [z]
abbrev rD := Int32 × Nat × sD
/-- half a day -/
def hlf1 (D : cD) (cs : List Nat) (R : rD) : rD :=
  let b := dw (nxs R.1) % cb D
  if sF R.2.2 b = true then (nxs (nxs R.1), R.2.1, if sT R.2.2 b = 0 then R.2.2 else rst R.2.2 b) else (nxs (nxs R.1), R.2.1 + 1, sat D cs R.2.2 b (dw (nxs (nxs R.1)) % cc D))
def hlf2 (D : cD) (q : Nat) (R : rD) : rD :=
  if dw (nxs R.1) % 16 < q then
    (if hnw R.2.2 (dw (nxs (nxs R.1)) % cb D) (dw (nxs (nxs (nxs R.1))) % cb D) = true then (nxs (nxs (nxs R.1)), R.2.1, tol R.2.2 (dw (nxs (nxs R.1)) % cb D) (dw (nxs (nxs (nxs R.1))) % cb D) 12) else (nxs (nxs (nxs R.1)), R.2.1, R.2.2))
  else (nxs R.1, R.2.1, R.2.2)
def hlf (D : cD) (cs : List Nat) (q : Nat) (R : rD) : rD := if 0 < cb D ∧ 0 < cc D then hlf2 D q (hlf1 D cs R) else R
def dayR (D : cD) (cs : List Nat) (q : Nat) (R : rD) : rD := ((hlf D cs q (hlf D cs q R)).1, (hlf D cs q (hlf D cs q R)).2.1, pss D (hlf D cs q (hlf D cs q R)).2.2)
def rgn (D : cD) (cs : List Nat) (q : Nat) : Nat → rD → rD
  | 0, R => R
  | k + 1, R => rgn D cs q k (dayR D cs q R)
/-- what the reign keeps, from the state S on -/
def rOk (D : cD) (S : sD) (R : rD) : Prop := sOk D R.2.2 ∧ aI2 (fun c => sN R.2.2 c - sN S c) (cc D) = nI R.2.1
theorem aI2_u {f : Nat → Int32} {c : Nat} {v : Int32} : ∀ m, c < m → aI2 (uV f c (f c + v)) m = aI2 f m + v
  | 0, h => by omega
  | m + 1, h => by
    show aI2 (uV f c (f c + v)) m + uV f c (f c + v) m = aI2 f m + f m + v
    by_cases e : c = m
    · subst e
      rw [uV_s, aI_c c (fun i hi => uV_n (by omega)), ← Int32.add_assoc]
    · rw [aI2_u m (by omega), uV_n (fun z => e z.symm), Int32.add_assoc, Int32.add_assoc, Int32.add_comm v (f m)]
theorem sN_sat {b c : Nat} : sN (sat D cs S b c) = uV (sN S) c (sN S c + 1) := by
  unfold sat; split
  · rfl
  · split <;> rfl
theorem hlf1_ok {S0 : sD} {R : rD} (hk : cOk D) (hb : 0 < cb D) (hc : 0 < cc D) (h : rOk D S0 R) : rOk D S0 (hlf1 D cs R) := by
  unfold hlf1
  dsimp only
  have m1 := Nat.mod_lt (dw (nxs R.1)) hb
  have m2 := Nat.mod_lt (dw (nxs (nxs R.1))) hc
  split
  · split
    · exact ⟨h.1, h.2⟩
    · exact ⟨sOk_rst h.1 _, h.2⟩
  · rename_i e
    refine ⟨sOk_sat hk h.1 m1 m2 (ts_nt e), ?_⟩
    show aI2 (fun c => sN (sat D cs R.2.2 _ _) c - sN S0 c) (cc D) = nI (R.2.1 + 1)
    rw [← nI_1, ← h.2, sN_sat, ← aI2_u (f := fun c => sN R.2.2 c - sN S0 c) (c := dw (nxs (nxs R.1)) % cc D) (v := 1) _ m2]
    refine aI_c _ (fun i hi => ?_)
    by_cases z : i = dw (nxs (nxs R.1)) % cc D
    · rw [z, uV_s, uV_s, Int32.sub_eq_add_neg, Int32.sub_eq_add_neg, Int32.add_assoc, Int32.add_comm 1, ← Int32.add_assoc]
    · rw [uV_n z, uV_n z]
theorem hlf2_ok {S0 : sD} {R : rD} {q : Nat} (hb : 0 < cb D) (h : rOk D S0 R) : rOk D S0 (hlf2 D q R) := by
  unfold hlf2
  have m2 := Nat.mod_lt (dw (nxs (nxs (nxs R.1)))) hb
  split
  · split
    · rename_i e
      refine ⟨sOk_tol h.1 (fun z => by rw [hnw_1 (Or.inl z)] at e; cases e) m2 12, ?_⟩
      show aI2 (fun c => sN (tol _ _ _ 12) c - sN S0 c) (cc D) = _
      rw [(tol_o 12).2.2.2.2.1]; exact h.2
    · exact ⟨h.1, h.2⟩
  · exact ⟨h.1, h.2⟩
theorem hlf_ok {S0 : sD} {R : rD} {q : Nat} (hk : cOk D) (h : rOk D S0 R) : rOk D S0 (hlf D cs q R) := by
  unfold hlf
  split
  · rename_i e
    exact hlf2_ok e.1 (hlf1_ok hk e.1 e.2 h)
  · exact h
theorem dayR_ok {S0 : sD} {R : rD} {q : Nat} (hk : cOk D) (h : rOk D S0 R) : rOk D S0 (dayR D cs q R) := by
  have h2 := hlf_ok (cs := cs) (q := q) hk (hlf_ok (cs := cs) (q := q) hk h)
  refine ⟨sOk_pss h2.1, ?_⟩
  show aI2 (fun c => sN (psT D (hlf D cs q (hlf D cs q R)).2.2 (cb D)) c - sN S0 c) (cc D) = _
  rw [(psT_o (cb D)).2.2.2.2.1]; exact h2.2
theorem rgn_ok {S0 : sD} {q : Nat} (hk : cOk D) : ∀ k R, rOk D S0 R → rOk D S0 (rgn D cs q k R)
  | 0, _, h => h
  | k + 1, R, h => rgn_ok hk k _ (dayR_ok hk h)
theorem rOk_0 (h : sOk D S) {x : Int32} : rOk D S (x, 0, S) := ⟨h, by
  show aI2 (fun c => sN S c - sN S c) (cc D) = nI 0
  have e : ∀ m, aI2 (fun c => sN S c - sN S c) m = 0 := fun m => by
    induction m with
    | zero => rfl
    | succ m ih => show aI2 _ m + (sN S m - sN S m) = 0; rw [ih, Int32.sub_self]; rfl
  rw [e]; rfl⟩
theorem c_X7_draw {m : Nat} {x : Int32} (h2 : I 526 2 = x) (hm : 0 < m) (hm2 : m ≤ 16) (hq : Q (.inl (some (.int (nI (dw (nxs x) % m))))) (Z (up I 526 2 (nxs x)) J n w)) : Cn g (d + 0) mX7_draw [.ref 526, .int (nI m)] (Z I J n w) Q := by
  show Rn g (d + 0) mX7_draw 0 [.ref 526, .int (nI m), .retAddr 0] [] [] (Z I J n w) Q
  refine s_aload_n (pc := 0) (i := 0) dX7_draw_0 rfl rfl ?_
  refine s_aload_n (pc := 1) (i := 0) dX7_draw_1 rfl rfl ?_
  refine m_gi (pc := 2) dX7_draw_2 ff_X7_26 rfl o_526 ?_
  refine m_nm (v' := x) (h2) ?_
  refine s_ldc (pc := 5) dX7_draw_5 ct_X7_73 ?_
  refine s_imul (pc := 7) dX7_draw_7 ?_
  refine m_si (pc := 8) (v := 12345) dX7_draw_8 rfl ?_
  refine s_iadd (pc := 11) dX7_draw_11 ?_
  refine m_nm (v' := nxs x) (rfl) ?_
  refine m_pi (pc := 12) dX7_draw_12 ff_X7_26 rfl rfl o_526 ?_
  refine s_aload_n (pc := 15) (i := 0) dX7_draw_15 rfl rfl ?_
  refine m_gi (pc := 16) dX7_draw_16 ff_X7_26 rfl o_526 ?_
  refine m_nm (v' := nxs x) (up_s) ?_
  refine m_bi (pc := 19) (v := 16) dX7_draw_19 rfl ?_
  refine s_iushr (pc := 21) dX7_draw_21 ?_
  refine m_si (pc := 22) (v := 32767) dX7_draw_22 rfl ?_
  refine s_iand (pc := 25) dX7_draw_25 ?_
  refine m_nm (v' := nI (dw (nxs x))) (dw_2 _) ?_
  refine s_istore_n (pc := 26) (i := 2) dX7_draw_26 rfl (Nat.le_of_ble_eq_true rfl) ?_
  dsimp only [List.set, List.filter]
  refine s_iload_n (pc := 27) (i := 1) dX7_draw_27 rfl rfl ?_
  refine s_ifle (pc := 28) (tgt := 37) dX7_draw_28 rfl (fun h28 => absurd h28 (nI_ge (a := 0) (b := m) (by omega) (by omega))) (fun h28 => ?_)
  refine s_iload_n (pc := 31) (i := 2) dX7_draw_31 rfl rfl ?_
  refine s_iload_n (pc := 32) (i := 1) dX7_draw_32 rfl rfl ?_
  refine s_irem (pc := 33) dX7_draw_33 (nI_ne0 hm (by omega)) ?_
  refine m_nm (v' := nI (dw (nxs x) % m)) (pk_rem (by have := (dw_1 (nxs x)).2; omega) hm (by omega)) ?_
  refine s_goto (pc := 34) (tgt := 38) dX7_draw_34 rfl ?_
  refine s_ireturn (pc := 38) dX7_draw_38 rfl rfl ?_
  exact hq
theorem c_X12_draws {m : Nat} {x : Int32} (h2 : I 534 48 = x) (hm : 0 < m) (hm2 : m ≤ 16) (hq : Q (.inl (some (.int (nI (dw (nxs x) % m))))) (Z (up I 534 48 (nxs x)) J n w)) : Cn g (d + 0) mX12_draws [.ref 534, .int (nI m)] (Z I J n w) Q := by
  show Rn g (d + 0) mX12_draws 0 [.ref 534, .int (nI m)] [] [] (Z I J n w) Q
  refine s_aload_n (pc := 0) (i := 0) dX12_draws_0 rfl rfl ?_
  refine s_aload_n (pc := 1) (i := 0) dX12_draws_1 rfl rfl ?_
  refine m_gi (pc := 2) dX12_draws_2 ff_X12_446 rfl o_534 ?_
  refine m_nm (v' := x) (h2) ?_
  refine s_ldcw (pc := 5) dX12_draws_5 ct_X12_449 ?_
  refine s_imul (pc := 8) dX12_draws_8 ?_
  refine m_si (pc := 9) (v := 12345) dX12_draws_9 rfl ?_
  refine s_iadd (pc := 12) dX12_draws_12 ?_
  refine m_nm (v' := nxs x) (rfl) ?_
  refine m_pi (pc := 13) dX12_draws_13 ff_X12_446 rfl rfl o_534 ?_
  refine s_aload_n (pc := 16) (i := 0) dX12_draws_16 rfl rfl ?_
  refine m_gi (pc := 17) dX12_draws_17 ff_X12_446 rfl o_534 ?_
  refine m_nm (v' := nxs x) (up_s) ?_
  refine m_bi (pc := 20) (v := 16) dX12_draws_20 rfl ?_
  refine s_ishr (pc := 22) dX12_draws_22 ?_
  refine m_si (pc := 23) (v := 32767) dX12_draws_23 rfl ?_
  refine s_iand (pc := 26) dX12_draws_26 ?_
  refine m_nm (v' := nI (dw (nxs x))) ((dw_1 _).1) ?_
  refine s_iload_n (pc := 27) (i := 1) dX12_draws_27 rfl rfl ?_
  refine s_irem (pc := 28) dX12_draws_28 (nI_ne0 hm (by omega)) ?_
  refine m_nm (v' := nI (dw (nxs x) % m)) (pk_rem (by have := (dw_1 (nxs x)).2; omega) hm (by omega)) ?_
  refine s_ireturn (pc := 29) dX12_draws_29 rfl rfl ?_
  exact hq
/-- the trial's frame: the law's rows, its own fields and state -/
def fR (I I' : Nat → Nat → Int32) : Prop := ∀ x j, x ≠ 16 → x ≠ 17 → (x < 526 ∨ 533 < x) → I' x j = I x j
theorem fR_r : fR I I := fun _ _ _ _ _ => rfl
theorem fR_t {I' I'' : Nat → Nat → Int32} (h : fR I I') (h2 : fR I' I'') : fR I I'' := fun x j a b e => (h2 x j a b e).trans (h x j a b e)
theorem fR_s {I' : Nat → Nat → Int32} (h : fS 527 I I') : fR I I' := fun x j a b e => h x j a b (by omega)
theorem fR_u {I' : Nat → Nat → Int32} {k : Nat} {v : Int32} (h : fR I I') : fR I (up I' 526 k v) := fun x j a b e => by rw [up_a (by omega)]; exact h x j a b e
def RK (I0 I : Nat → Nat → Int32) (D : cD) (cs : List Nat) (S0 : sD) (R : rD) : Prop := fR I0 I ∧ Wc I 527 D cs R.2.2 ∧ I 526 2 = R.1 ∧ I 526 3 = nI R.2.1 ∧ rOk D S0 R
theorem Wc_5 {I' : Nat → Nat → Int32} (h : Wc I 527 D cs S) (hf : ∀ x j, x ≠ 526 → I' x j = I x j) : Wc I' 527 D cs S := ⟨Co_fr h.1 (fun x j _ _ => hf x j (by omega)), h.2.1, Lw_fr h.2.2.1 (fun x j _ _ => hf x j (by omega)), h.2.2.2.1, Sc_fr h.2.2.2.2.1 (fun x j _ _ => hf x j (by omega)), h.2.2.2.2.2⟩
theorem c_X7_bearOrRest {I0 : Nat → Nat → Int32} {S0 : sD} {R : rD} (hR : RK I0 I D cs S0 R) (hb : 0 < cb D) (hc : 0 < cc D) (hq : ∀ I', RK I0 I' D cs S0 (hlf1 D cs R) → Q (.inl none) (Z I' J n w)) : Cn g (d + 5) mX7_bearOrRest [.ref 526] (Z I J n w) Q := by
  have hb7 := hR.2.1.2.1.1
  have hc12 := hR.2.1.2.1.2.1
  have m1 := Nat.mod_lt (dw (nxs R.1)) hb
  have m2 := Nat.mod_lt (dw (nxs (nxs R.1))) hc
  show Rn g (d + 5) mX7_bearOrRest 0 [.ref 526, .retAddr 0, .retAddr 0] [] [] (Z I J n w) Q
  refine s_aload_n (pc := 0) (i := 0) dX7_bearOrRest_0 rfl rfl ?_
  refine s_aload_n (pc := 1) (i := 0) dX7_bearOrRest_1 rfl rfl ?_
  refine m_gr (pc := 2) dX7_bearOrRest_2 ff_X7_18 rfl o_526 r_526_0 ?_
  refine m_gr (pc := 5) dX7_bearOrRest_5 ff_X7_33 rfl o_31 r_31_0 ?_
  refine m_gi (pc := 8) dX7_bearOrRest_8 ff_X7_39 rfl o_4 ?_
  refine m_nm (v' := nI (cb D)) (hR.2.1.1.1) ?_
  refine m_v1 (pc := 11) dX7_bearOrRest_11 lk_X7_57 ok_X7_draw (rcO o_526 (by decide) rfl) rfl rfl (c_X7_draw hR.2.2.1 hb (by omega) (kt_s ?_))
  · refine s_istore_n (pc := 14) (i := 1) dX7_bearOrRest_14 rfl (Nat.le_of_ble_eq_true rfl) ?_
    dsimp only [List.set, List.filter]
    refine s_aload_n (pc := 15) (i := 0) dX7_bearOrRest_15 rfl rfl ?_
    refine s_aload_n (pc := 16) (i := 0) dX7_bearOrRest_16 rfl rfl ?_
    refine m_gr (pc := 17) dX7_bearOrRest_17 ff_X7_18 rfl o_526 r_526_0 ?_
    refine m_gr (pc := 20) dX7_bearOrRest_20 ff_X7_33 rfl o_31 r_31_0 ?_
    refine m_gi (pc := 23) dX7_bearOrRest_23 ff_X7_44 rfl o_4 ?_
    refine m_nm (v' := nI (cc D)) ((up_a (by decide)).trans hR.2.1.1.2.1) ?_
    refine m_v1 (pc := 26) dX7_bearOrRest_26 lk_X7_57 ok_X7_draw (rcO o_526 (by decide) rfl) rfl rfl (c_X7_draw (x := nxs R.1) up_s hc (by omega) (kt_s ?_))
    · obtain ⟨I2, e2⟩ : ∃ z, z = up (up I 526 2 (nxs R.1)) 526 2 (nxs (nxs R.1)) := ⟨_, rfl⟩
      rw [← e2]
      have W2 : Wc I2 527 D cs R.2.2 := Wc_5 hR.2.1 (fun x j z => by rw [e2, up_a z, up_a z])
      have F2 : fR I0 I2 := by rw [e2]; exact fR_u (fR_u hR.1)
      have hS : I2 526 2 = nxs (nxs R.1) := by rw [e2, up_s]
      have hB : I2 526 3 = nI R.2.1 := by rw [e2, up_k (by decide), up_k (by decide)]; exact hR.2.2.2.1
      have hO := hlf1_ok (cs := cs) hR.2.1.2.1 hb hc hR.2.2.2.2
      refine s_istore_n (pc := 29) (i := 2) dX7_bearOrRest_29 rfl (Nat.le_of_ble_eq_true rfl) ?_
      dsimp only [List.set, List.filter]
      refine s_aload_n (pc := 30) (i := 0) dX7_bearOrRest_30 rfl rfl ?_
      refine m_gr (pc := 31) dX7_bearOrRest_31 ff_X7_18 rfl o_526 r_526_0 ?_
      refine s_aload_n (pc := 34) (i := 0) dX7_bearOrRest_34 rfl rfl ?_
      refine m_gr (pc := 35) dX7_bearOrRest_35 ff_X7_12 rfl o_526 r_526_1 ?_
      refine s_iload_n (pc := 38) (i := 1) dX7_bearOrRest_38 rfl rfl ?_
      refine s_iload_n (pc := 39) (i := 2) dX7_bearOrRest_39 rfl rfl ?_
      refine m_v3 (pc := 40) dX7_bearOrRest_40 lk_X7_61 ok_X3_sit (rcO o_31 (by decide) rfl) rfl rfl (c_X3_sit (o := 527) sO_527 (by decide) W2 m1 m2 (fun h => kt_s ?_) (fun I1 h f1 s1 => kt_s ?_))
      · have E : hlf1 D cs R = (nxs (nxs R.1), R.2.1, if sT R.2.2 (dw (nxs R.1) % cb D) = 0 then R.2.2 else rst R.2.2 (dw (nxs R.1) % cb D)) := if_pos h
        rw [E] at hO hq
        refine s_ifeq (pc := 43) (tgt := 59) dX7_bearOrRest_43 rfl (fun h43 => ?_) (fun h43 => absurd h43 (by decide))
        refine s_aload_n (pc := 59) (i := 0) dX7_bearOrRest_59 rfl rfl ?_
        refine m_gr (pc := 60) dX7_bearOrRest_60 ff_X7_12 rfl o_526 r_526_1 ?_
        refine s_iload_n (pc := 63) (i := 1) dX7_bearOrRest_63 rfl rfl ?_
        refine m_v1 (pc := 64) dX7_bearOrRest_64 lk_X7_65 ok_X9_rest (rcO o_527 (by decide) rfl) rfl rfl (c_X9_rest sO_527 W2.2.2.2.2.1 (by omega) (W2.2.2.2.2.2.1 _).1 (fun z => kt_s ?_) (fun I1 z f1 s1 => kt_s ?_))
        · rw [if_pos z] at hO hq
          refine s_pop (pc := 67) dX7_bearOrRest_67 rfl ?_
          refine s_return (pc := 68) dX7_bearOrRest_68 rfl ?_
          exact hq _ ⟨F2, W2, hS, hB, hO⟩
        · rw [if_neg z] at hO hq
          refine s_pop (pc := 67) dX7_bearOrRest_67 rfl ?_
          refine s_return (pc := 68) dX7_bearOrRest_68 rfl ?_
          exact hq _ ⟨fR_t F2 (fR_s (fS_o f1)), Wc_fS W2 (by decide) (fS_o f1) s1 hO.1, (f1 526 2 (by omega)).trans hS, (f1 526 3 (by omega)).trans hB, hO⟩
      · have E : hlf1 D cs R = (nxs (nxs R.1), R.2.1 + 1, sat D cs R.2.2 (dw (nxs R.1) % cb D) (dw (nxs (nxs R.1)) % cc D)) := if_neg (by rw [h]; decide)
        rw [E] at hO hq
        refine s_ifeq (pc := 43) (tgt := 59) dX7_bearOrRest_43 rfl (fun h43 => absurd h43 (by decide)) (fun h43 => ?_)
        refine s_aload_n (pc := 46) (i := 0) dX7_bearOrRest_46 rfl rfl ?_
        refine s_dup (pc := 47) dX7_bearOrRest_47 rfl ?_
        refine m_gi (pc := 48) dX7_bearOrRest_48 ff_X7_30 rfl o_526 ?_
        refine m_nm (v' := nI R.2.1) ((f1 526 3 (by decide) (by decide) (by decide)).trans hB) ?_
        refine m_ic (pc := 51) (v := 1) dX7_bearOrRest_51 rfl ?_
        refine s_iadd (pc := 52) dX7_bearOrRest_52 ?_
        refine m_nm (v' := nI ((R.2.1) + 1)) (nI_add (R.2.1) 1) ?_
        refine m_pi (pc := 53) dX7_bearOrRest_53 ff_X7_30 rfl rfl o_526 ?_
        refine s_goto (pc := 56) (tgt := 68) dX7_bearOrRest_56 rfl ?_
        refine s_return (pc := 68) dX7_bearOrRest_68 rfl ?_
        exact hq _ ⟨fR_u (fR_t F2 (fR_s f1)), Wc_5 (Wc_fS W2 (by decide) f1 s1 hO.1) (fun x j z => up_a z), by rw [up_k (by decide)]; exact (f1 526 2 (by decide) (by decide) (by decide)).trans hS, up_s, hO⟩
end S
