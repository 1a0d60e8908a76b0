section S
variable {g : aG} {d : Nat} {I : Nat → Nat → Int32} {J : Nat → Nat → Int64} {n w : Nat} {Q : aO → aS → Prop}
variable {σ : aS} {S : sD} {D : cD} {cs : List Nat} {b c k : Nat}
theorem tir_lp {o : Nat} (ho : sO o) (hS : Sc I o S) (hq : Q (.inl (some (.int (aI2 (fun b => nI (sT S b)) 7)))) (Z I J n w)) : ∀ f i (v5 : Value), i + f = 7 → Rn g (d + 0) mX9_tiredTogether 13 [.ref o, .int (aI2 (fun b => nI (sT S b)) i), .ref (o + 1), .int (nI 7), .int (nI i), v5] [] [] (Z I J n w) Q := by
  intro f
  induction f with
  | zero =>
    intro i v5 hi
    have e : 7 = i := by omega
    subst e
    refine s_iload (pc := 13) (i := 4) dX9_tiredTogether_13 rfl ?_
    refine s_iload_n (pc := 15) (i := 3) dX9_tiredTogether_15 rfl rfl ?_
    refine s_icge (pc := 16) (tgt := 36) dX9_tiredTogether_16 rfl (fun h16 => ?_) (fun h16 => absurd (nI_le (a := 7) (b := 7) (by omega) (by omega)) h16)
    refine s_iload_n (pc := 36) (i := 1) dX9_tiredTogether_36 rfl rfl ?_
    refine s_ireturn (pc := 37) dX9_tiredTogether_37 rfl rfl ?_
    exact hq
  | succ f ih =>
    intro i v5 hi
    refine s_iload (pc := 13) (i := 4) dX9_tiredTogether_13 rfl ?_
    refine s_iload_n (pc := 15) (i := 3) dX9_tiredTogether_15 rfl rfl ?_
    refine s_icge (pc := 16) (tgt := 36) dX9_tiredTogether_16 rfl (fun h16 => absurd h16 (nI_ge (a := i) (b := 7) (by omega) (by omega))) (fun h16 => ?_)
    refine s_aload_n (pc := 19) (i := 2) dX9_tiredTogether_19 rfl rfl ?_
    refine s_iload (pc := 20) (i := 4) dX9_tiredTogether_20 rfl ?_
    refine m_ia (pc := 22) dX9_tiredTogether_22 ho.2.1.2 (vp_in_nI (n := i) (by omega) (by decide)) ?_
    refine m_nm (v' := (fun b => nI (sT S b)) i) (rdI (j := i) ((hS.1 i (by omega)).1) (by omega)) ?_
    refine s_istore (pc := 23) (i := 5) dX9_tiredTogether_23 (Nat.le_of_ble_eq_true rfl) ?_
    dsimp only [List.set, List.filter]
    refine s_iload_n (pc := 25) (i := 1) dX9_tiredTogether_25 rfl rfl ?_
    refine s_iload (pc := 26) (i := 5) dX9_tiredTogether_26 rfl ?_
    refine s_iadd (pc := 28) dX9_tiredTogether_28 ?_
    refine s_istore_n (pc := 29) (i := 1) dX9_tiredTogether_29 rfl (Nat.le_of_ble_eq_true rfl) ?_
    dsimp only [List.set, List.filter]
    refine m_inc (pc := 30) (v := 1) dX9_tiredTogether_30 rfl rfl ?_
    dsimp only [List.set, List.filter]
    rw [nI_1]
    refine s_goto (pc := 33) (tgt := 13) dX9_tiredTogether_33 rfl ?_
    exact ih (i + 1) _ (by omega)
theorem c_X9_tiredTogether {o : Nat} (ho : sO o) (hS : Sc I o S) (hq : Q (.inl (some (.int (aI2 (fun b => nI (sT S b)) 7)))) (Z I J n w)) : Cn g (d + 0) mX9_tiredTogether [.ref o] (Z I J n w) Q := by
  show Rn g (d + 0) mX9_tiredTogether 0 [.ref o, .retAddr 0, .retAddr 0, .retAddr 0, .retAddr 0, .retAddr 0] [] [] (Z I J n w) Q
  refine m_ic (pc := 0) (v := 0) dX9_tiredTogether_0 rfl ?_
  refine s_istore_n (pc := 1) (i := 1) dX9_tiredTogether_1 rfl (Nat.le_of_ble_eq_true rfl) ?_
  dsimp only [List.set, List.filter]
  refine s_aload_n (pc := 2) (i := 0) dX9_tiredTogether_2 rfl rfl ?_
  refine m_gr (pc := 3) dX9_tiredTogether_3 ff_X9_9 rfl (ho).1 (ho.2.1).1 ?_
  refine s_astore_n (pc := 6) (i := 2) dX9_tiredTogether_6 rfl (Nat.le_of_ble_eq_true rfl) ?_
  dsimp only [List.set, List.filter]
  refine s_aload_n (pc := 7) (i := 2) dX9_tiredTogether_7 rfl rfl ?_
  refine m_al (pc := 8) dX9_tiredTogether_8 (ho.2.1).2 (by decide) ?_
  refine s_istore_n (pc := 9) (i := 3) dX9_tiredTogether_9 rfl (Nat.le_of_ble_eq_true rfl) ?_
  dsimp only [List.set, List.filter]
  refine m_ic (pc := 10) (v := 0) dX9_tiredTogether_10 rfl ?_
  refine s_istore (pc := 11) (i := 4) dX9_tiredTogether_11 (Nat.le_of_ble_eq_true rfl) ?_
  dsimp only [List.set, List.filter]
  exact tir_lp ho hS hq 7 0 _ (by omega)
theorem bor_lp {o : Nat} (ho : sO o) (hS : Sc I o S) (hq : Q (.inl (some (.int (aI2 (sN S) 12)))) (Z I J n w)) : ∀ f i (v5 : Value), i + f = 12 → Rn g (d + 0) mX9_borneTogether 13 [.ref o, .int (aI2 (sN S) i), .ref (o + 6), .int (nI 12), .int (nI i), v5] [] [] (Z I J n w) Q := by
  intro f
  induction f with
  | zero =>
    intro i v5 hi
    have e : 12 = i := by omega
    subst e
    refine s_iload (pc := 13) (i := 4) dX9_borneTogether_13 rfl ?_
    refine s_iload_n (pc := 15) (i := 3) dX9_borneTogether_15 rfl rfl ?_
    refine s_icge (pc := 16) (tgt := 36) dX9_borneTogether_16 rfl (fun h16 => ?_) (fun h16 => absurd (nI_le (a := 12) (b := 12) (by omega) (by omega)) h16)
    refine s_iload_n (pc := 36) (i := 1) dX9_borneTogether_36 rfl rfl ?_
    refine s_ireturn (pc := 37) dX9_borneTogether_37 rfl rfl ?_
    exact hq
  | succ f ih =>
    intro i v5 hi
    refine s_iload (pc := 13) (i := 4) dX9_borneTogether_13 rfl ?_
    refine s_iload_n (pc := 15) (i := 3) dX9_borneTogether_15 rfl rfl ?_
    refine s_icge (pc := 16) (tgt := 36) dX9_borneTogether_16 rfl (fun h16 => absurd h16 (nI_ge (a := i) (b := 12) (by omega) (by omega))) (fun h16 => ?_)
    refine s_aload_n (pc := 19) (i := 2) dX9_borneTogether_19 rfl rfl ?_
    refine s_iload (pc := 20) (i := 4) dX9_borneTogether_20 rfl ?_
    refine m_ia (pc := 22) dX9_borneTogether_22 ho.2.2.2.2.2.2.2 (vp_in_nI (n := i) (by omega) (by decide)) ?_
    refine m_nm (v' := (sN S) i) (rdI (j := i) (hS.2.2.1 i (by omega)) (by omega)) ?_
    refine s_istore (pc := 23) (i := 5) dX9_borneTogether_23 (Nat.le_of_ble_eq_true rfl) ?_
    dsimp only [List.set, List.filter]
    refine s_iload_n (pc := 25) (i := 1) dX9_borneTogether_25 rfl rfl ?_
    refine s_iload (pc := 26) (i := 5) dX9_borneTogether_26 rfl ?_
    refine s_iadd (pc := 28) dX9_borneTogether_28 ?_
    refine s_istore_n (pc := 29) (i := 1) dX9_borneTogether_29 rfl (Nat.le_of_ble_eq_true rfl) ?_
    dsimp only [List.set, List.filter]
    refine m_inc (pc := 30) (v := 1) dX9_borneTogether_30 rfl rfl ?_
    dsimp only [List.set, List.filter]
    rw [nI_1]
    refine s_goto (pc := 33) (tgt := 13) dX9_borneTogether_33 rfl ?_
    exact ih (i + 1) _ (by omega)
theorem c_X9_borneTogether {o : Nat} (ho : sO o) (hS : Sc I o S) (hq : Q (.inl (some (.int (aI2 (sN S) 12)))) (Z I J n w)) : Cn g (d + 0) mX9_borneTogether [.ref o] (Z I J n w) Q := by
  show Rn g (d + 0) mX9_borneTogether 0 [.ref o, .retAddr 0, .retAddr 0, .retAddr 0, .retAddr 0, .retAddr 0] [] [] (Z I J n w) Q
  refine m_ic (pc := 0) (v := 0) dX9_borneTogether_0 rfl ?_
  refine s_istore_n (pc := 1) (i := 1) dX9_borneTogether_1 rfl (Nat.le_of_ble_eq_true rfl) ?_
  dsimp only [List.set, List.filter]
  refine s_aload_n (pc := 2) (i := 0) dX9_borneTogether_2 rfl rfl ?_
  refine m_gr (pc := 3) dX9_borneTogether_3 ff_X9_27 rfl (ho).1 (ho.2.2.2.2.2.2).1 ?_
  refine s_astore_n (pc := 6) (i := 2) dX9_borneTogether_6 rfl (Nat.le_of_ble_eq_true rfl) ?_
  dsimp only [List.set, List.filter]
  refine s_aload_n (pc := 7) (i := 2) dX9_borneTogether_7 rfl rfl ?_
  refine m_al (pc := 8) dX9_borneTogether_8 (ho.2.2.2.2.2.2).2 (by decide) ?_
  refine s_istore_n (pc := 9) (i := 3) dX9_borneTogether_9 rfl (Nat.le_of_ble_eq_true rfl) ?_
  dsimp only [List.set, List.filter]
  refine m_ic (pc := 10) (v := 0) dX9_borneTogether_10 rfl ?_
  refine s_istore (pc := 11) (i := 4) dX9_borneTogether_11 (Nat.le_of_ble_eq_true rfl) ?_
  dsimp only [List.set, List.filter]
  exact bor_lp ho hS hq 12 0 _ (by omega)
theorem kno_lp {o : Nat} (ho : sO o) (hS : Sc I o S) (hq : Q (.inl (some (.int (oI (fun b => nI (bs (fun c => (sK S b c).isSome) 12)) 7)))) (Z I J n w)) : ∀ f i (v5 : Value), i + f = 7 → Rn g (d + 0) mX9_knownByAny 13 [.ref o, .int (oI (fun b => nI (bs (fun c => (sK S b c).isSome) 12)) i), .ref (o + 4), .int (nI 7), .int (nI i), v5] [] [] (Z I J n w) Q := by
  intro f
  induction f with
  | zero =>
    intro i v5 hi
    have e : 7 = i := by omega
    subst e
    refine s_iload (pc := 13) (i := 4) dX9_knownByAny_13 rfl ?_
    refine s_iload_n (pc := 15) (i := 3) dX9_knownByAny_15 rfl rfl ?_
    refine s_icge (pc := 16) (tgt := 36) dX9_knownByAny_16 rfl (fun h16 => ?_) (fun h16 => absurd (nI_le (a := 7) (b := 7) (by omega) (by omega)) h16)
    refine s_iload_n (pc := 36) (i := 1) dX9_knownByAny_36 rfl rfl ?_
    refine s_ireturn (pc := 37) dX9_knownByAny_37 rfl rfl ?_
    exact hq
  | succ f ih =>
    intro i v5 hi
    refine s_iload (pc := 13) (i := 4) dX9_knownByAny_13 rfl ?_
    refine s_iload_n (pc := 15) (i := 3) dX9_knownByAny_15 rfl rfl ?_
    refine s_icge (pc := 16) (tgt := 36) dX9_knownByAny_16 rfl (fun h16 => absurd h16 (nI_ge (a := i) (b := 7) (by omega) (by omega))) (fun h16 => ?_)
    refine s_aload_n (pc := 19) (i := 2) dX9_knownByAny_19 rfl rfl ?_
    refine s_iload (pc := 20) (i := 4) dX9_knownByAny_20 rfl ?_
    refine m_ia (pc := 22) dX9_knownByAny_22 ho.2.2.2.2.1.2 (vp_in_nI (n := i) (by omega) (by decide)) ?_
    refine m_nm (v' := (fun b => nI (bs (fun c => (sK S b c).isSome) 12)) i) (rdI (j := i) ((hS.1 i (by omega)).2.2.2) (by omega)) ?_
    refine s_istore (pc := 23) (i := 5) dX9_knownByAny_23 (Nat.le_of_ble_eq_true rfl) ?_
    dsimp only [List.set, List.filter]
    refine s_iload_n (pc := 25) (i := 1) dX9_knownByAny_25 rfl rfl ?_
    refine s_iload (pc := 26) (i := 5) dX9_knownByAny_26 rfl ?_
    refine s_ior (pc := 28) dX9_knownByAny_28 ?_
    refine s_istore_n (pc := 29) (i := 1) dX9_knownByAny_29 rfl (Nat.le_of_ble_eq_true rfl) ?_
    dsimp only [List.set, List.filter]
    refine m_inc (pc := 30) (v := 1) dX9_knownByAny_30 rfl rfl ?_
    dsimp only [List.set, List.filter]
    rw [nI_1]
    refine s_goto (pc := 33) (tgt := 13) dX9_knownByAny_33 rfl ?_
    exact ih (i + 1) _ (by omega)
theorem c_X9_knownByAny {o : Nat} (ho : sO o) (hS : Sc I o S) (hq : Q (.inl (some (.int (oI (fun b => nI (bs (fun c => (sK S b c).isSome) 12)) 7)))) (Z I J n w)) : Cn g (d + 0) mX9_knownByAny [.ref o] (Z I J n w) Q := by
  show Rn g (d + 0) mX9_knownByAny 0 [.ref o, .retAddr 0, .retAddr 0, .retAddr 0, .retAddr 0, .retAddr 0] [] [] (Z I J n w) Q
  refine m_ic (pc := 0) (v := 0) dX9_knownByAny_0 rfl ?_
  refine s_istore_n (pc := 1) (i := 1) dX9_knownByAny_1 rfl (Nat.le_of_ble_eq_true rfl) ?_
  dsimp only [List.set, List.filter]
  refine s_aload_n (pc := 2) (i := 0) dX9_knownByAny_2 rfl rfl ?_
  refine m_gr (pc := 3) dX9_knownByAny_3 ff_X9_21 rfl (ho).1 (ho.2.2.2.2.1).1 ?_
  refine s_astore_n (pc := 6) (i := 2) dX9_knownByAny_6 rfl (Nat.le_of_ble_eq_true rfl) ?_
  dsimp only [List.set, List.filter]
  refine s_aload_n (pc := 7) (i := 2) dX9_knownByAny_7 rfl rfl ?_
  refine m_al (pc := 8) dX9_knownByAny_8 (ho.2.2.2.2.1).2 (by decide) ?_
  refine s_istore_n (pc := 9) (i := 3) dX9_knownByAny_9 rfl (Nat.le_of_ble_eq_true rfl) ?_
  dsimp only [List.set, List.filter]
  refine m_ic (pc := 10) (v := 0) dX9_knownByAny_10 rfl ?_
  refine s_istore (pc := 11) (i := 4) dX9_knownByAny_11 (Nat.le_of_ble_eq_true rfl) ?_
  dsimp only [List.set, List.filter]
  exact kno_lp ho hS hq 7 0 _ (by omega)
/-- what all who stand know -/
def nA (D : cD) (S : sD) : Nat → Int32
  | 0 => nI (bs (fun _ => true) (cc D))
  | i + 1 => nA D S i &&& (if sF S i = true then -1 else nI (bs (fun c => (sK S i c).isSome) 12))
theorem nA_f {i : Nat} (h : sF S i = true) : nA D S (i + 1) = nA D S i := by show _ &&& (if _ then _ else _) = _; rw [if_pos h, Int32.and_neg_one]
theorem nA_s {i : Nat} (h : sF S i = false) : nA D S (i + 1) = nA D S i &&& nI (bs (fun c => (sK S i c).isSome) 12) := by show _ &&& (if _ then _ else _) = _; rw [if_neg (by rw [h]; decide)]
theorem c_X1_backBits (hD : Co I 4 D) (hk : cOk D) (hq : Q (.inl (some (.int (nI (bs (fun _ => true) (cb D)))))) (Z I J n w)) : Cn g (d + 0) mX1_backBits [.ref 4] (Z I J n w) Q := by
  have hb7 := hk.1
  have hc12 := hk.2.1
  show Rn g (d + 0) mX1_backBits 0 [.ref 4] [] [] (Z I J n w) Q
  refine m_ic (pc := 0) (v := 1) dX1_backBits_0 rfl ?_
  refine s_aload_n (pc := 1) (i := 0) dX1_backBits_1 rfl rfl ?_
  refine m_gi (pc := 2) dX1_backBits_2 ff_X1_34 rfl o_4 ?_
  refine m_nm (v' := nI (cb D)) (hD.1) ?_
  refine s_ishl (pc := 5) dX1_backBits_5 ?_
  refine m_ic (pc := 6) (v := 1) dX1_backBits_6 rfl ?_
  refine s_isub (pc := 7) dX1_backBits_7 ?_
  refine m_nm (v' := nI (bs (fun _ => true) (cb D))) (ones_bs (by omega)) ?_
  refine s_ireturn (pc := 8) dX1_backBits_8 rfl rfl ?_
  exact hq
theorem c_X1_councilBits (hD : Co I 4 D) (hk : cOk D) (hq : Q (.inl (some (.int (nI (bs (fun _ => true) (cc D)))))) (Z I J n w)) : Cn g (d + 0) mX1_councilBits [.ref 4] (Z I J n w) Q := by
  have hb7 := hk.1
  have hc12 := hk.2.1
  show Rn g (d + 0) mX1_councilBits 0 [.ref 4] [] [] (Z I J n w) Q
  refine m_ic (pc := 0) (v := 1) dX1_councilBits_0 rfl ?_
  refine s_aload_n (pc := 1) (i := 0) dX1_councilBits_1 rfl rfl ?_
  refine m_gi (pc := 2) dX1_councilBits_2 ff_X1_37 rfl o_4 ?_
  refine m_nm (v' := nI (cc D)) (hD.2.1) ?_
  refine s_ishl (pc := 5) dX1_councilBits_5 ?_
  refine m_ic (pc := 6) (v := 1) dX1_councilBits_6 rfl ?_
  refine s_isub (pc := 7) dX1_councilBits_7 ?_
  refine m_nm (v' := nI (bs (fun _ => true) (cc D))) (ones_bs (by omega)) ?_
  refine s_ireturn (pc := 8) dX1_councilBits_8 rfl rfl ?_
  exact hq
theorem kas_lp (hW : Wc I 33 D cs S) (hq : Q (.inl (some (.int (nA D S (cb D))))) (Z I J n w)) : ∀ f i, i + f = cb D → Rn g (d + 1) mX3_knownByAllWhoStand 10 [.ref 31, .ref 33, .int (nA D S i), .int (nI i)] [] [] (Z I J n w) Q := by
  intro f
  induction f with
  | zero =>
    intro i hi
    have e : cb D = i := by omega
    subst e
    have hb7 := hW.2.1.1
    refine s_iload_n (pc := 10) (i := 3) dX3_knownByAllWhoStand_10 rfl rfl ?_
    refine s_aload_n (pc := 11) (i := 0) dX3_knownByAllWhoStand_11 rfl rfl ?_
    refine m_gr (pc := 12) dX3_knownByAllWhoStand_12 ff_X3_9 rfl o_31 r_31_0 ?_
    refine m_gi (pc := 15) dX3_knownByAllWhoStand_15 ff_X3_113 rfl o_4 ?_
    refine m_nm (v' := nI (cb D)) (hW.1.1) ?_
    refine s_icge (pc := 18) (tgt := 48) dX3_knownByAllWhoStand_18 rfl (fun h18 => ?_) (fun h18 => absurd (nI_le (a := cb D) (b := (cb D)) (by omega) (by omega)) h18)
    refine s_iload_n (pc := 48) (i := 2) dX3_knownByAllWhoStand_48 rfl rfl ?_
    refine s_ireturn (pc := 49) dX3_knownByAllWhoStand_49 rfl rfl ?_
    exact hq
  | succ f ih =>
    intro i hi
    have hb7 := hW.2.1.1
    refine s_iload_n (pc := 10) (i := 3) dX3_knownByAllWhoStand_10 rfl rfl ?_
    refine s_aload_n (pc := 11) (i := 0) dX3_knownByAllWhoStand_11 rfl rfl ?_
    refine m_gr (pc := 12) dX3_knownByAllWhoStand_12 ff_X3_9 rfl o_31 r_31_0 ?_
    refine m_gi (pc := 15) dX3_knownByAllWhoStand_15 ff_X3_113 rfl o_4 ?_
    refine m_nm (v' := nI (cb D)) (hW.1.1) ?_
    refine s_icge (pc := 18) (tgt := 48) dX3_knownByAllWhoStand_18 rfl (fun h18 => absurd h18 (nI_ge (a := i) (b := cb D) (by omega) (by omega))) (fun h18 => ?_)
    refine s_iload_n (pc := 21) (i := 2) dX3_knownByAllWhoStand_21 rfl rfl ?_
    refine s_aload_n (pc := 22) (i := 1) dX3_knownByAllWhoStand_22 rfl rfl ?_
    refine s_iload_n (pc := 23) (i := 3) dX3_knownByAllWhoStand_23 rfl rfl ?_
    refine m_v1 (pc := 24) dX3_knownByAllWhoStand_24 lk_X3_90 ok_X9_hasFallen (rcO (sO_33).1 (by decide) rfl) rfl rfl (c_X9_hasFallen sO_33 hW.2.2.2.2.1 (by omega) (fun h => kt_s ?_) (fun h => kt_s ?_))
    · refine s_ifeq (pc := 27) (tgt := 34) dX3_knownByAllWhoStand_27 rfl (fun h27 => absurd h27 (by decide)) (fun h27 => ?_)
      refine s_iload_n (pc := 30) (i := 2) dX3_knownByAllWhoStand_30 rfl rfl ?_
      refine s_goto (pc := 31) (tgt := 40) dX3_knownByAllWhoStand_31 rfl ?_
      refine s_iand (pc := 40) dX3_knownByAllWhoStand_40 ?_
      rw [Int32.and_self, ← nA_f h]
      refine s_istore_n (pc := 41) (i := 2) dX3_knownByAllWhoStand_41 rfl (Nat.le_of_ble_eq_true rfl) ?_
      dsimp only [List.set, List.filter]
      refine m_inc (pc := 42) (v := 1) dX3_knownByAllWhoStand_42 rfl rfl ?_
      dsimp only [List.set, List.filter]
      rw [nI_1]
      refine s_goto (pc := 45) (tgt := 10) dX3_knownByAllWhoStand_45 rfl ?_
      exact ih (i + 1)  (by omega)
    · refine s_ifeq (pc := 27) (tgt := 34) dX3_knownByAllWhoStand_27 rfl (fun h27 => ?_) (fun h27 => absurd h27 (by decide))
      refine s_aload_n (pc := 34) (i := 1) dX3_knownByAllWhoStand_34 rfl rfl ?_
      refine m_gr (pc := 35) dX3_knownByAllWhoStand_35 ff_X3_66 rfl (sO_33).1 (sO_33.2.2.2.2.1).1 ?_
      refine s_iload_n (pc := 38) (i := 3) dX3_knownByAllWhoStand_38 rfl rfl ?_
      refine m_ia (pc := 39) dX3_knownByAllWhoStand_39 (sO_33.2.2.2.2.1).2 (vp_in_nI (n := i) (by omega) (by decide)) ?_
      refine m_nm (v' := nI (bs (fun c => (sK S i c).isSome) 12)) (rdI (j := i) ((hW.2.2.2.2.1.1 i (by omega)).2.2.2) (by omega)) ?_
      refine s_iand (pc := 40) dX3_knownByAllWhoStand_40 ?_
      rw [← nA_s h]
      refine s_istore_n (pc := 41) (i := 2) dX3_knownByAllWhoStand_41 rfl (Nat.le_of_ble_eq_true rfl) ?_
      dsimp only [List.set, List.filter]
      refine m_inc (pc := 42) (v := 1) dX3_knownByAllWhoStand_42 rfl rfl ?_
      dsimp only [List.set, List.filter]
      rw [nI_1]
      refine s_goto (pc := 45) (tgt := 10) dX3_knownByAllWhoStand_45 rfl ?_
      exact ih (i + 1)  (by omega)
theorem c_X3_knownByAllWhoStand (hW : Wc I 33 D cs S) (hq : Q (.inl (some (.int (nA D S (cb D))))) (Z I J n w)) : Cn g (d + 1) mX3_knownByAllWhoStand [.ref 31, .ref 33] (Z I J n w) Q := by
  show Rn g (d + 1) mX3_knownByAllWhoStand 0 [.ref 31, .ref 33, .retAddr 0, .retAddr 0] [] [] (Z I J n w) Q
  refine s_aload_n (pc := 0) (i := 0) dX3_knownByAllWhoStand_0 rfl rfl ?_
  refine m_gr (pc := 1) dX3_knownByAllWhoStand_1 ff_X3_9 rfl o_31 r_31_0 ?_
  refine m_v0 (pc := 4) dX3_knownByAllWhoStand_4 lk_X3_116 ok_X1_councilBits (rcO o_4 (by decide) rfl) rfl rfl (c_X1_councilBits hW.1 hW.2.1 (kt_s ?_))
  refine s_istore_n (pc := 7) (i := 2) dX3_knownByAllWhoStand_7 rfl (Nat.le_of_ble_eq_true rfl) ?_
  dsimp only [List.set, List.filter]
  refine m_ic (pc := 8) (v := 0) dX3_knownByAllWhoStand_8 rfl ?_
  refine s_istore_n (pc := 9) (i := 3) dX3_knownByAllWhoStand_9 rfl (Nat.le_of_ble_eq_true rfl) ?_
  dsimp only [List.set, List.filter]
  exact kas_lp hW hq (cb D) 0 (by omega)
theorem su_lp {q m : Nat} {F0 : Nat → Int32} (hqm : q + m ≤ 126) (hf : ∀ i, i < m → I 550 (q + i) = F0 i) (hq : Q (.inl (some (.int (aI2 F0 m)))) (Z I J n w)) : ∀ f i, i + f = m → Rn g (d + 0) mX12_sumOf 5 [.ref 534, .int (nI q), .int (nI m), .int (aI2 F0 i), .int (nI i)] [] [] (Z I J n w) Q := by
  intro f
  induction f with
  | zero =>
    intro i hi
    have e : m = i := by omega
    subst e
    refine s_iload (pc := 5) (i := 4) dX12_sumOf_5 rfl ?_
    refine s_iload_n (pc := 7) (i := 2) dX12_sumOf_7 rfl rfl ?_
    refine s_icge (pc := 8) (tgt := 29) dX12_sumOf_8 rfl (fun h8 => ?_) (fun h8 => absurd (nI_le (a := m) (b := m) (by omega) (by omega)) h8)
    refine s_iload_n (pc := 29) (i := 3) dX12_sumOf_29 rfl rfl ?_
    refine s_ireturn (pc := 30) dX12_sumOf_30 rfl rfl ?_
    exact hq
  | succ f ih =>
    intro i hi
    refine s_iload (pc := 5) (i := 4) dX12_sumOf_5 rfl ?_
    refine s_iload_n (pc := 7) (i := 2) dX12_sumOf_7 rfl rfl ?_
    refine s_icge (pc := 8) (tgt := 29) dX12_sumOf_8 rfl (fun h8 => absurd h8 (nI_ge (a := i) (b := m) (by omega) (by omega))) (fun h8 => ?_)
    refine s_iload_n (pc := 11) (i := 3) dX12_sumOf_11 rfl rfl ?_
    refine s_aload_n (pc := 12) (i := 0) dX12_sumOf_12 rfl rfl ?_
    refine m_gr (pc := 13) dX12_sumOf_13 ff_X12_62 rfl o_534 r_534_37 ?_
    refine s_iload_n (pc := 16) (i := 1) dX12_sumOf_16 rfl rfl ?_
    refine s_iload (pc := 17) (i := 4) dX12_sumOf_17 rfl ?_
    refine s_iadd (pc := 19) dX12_sumOf_19 ?_
    refine m_nm (v' := nI (q + i)) (nI_add q i) ?_
    refine m_ia (pc := 20) dX12_sumOf_20 a_550 (vp_in_nI (n := q + i) (by omega) (by decide)) ?_
    refine m_nm (v' := F0 i) (rdI (j := q + i) (hf i (by omega)) (by omega)) ?_
    refine s_iadd (pc := 21) dX12_sumOf_21 ?_
    refine s_istore_n (pc := 22) (i := 3) dX12_sumOf_22 rfl (Nat.le_of_ble_eq_true rfl) ?_
    dsimp only [List.set, List.filter]
    refine m_inc (pc := 23) (v := 1) dX12_sumOf_23 rfl rfl ?_
    dsimp only [List.set, List.filter]
    rw [nI_1]
    refine s_goto (pc := 26) (tgt := 5) dX12_sumOf_26 rfl ?_
    exact ih (i + 1)  (by omega)
theorem c_X12_sumOf {q m : Nat} {F0 : Nat → Int32} {qi mi : Int32} (e1 : qi = nI q) (e2 : mi = nI m) (hqm : q + m ≤ 126) (hf : ∀ i, i < m → I 550 (q + i) = F0 i) (hq : Q (.inl (some (.int (aI2 F0 m)))) (Z I J n w)) : Cn g (d + 0) mX12_sumOf [.ref 534, .int qi, .int mi] (Z I J n w) Q := by
  subst e1
  subst e2
  show Rn g (d + 0) mX12_sumOf 0 [.ref 534, .int (nI q), .int (nI m), .retAddr 0, .retAddr 0] [] [] (Z I J n w) Q
  refine m_ic (pc := 0) (v := 0) dX12_sumOf_0 rfl ?_
  refine s_istore_n (pc := 1) (i := 3) dX12_sumOf_1 rfl (Nat.le_of_ble_eq_true rfl) ?_
  dsimp only [List.set, List.filter]
  refine m_ic (pc := 2) (v := 0) dX12_sumOf_2 rfl ?_
  refine s_istore (pc := 3) (i := 4) dX12_sumOf_3 (Nat.le_of_ble_eq_true rfl) ?_
  dsimp only [List.set, List.filter]
  exact su_lp hqm hf hq m 0 (by omega)
theorem fl_bit {i : Nat} (hi : i < 31) : nI (bs (sF S) i) ||| (if sF S i = true then (1 : Int32) else 0) <<< (nI i &&& 31) = nI (bs (sF S) (i + 1)) := by
  by_cases e : sF S i = true
  · rw [if_pos e]; exact bs_s1 hi e
  · rw [if_neg e, Int32.zero_shiftLeft]; exact bs_s0 (ts_nt e)
theorem F7 (h : sOk D S) (hk : cOk D) : bs (sF S) (cb D) = bs (sF S) 7 := bs_up hk.1 (fun i h1 _ => ((h.1 i).2.2 h1).2)
theorem bo_lp (hM : Wm I D cs S) (hq : Q (.inl (some (.int (nI (bs (sF S) 7))))) (Z I J n w)) : ∀ f i, i + f = cb D → Rn g (d + 0) mX12_bitsOf 4 [.ref 534, .int 91, .int (nI (bs (sF S) i)), .int (nI i)] [] [] (Z I J n w) Q := by
  intro f
  induction f with
  | zero =>
    intro i hi
    have e : cb D = i := by omega
    subst e
    have hb7 := hM.2.1.1
    refine s_iload_n (pc := 4) (i := 3) dX12_bitsOf_4 rfl rfl ?_
    refine s_aload_n (pc := 5) (i := 0) dX12_bitsOf_5 rfl rfl ?_
    refine m_gi (pc := 6) dX12_bitsOf_6 ff_X12_154 rfl o_534 ?_
    refine m_nm (v' := nI (cb D)) (hM.1.1) ?_
    refine s_icge (pc := 9) (tgt := 31) dX12_bitsOf_9 rfl (fun h9 => ?_) (fun h9 => absurd (nI_le (a := cb D) (b := (cb D)) (by omega) (by omega)) h9)
    refine s_iload_n (pc := 31) (i := 2) dX12_bitsOf_31 rfl rfl ?_
    refine s_ireturn (pc := 32) dX12_bitsOf_32 rfl rfl ?_
    rw [F7 hM.2.2.2.2.2 hM.2.1]; exact hq
  | succ f ih =>
    intro i hi
    have hb7 := hM.2.1.1
    refine s_iload_n (pc := 4) (i := 3) dX12_bitsOf_4 rfl rfl ?_
    refine s_aload_n (pc := 5) (i := 0) dX12_bitsOf_5 rfl rfl ?_
    refine m_gi (pc := 6) dX12_bitsOf_6 ff_X12_154 rfl o_534 ?_
    refine m_nm (v' := nI (cb D)) (hM.1.1) ?_
    refine s_icge (pc := 9) (tgt := 31) dX12_bitsOf_9 rfl (fun h9 => absurd h9 (nI_ge (a := i) (b := cb D) (by omega) (by omega))) (fun h9 => ?_)
    refine s_iload_n (pc := 12) (i := 2) dX12_bitsOf_12 rfl rfl ?_
    refine s_aload_n (pc := 13) (i := 0) dX12_bitsOf_13 rfl rfl ?_
    refine m_gr (pc := 14) dX12_bitsOf_14 ff_X12_62 rfl o_534 r_534_37 ?_
    refine s_iload_n (pc := 17) (i := 1) dX12_bitsOf_17 rfl rfl ?_
    refine s_iload_n (pc := 18) (i := 3) dX12_bitsOf_18 rfl rfl ?_
    refine s_iadd (pc := 19) dX12_bitsOf_19 ?_
    refine m_nm (v' := nI (91 + i)) (nI_add 91 i) ?_
    refine m_ia (pc := 20) dX12_bitsOf_20 a_550 (vp_in_nI (n := 91 + i) (by omega) (by decide)) ?_
    refine m_nm (v' := if sF S i = true then 1 else 0) (rdI (j := 91 + i) ((hM.2.2.2.2.1.1 i (by omega)).2.1) (by omega)) ?_
    refine s_iload_n (pc := 21) (i := 3) dX12_bitsOf_21 rfl rfl ?_
    refine s_ishl (pc := 22) dX12_bitsOf_22 ?_
    refine s_ior (pc := 23) dX12_bitsOf_23 ?_
    refine m_nm (v' := nI (bs (sF S) (i + 1))) (fl_bit (by omega)) ?_
    refine s_istore_n (pc := 24) (i := 2) dX12_bitsOf_24 rfl (Nat.le_of_ble_eq_true rfl) ?_
    dsimp only [List.set, List.filter]
    refine m_inc (pc := 25) (v := 1) dX12_bitsOf_25 rfl rfl ?_
    dsimp only [List.set, List.filter]
    rw [nI_1]
    refine s_goto (pc := 28) (tgt := 4) dX12_bitsOf_28 rfl ?_
    exact ih (i + 1)  (by omega)
theorem c_X12_bitsOf (hM : Wm I D cs S) (hq : Q (.inl (some (.int (nI (bs (sF S) 7))))) (Z I J n w)) : Cn g (d + 0) mX12_bitsOf [.ref 534, .int 91] (Z I J n w) Q := by
  show Rn g (d + 0) mX12_bitsOf 0 [.ref 534, .int 91, .retAddr 0, .retAddr 0] [] [] (Z I J n w) Q
  refine m_ic (pc := 0) (v := 0) dX12_bitsOf_0 rfl ?_
  refine s_istore_n (pc := 1) (i := 2) dX12_bitsOf_1 rfl (Nat.le_of_ble_eq_true rfl) ?_
  dsimp only [List.set, List.filter]
  refine m_ic (pc := 2) (v := 0) dX12_bitsOf_2 rfl ?_
  refine s_istore_n (pc := 3) (i := 3) dX12_bitsOf_3 rfl (Nat.le_of_ble_eq_true rfl) ?_
  dsimp only [List.set, List.filter]
  exact bo_lp hM hq (cb D) 0 (by omega)
theorem ka_lp (hM : Wm I D cs S) (hq : Q (.inl (some (.int (oI (fun b => nI (bs (fun c => (sK S b c).isSome) 12)) (cb D))))) (Z I J n w)) : ∀ f i, i + f = cb D → Rn g (d + 2) mX12_knownAny 4 [.ref 534, .int (oI (fun b => nI (bs (fun c => (sK S b c).isSome) 12)) i), .int (nI i)] [] [] (Z I J n w) Q := by
  intro f
  induction f with
  | zero =>
    intro i hi
    have e : cb D = i := by omega
    subst e
    have hb7 := hM.2.1.1
    refine s_iload_n (pc := 4) (i := 2) dX12_knownAny_4 rfl rfl ?_
    refine s_aload_n (pc := 5) (i := 0) dX12_knownAny_5 rfl rfl ?_
    refine m_gi (pc := 6) dX12_knownAny_6 ff_X12_154 rfl o_534 ?_
    refine m_nm (v' := nI (cb D)) (hM.1.1) ?_
    refine s_icge (pc := 9) (tgt := 26) dX12_knownAny_9 rfl (fun h9 => ?_) (fun h9 => absurd (nI_le (a := cb D) (b := (cb D)) (by omega) (by omega)) h9)
    refine s_iload_n (pc := 26) (i := 1) dX12_knownAny_26 rfl rfl ?_
    refine s_ireturn (pc := 27) dX12_knownAny_27 rfl rfl ?_
    exact hq
  | succ f ih =>
    intro i hi
    have hb7 := hM.2.1.1
    refine s_iload_n (pc := 4) (i := 2) dX12_knownAny_4 rfl rfl ?_
    refine s_aload_n (pc := 5) (i := 0) dX12_knownAny_5 rfl rfl ?_
    refine m_gi (pc := 6) dX12_knownAny_6 ff_X12_154 rfl o_534 ?_
    refine m_nm (v' := nI (cb D)) (hM.1.1) ?_
    refine s_icge (pc := 9) (tgt := 26) dX12_knownAny_9 rfl (fun h9 => absurd h9 (nI_ge (a := i) (b := cb D) (by omega) (by omega))) (fun h9 => ?_)
    refine s_iload_n (pc := 12) (i := 1) dX12_knownAny_12 rfl rfl ?_
    refine s_aload_n (pc := 13) (i := 0) dX12_knownAny_13 rfl rfl ?_
    refine s_iload_n (pc := 14) (i := 2) dX12_knownAny_14 rfl rfl ?_
    refine m_v1 (pc := 15) dX12_knownAny_15 lk_X12_335 ok_X12_knownBy (rcO o_534 (by decide) rfl) rfl rfl (c_X12_knownBy hM (by omega) (kt_s ?_))
    refine s_ior (pc := 18) dX12_knownAny_18 ?_
    refine s_istore_n (pc := 19) (i := 1) dX12_knownAny_19 rfl (Nat.le_of_ble_eq_true rfl) ?_
    dsimp only [List.set, List.filter]
    refine m_inc (pc := 20) (v := 1) dX12_knownAny_20 rfl rfl ?_
    dsimp only [List.set, List.filter]
    rw [nI_1]
    refine s_goto (pc := 23) (tgt := 4) dX12_knownAny_23 rfl ?_
    exact ih (i + 1)  (by omega)
theorem no_K (h : sOk D S) (hb : cb D ≤ b) : bs (fun c => (sK S b c).isSome) 12 = 0 := by
  have e : bs (fun c => (sK S b c).isSome) 12 = bs (fun _ => false) 12 := bs_eq (fun c _ => by
    cases e2 : sK S b c with
    | none => rfl
    | some v => have := (h.2.1 b c v e2).2.1; omega)
  rw [e]; decide
theorem kA7 (h : sOk D S) (hk : cOk D) : oI (fun b => nI (bs (fun c => (sK S b c).isSome) 12)) (cb D) = oI (fun b => nI (bs (fun c => (sK S b c).isSome) 12)) 7 := by
  have h1 := oI_up (f := fun b => nI (bs (fun c => (sK S b c).isSome) 12)) (k := cb D) (7 - cb D) (fun i z _ => by show nI (bs (fun c => (sK S i c).isSome) 12) = 0; rw [no_K h z]; rfl)
  rw [show cb D + (7 - cb D) = 7 by have := hk.1; omega] at h1
  exact h1.symm
theorem sT7 (h : sOk D S) (hk : cOk D) : aI2 (fun b => nI (sT S b)) (cb D) = aI2 (fun b => nI (sT S b)) 7 := by
  have h1 := aI_up (f := fun b => nI (sT S b)) (k := cb D) (7 - cb D) (fun i z _ => by show nI (sT S i) = 0; rw [((h.1 i).2.2 z).1]; rfl)
  rw [show cb D + (7 - cb D) = 7 by have := hk.1; omega] at h1
  exact h1.symm
theorem sN12 (h : sOk D S) (hk : cOk D) : aI2 (sN S) (cc D) = aI2 (sN S) 12 := by
  have h1 := aI_up (f := sN S) (k := cc D) (12 - cc D) (fun i z _ => h.2.2.1 i z)
  rw [show cc D + (12 - cc D) = 12 by have := hk.2.1; omega] at h1
  exact h1.symm
theorem c_X12_knownAny (hM : Wm I D cs S) (hq : Q (.inl (some (.int (oI (fun b => nI (bs (fun c => (sK S b c).isSome) 12)) 7)))) (Z I J n w)) : Cn g (d + 2) mX12_knownAny [.ref 534] (Z I J n w) Q := by
  rw [← kA7 hM.2.2.2.2.2 hM.2.1] at hq
  show Rn g (d + 2) mX12_knownAny 0 [.ref 534, .retAddr 0, .retAddr 0] [] [] (Z I J n w) Q
  refine m_ic (pc := 0) (v := 0) dX12_knownAny_0 rfl ?_
  refine s_istore_n (pc := 1) (i := 1) dX12_knownAny_1 rfl (Nat.le_of_ble_eq_true rfl) ?_
  dsimp only [List.set, List.filter]
  refine m_ic (pc := 2) (v := 0) dX12_knownAny_2 rfl ?_
  refine s_istore_n (pc := 3) (i := 2) dX12_knownAny_3 rfl (Nat.le_of_ble_eq_true rfl) ?_
  dsimp only [List.set, List.filter]
  exact ka_lp hM hq (cb D) 0 (by omega)
theorem kl_lp (hM : Wm I D cs S) (hq : Q (.inl (some (.int (nA D S (cb D))))) (Z I J n w)) : ∀ f i, i + f = cb D → Rn g (d + 2) mX12_knownAll 11 [.ref 534, .int (nA D S i), .int (nI i)] [] [] (Z I J n w) Q := by
  intro f
  induction f with
  | zero =>
    intro i hi
    have e : cb D = i := by omega
    subst e
    have hb7 := hM.2.1.1
    refine s_iload_n (pc := 11) (i := 2) dX12_knownAll_11 rfl rfl ?_
    refine s_aload_n (pc := 12) (i := 0) dX12_knownAll_12 rfl rfl ?_
    refine m_gi (pc := 13) dX12_knownAll_13 ff_X12_154 rfl o_534 ?_
    refine m_nm (v' := nI (cb D)) (hM.1.1) ?_
    refine s_icge (pc := 16) (tgt := 50) dX12_knownAll_16 rfl (fun h16 => ?_) (fun h16 => absurd (nI_le (a := cb D) (b := (cb D)) (by omega) (by omega)) h16)
    refine s_iload_n (pc := 50) (i := 1) dX12_knownAll_50 rfl rfl ?_
    refine s_ireturn (pc := 51) dX12_knownAll_51 rfl rfl ?_
    exact hq
  | succ f ih =>
    intro i hi
    have hb7 := hM.2.1.1
    refine s_iload_n (pc := 11) (i := 2) dX12_knownAll_11 rfl rfl ?_
    refine s_aload_n (pc := 12) (i := 0) dX12_knownAll_12 rfl rfl ?_
    refine m_gi (pc := 13) dX12_knownAll_13 ff_X12_154 rfl o_534 ?_
    refine m_nm (v' := nI (cb D)) (hM.1.1) ?_
    refine s_icge (pc := 16) (tgt := 50) dX12_knownAll_16 rfl (fun h16 => absurd h16 (nI_ge (a := i) (b := cb D) (by omega) (by omega))) (fun h16 => ?_)
    refine s_iload_n (pc := 19) (i := 1) dX12_knownAll_19 rfl rfl ?_
    refine s_aload_n (pc := 20) (i := 0) dX12_knownAll_20 rfl rfl ?_
    refine m_gr (pc := 21) dX12_knownAll_21 ff_X12_62 rfl o_534 r_534_37 ?_
    refine m_bi (pc := 24) (v := 91) dX12_knownAll_24 rfl ?_
    refine s_iload_n (pc := 26) (i := 2) dX12_knownAll_26 rfl rfl ?_
    refine s_iadd (pc := 27) dX12_knownAll_27 ?_
    refine m_nm (v' := nI (91 + i)) (nI_add 91 i) ?_
    refine m_ia (pc := 28) dX12_knownAll_28 a_550 (vp_in_nI (n := 91 + i) (by omega) (by decide)) ?_
    refine m_nm (v' := if sF S i = true then 1 else 0) (rdI (j := 91 + i) ((hM.2.2.2.2.1.1 i (by omega)).2.1) (by omega)) ?_
    refine m_ic (pc := 29) (v := 1) dX12_knownAll_29 rfl ?_
    refine s_icne (pc := 30) (tgt := 37) dX12_knownAll_30 rfl (fun h30 => ?_) (fun h30 => ?_)
    · have e : sF S i = false := ts_nt (fun z => h30 (if_pos z))
      refine s_aload_n (pc := 37) (i := 0) dX12_knownAll_37 rfl rfl ?_
      refine s_iload_n (pc := 38) (i := 2) dX12_knownAll_38 rfl rfl ?_
      refine m_v1 (pc := 39) dX12_knownAll_39 lk_X12_335 ok_X12_knownBy (rcO o_534 (by decide) rfl) rfl rfl (c_X12_knownBy hM (by omega) (kt_s ?_))
      refine s_iand (pc := 42) dX12_knownAll_42 ?_
      rw [← nA_s e]
      refine s_istore_n (pc := 43) (i := 1) dX12_knownAll_43 rfl (Nat.le_of_ble_eq_true rfl) ?_
      dsimp only [List.set, List.filter]
      refine m_inc (pc := 44) (v := 1) dX12_knownAll_44 rfl rfl ?_
      dsimp only [List.set, List.filter]
      rw [nI_1]
      refine s_goto (pc := 47) (tgt := 11) dX12_knownAll_47 rfl ?_
      exact ih (i + 1)  (by omega)
    · have e : sF S i = true := ts_nf (fun z => by rw [if_neg (by rw [z]; decide)] at h30; exact absurd h30 (by decide))
      refine m_ic (pc := 33) (v := -1) dX12_knownAll_33 rfl ?_
      refine s_goto (pc := 34) (tgt := 42) dX12_knownAll_34 rfl ?_
      refine s_iand (pc := 42) dX12_knownAll_42 ?_
      rw [Int32.and_neg_one, ← nA_f e]
      refine s_istore_n (pc := 43) (i := 1) dX12_knownAll_43 rfl (Nat.le_of_ble_eq_true rfl) ?_
      dsimp only [List.set, List.filter]
      refine m_inc (pc := 44) (v := 1) dX12_knownAll_44 rfl rfl ?_
      dsimp only [List.set, List.filter]
      rw [nI_1]
      refine s_goto (pc := 47) (tgt := 11) dX12_knownAll_47 rfl ?_
      exact ih (i + 1)  (by omega)
theorem c_X12_knownAll (hM : Wm I D cs S) (hq : Q (.inl (some (.int (nA D S (cb D))))) (Z I J n w)) : Cn g (d + 2) mX12_knownAll [.ref 534] (Z I J n w) Q := by
  have hc12 := hM.2.1.2.1
  show Rn g (d + 2) mX12_knownAll 0 [.ref 534, .retAddr 0, .retAddr 0] [] [] (Z I J n w) Q
  refine m_ic (pc := 0) (v := 1) dX12_knownAll_0 rfl ?_
  refine s_aload_n (pc := 1) (i := 0) dX12_knownAll_1 rfl rfl ?_
  refine m_gi (pc := 2) dX12_knownAll_2 ff_X12_157 rfl o_534 ?_
  refine m_nm (v' := nI (cc D)) (hM.1.2.1) ?_
  refine s_ishl (pc := 5) dX12_knownAll_5 ?_
  refine m_ic (pc := 6) (v := 1) dX12_knownAll_6 rfl ?_
  refine s_isub (pc := 7) dX12_knownAll_7 ?_
  refine m_nm (v' := nI (bs (fun _ => true) (cc D))) (ones_bs (by omega)) ?_
  refine s_istore_n (pc := 8) (i := 1) dX12_knownAll_8 rfl (Nat.le_of_ble_eq_true rfl) ?_
  dsimp only [List.set, List.filter]
  refine m_ic (pc := 9) (v := 0) dX12_knownAll_9 rfl ?_
  refine s_istore_n (pc := 10) (i := 2) dX12_knownAll_10 rfl (Nat.le_of_ble_eq_true rfl) ?_
  dsimp only [List.set, List.filter]
  exact kl_lp hM hq (cb D) 0 (by omega)
def vTold (D : cD) (S : sD) (kB : Nat) (rr : Int32) (q : Nat) : Int32 := if q = 0 then nI (cb D) else if q = 1 then nI (cc D) else if q = 2 then nI (ck D) else if q = 3 then nI (sY S) else if q = 4 then nI (sH S) else if q = 5 then nI (bs (sF S) 7) else if q = 6 then aI2 (fun b => nI (sT S b)) 7 else if q = 7 then aI2 (sN S) 12 else if q = 8 then oI (fun b => nI (bs (fun c => (sK S b c).isSome) 12)) 7 else if q = 9 then nI kB else if q = 10 then rr else nA D S (cb D)
theorem c_X11_told (hW : Wc I 33 D cs S) (hn : n + 1 ≤ 600000 ∧ w + 6 ≤ 7000000) {kB : Nat} {rr : Int32} (hB : I 22 1 = nI kB) (hr : I 1 16 = rr) {x : Int32} (r0 : ¬ iv 0 (12) x → Q (.inr 1) (Z (up I 1 18 (I 1 18 + 1)) J (n + 1) (w + 6))) (hg : ∀ q, x = nI q → q < 12 → ∀ I', kc I I' → Q (.inl (some (.int (vTold D S kB rr q)))) (Z I' J n w)) : Cn g (d + 8) mX11_told [.ref 1, .int x] (Z I J n w) Q := by
  have hb7 := hW.2.1.1
  have hc12 := hW.2.1.2.1
  show Rn g (d + 8) mX11_told 0 [.ref 1, .int x] [] [] (Z I J n w) Q
  refine s_aload_n (pc := 0) (i := 0) dX11_told_0 rfl rfl ?_
  refine s_iload_n (pc := 1) (i := 1) dX11_told_1 rfl rfl ?_
  refine m_bi (pc := 2) (v := 12) dX11_told_2 rfl ?_
  refine m_v2 (pc := 4) dX11_told_4 lk_X11_181 ok_X11_needWhat (rcO o_1 (by decide) rfl) rfl rfl (c_nw (m := 12) rfl (by decide) hn (fun q eq hq => kt_v ?_) (fun z => kt_x ?_))
  · subst eq
    rcases (show q = 0 ∨ q = 1 ∨ q = 2 ∨ q = 3 ∨ q = 4 ∨ q = 5 ∨ q = 6 ∨ q = 7 ∨ q = 8 ∨ q = 9 ∨ q = 10 ∨ q = 11 from by omega) with qe | qe | qe | qe | qe | qe | qe | qe | qe | qe | qe | qe
    · subst qe
      refine s_iload_n (pc := 7) (i := 1) dX11_told_7 rfl rfl ?_
      refine s_tabIn (pc := 8) (tgt := 68) dX11_told_8 (by decide) (by decide) rfl rfl ?_
      refine s_aload_n (pc := 68) (i := 0) dX11_told_68 rfl rfl ?_
      refine m_gr (pc := 69) dX11_told_69 ff_X11_19 rfl o_1 r_1_1 ?_
      refine m_gi (pc := 72) dX11_told_72 ff_X11_143 rfl o_4 ?_
      refine m_nm (v' := nI (cb D)) (hW.1.1) ?_
      refine s_ireturn (pc := 75) dX11_told_75 rfl rfl ?_
      exact hg 0 rfl (by decide) I kc_r
    · subst qe
      refine s_iload_n (pc := 7) (i := 1) dX11_told_7 rfl rfl ?_
      refine s_tabIn (pc := 8) (tgt := 76) dX11_told_8 (by decide) (by decide) rfl rfl ?_
      refine s_aload_n (pc := 76) (i := 0) dX11_told_76 rfl rfl ?_
      refine m_gr (pc := 77) dX11_told_77 ff_X11_19 rfl o_1 r_1_1 ?_
      refine m_gi (pc := 80) dX11_told_80 ff_X11_184 rfl o_4 ?_
      refine m_nm (v' := nI (cc D)) (hW.1.2.1) ?_
      refine s_ireturn (pc := 83) dX11_told_83 rfl rfl ?_
      exact hg 1 rfl (by decide) I kc_r
    · subst qe
      refine s_iload_n (pc := 7) (i := 1) dX11_told_7 rfl rfl ?_
      refine s_tabIn (pc := 8) (tgt := 84) dX11_told_8 (by decide) (by decide) rfl rfl ?_
      refine s_aload_n (pc := 84) (i := 0) dX11_told_84 rfl rfl ?_
      refine m_gr (pc := 85) dX11_told_85 ff_X11_19 rfl o_1 r_1_1 ?_
      refine m_gi (pc := 88) dX11_told_88 ff_X11_187 rfl o_4 ?_
      refine m_nm (v' := nI (ck D)) (hW.1.2.2.1) ?_
      refine s_ireturn (pc := 91) dX11_told_91 rfl rfl ?_
      exact hg 2 rfl (by decide) I kc_r
    · subst qe
      refine s_iload_n (pc := 7) (i := 1) dX11_told_7 rfl rfl ?_
      refine s_tabIn (pc := 8) (tgt := 92) dX11_told_8 (by decide) (by decide) rfl rfl ?_
      refine s_aload_n (pc := 92) (i := 0) dX11_told_92 rfl rfl ?_
      refine m_gr (pc := 93) dX11_told_93 ff_X11_73 rfl o_1 r_1_10 ?_
      refine m_gi (pc := 96) dX11_told_96 ff_X11_190 rfl o_33 ?_
      refine m_nm (v' := nI (sY S)) (hW.2.2.2.2.1.2.2.2.2.1) ?_
      refine s_ireturn (pc := 99) dX11_told_99 rfl rfl ?_
      exact hg 3 rfl (by decide) I kc_r
    · subst qe
      refine s_iload_n (pc := 7) (i := 1) dX11_told_7 rfl rfl ?_
      refine s_tabIn (pc := 8) (tgt := 100) dX11_told_8 (by decide) (by decide) rfl rfl ?_
      refine s_aload_n (pc := 100) (i := 0) dX11_told_100 rfl rfl ?_
      refine m_gr (pc := 101) dX11_told_101 ff_X11_73 rfl o_1 r_1_10 ?_
      refine m_gi (pc := 104) dX11_told_104 ff_X11_195 rfl o_33 ?_
      refine m_nm (v' := nI (sH S)) (hW.2.2.2.2.1.2.2.2.2.2) ?_
      refine s_ireturn (pc := 107) dX11_told_107 rfl rfl ?_
      exact hg 4 rfl (by decide) I kc_r
    · subst qe
      refine s_iload_n (pc := 7) (i := 1) dX11_told_7 rfl rfl ?_
      refine s_tabIn (pc := 8) (tgt := 108) dX11_told_8 (by decide) (by decide) rfl rfl ?_
      refine s_aload_n (pc := 108) (i := 0) dX11_told_108 rfl rfl ?_
      refine m_gr (pc := 109) dX11_told_109 ff_X11_73 rfl o_1 r_1_10 ?_
      refine m_gi (pc := 112) dX11_told_112 ff_X11_198 rfl o_33 ?_
      refine m_nm (v' := nI (bs (sF S) 7)) (hW.2.2.2.2.1.2.2.2.1) ?_
      refine s_ireturn (pc := 115) dX11_told_115 rfl rfl ?_
      exact hg 5 rfl (by decide) I kc_r
    · subst qe
      refine s_iload_n (pc := 7) (i := 1) dX11_told_7 rfl rfl ?_
      refine s_tabIn (pc := 8) (tgt := 116) dX11_told_8 (by decide) (by decide) rfl rfl ?_
      refine s_aload_n (pc := 116) (i := 0) dX11_told_116 rfl rfl ?_
      refine m_gr (pc := 117) dX11_told_117 ff_X11_73 rfl o_1 r_1_10 ?_
      refine m_v0 (pc := 120) dX11_told_120 lk_X11_201 ok_X9_tiredTogether (rcO o_33 (by decide) rfl) rfl rfl (c_X9_tiredTogether sO_33 hW.2.2.2.2.1 (kt_s ?_))
      refine s_ireturn (pc := 123) dX11_told_123 rfl rfl ?_
      exact hg 6 rfl (by decide) I kc_r
    · subst qe
      refine s_iload_n (pc := 7) (i := 1) dX11_told_7 rfl rfl ?_
      refine s_tabIn (pc := 8) (tgt := 124) dX11_told_8 (by decide) (by decide) rfl rfl ?_
      refine s_aload_n (pc := 124) (i := 0) dX11_told_124 rfl rfl ?_
      refine m_gr (pc := 125) dX11_told_125 ff_X11_73 rfl o_1 r_1_10 ?_
      refine m_v0 (pc := 128) dX11_told_128 lk_X11_204 ok_X9_borneTogether (rcO o_33 (by decide) rfl) rfl rfl (c_X9_borneTogether sO_33 hW.2.2.2.2.1 (kt_s ?_))
      refine s_ireturn (pc := 131) dX11_told_131 rfl rfl ?_
      exact hg 7 rfl (by decide) I kc_r
    · subst qe
      refine s_iload_n (pc := 7) (i := 1) dX11_told_7 rfl rfl ?_
      refine s_tabIn (pc := 8) (tgt := 132) dX11_told_8 (by decide) (by decide) rfl rfl ?_
      refine s_aload_n (pc := 132) (i := 0) dX11_told_132 rfl rfl ?_
      refine m_gr (pc := 133) dX11_told_133 ff_X11_73 rfl o_1 r_1_10 ?_
      refine m_v0 (pc := 136) dX11_told_136 lk_X11_207 ok_X9_knownByAny (rcO o_33 (by decide) rfl) rfl rfl (c_X9_knownByAny sO_33 hW.2.2.2.2.1 (kt_s ?_))
      refine s_ireturn (pc := 139) dX11_told_139 rfl rfl ?_
      exact hg 8 rfl (by decide) I kc_r
    · subst qe
      refine s_iload_n (pc := 7) (i := 1) dX11_told_7 rfl rfl ?_
      refine s_tabIn (pc := 8) (tgt := 140) dX11_told_8 (by decide) (by decide) rfl rfl ?_
      refine s_aload_n (pc := 140) (i := 0) dX11_told_140 rfl rfl ?_
      refine m_gr (pc := 141) dX11_told_141 ff_X11_39 rfl o_1 r_1_5 ?_
      refine m_gi (pc := 144) dX11_told_144 ff_X11_172 rfl o_22 ?_
      refine m_nm (v' := nI kB) (hB) ?_
      refine s_ireturn (pc := 147) dX11_told_147 rfl rfl ?_
      exact hg 9 rfl (by decide) I kc_r
    · subst qe
      refine s_iload_n (pc := 7) (i := 1) dX11_told_7 rfl rfl ?_
      refine s_tabIn (pc := 8) (tgt := 148) dX11_told_8 (by decide) (by decide) rfl rfl ?_
      refine s_aload_n (pc := 148) (i := 0) dX11_told_148 rfl rfl ?_
      refine m_gi (pc := 149) dX11_told_149 ff_X11_140 rfl o_1 ?_
      refine m_nm (v' := rr) (hr) ?_
      refine s_ireturn (pc := 152) dX11_told_152 rfl rfl ?_
      exact hg 10 rfl (by decide) I kc_r
    · subst qe
      refine s_iload_n (pc := 7) (i := 1) dX11_told_7 rfl rfl ?_
      refine s_tabOut (pc := 8) (tgt := 153) dX11_told_8 (by decide) rfl ?_
      refine s_aload_n (pc := 153) (i := 0) dX11_told_153 rfl rfl ?_
      refine m_gr (pc := 154) dX11_told_154 ff_X11_58 rfl o_1 r_1_8 ?_
      refine s_aload_n (pc := 157) (i := 0) dX11_told_157 rfl rfl ?_
      refine m_gr (pc := 158) dX11_told_158 ff_X11_73 rfl o_1 r_1_10 ?_
      refine m_v1 (pc := 161) dX11_told_161 lk_X11_210 ok_X3_knownByAllWhoStand (rcO o_31 (by decide) rfl) rfl rfl (c_X3_knownByAllWhoStand hW (kt_s ?_))
      refine s_ireturn (pc := 164) dX11_told_164 rfl rfl ?_
      exact hg 11 rfl (by decide) I kc_r
  · exact r0  z
theorem c_X12_told (hW : Wn I D cs S) {kB : Nat} {rr : Int32} (hB : I 534 41 = nI kB) (hr : I 534 32 = rr) {x : Int32} (r0 : ¬ iv 0 (12) x → Q (.inl (some (.int 0))) (Z (thr I 1 1) J n w)) (hg : ∀ q, x = nI q → q < 12 → ∀ I', km I I' → I' 534 0 = 0 → Q (.inl (some (.int (vTold D S kB rr q)))) (Z I' J n w)) : Cn g (d + 3) mX12_told [.ref 534, .int x] (Z I J n w) Q := by
  have hb7 := hW.2.1.1
  have hc12 := hW.2.1.2.1
  show Rn g (d + 3) mX12_told 0 [.ref 534, .int x] [] [] (Z I J n w) Q
  refine s_aload_n (pc := 0) (i := 0) dX12_told_0 rfl rfl ?_
  refine m_ic (pc := 1) (v := 0) dX12_told_1 rfl ?_
  refine m_pi (pc := 2) dX12_told_2 ff_X12_3 rfl rfl o_534 ?_
  refine s_aload_n (pc := 5) (i := 0) dX12_told_5 rfl rfl ?_
  refine s_iload_n (pc := 6) (i := 1) dX12_told_6 rfl rfl ?_
  refine m_ic (pc := 7) (v := 0) dX12_told_7 rfl ?_
  refine m_bi (pc := 8) (v := 11) dX12_told_8 rfl ?_
  refine m_s3 (pc := 10) dX12_told_10 lk_X12_373 ok_X12_within rfl rfl (c_win (lo := 0) (m := 12) rfl rfl (by omega) (fun q eq lq hq => kt_s ?_) (fun z => kt_s ?_))
  · subst eq
    refine m_ic (pc := 13) (v := 1) dX12_told_13 rfl ?_
    refine m_ic (pc := 14) (v := 1) dX12_told_14 rfl ?_
    refine m_v3 (pc := 15) dX12_told_15 lk_X12_192 ok_X12_may (rcO o_534 (by decide) rfl) rfl rfl (c_may1 (k := 1) (by decide) rfl up_s (by decide) (kt_s ?_))
    · refine s_ifne (pc := 18) (tgt := 23) dX12_told_18 rfl (fun h18 => ?_) (fun h18 => absurd h18 (by decide))
      refine s_aload_n (pc := 23) (i := 0) dX12_told_23 rfl rfl ?_
      refine m_v0 (pc := 24) dX12_told_24 lk_X12_310 ok_X12_take (rcO o_534 (by decide) rfl) rfl rfl (c_X12_take (kt_v ?_))
      have hM := tk_W hW
      have hK := tk_k (I := I)
      have h00 := tk_0 (I := I)
      obtain ⟨I1, e1⟩ : ∃ z, z = cpI (up I 534 0 0) 549 550 126 := ⟨_, rfl⟩
      rw [← e1] at hM hK h00 ⊢
      have hB1 : I1 534 41 = nI kB := (hK 534 41 (by unfold mS; omega)).trans hB
      have hr1 : I1 534 32 = rr := (hK 534 32 (by unfold mS; omega)).trans hr
      rcases (show q = 0 ∨ q = 1 ∨ q = 2 ∨ q = 3 ∨ q = 4 ∨ q = 5 ∨ q = 6 ∨ q = 7 ∨ q = 8 ∨ q = 9 ∨ q = 10 ∨ q = 11 from by omega) with qe | qe | qe | qe | qe | qe | qe | qe | qe | qe | qe | qe
      · subst qe
        refine s_iload_n (pc := 27) (i := 1) dX12_told_27 rfl rfl ?_
        refine m_ic (pc := 28) (v := 3) dX12_told_28 rfl ?_
        refine s_icge (pc := 29) (tgt := 60) dX12_told_29 rfl (fun h29 => absurd h29 (by decide)) (fun h29 => ?_)
        refine s_iload_n (pc := 32) (i := 1) dX12_told_32 rfl rfl ?_
        refine s_ifne (pc := 33) (tgt := 43) dX12_told_33 rfl (fun h33 => absurd h33 (by decide)) (fun h33 => ?_)
        refine s_aload_n (pc := 36) (i := 0) dX12_told_36 rfl rfl ?_
        refine m_gi (pc := 37) dX12_told_37 ff_X12_154 rfl o_534 ?_
        refine m_nm (v' := nI (cb D)) (hM.1.1) ?_
        refine s_goto (pc := 40) (tgt := 59) dX12_told_40 rfl ?_
        refine s_ireturn (pc := 59) dX12_told_59 rfl rfl ?_
        exact hg 0 rfl (by decide) I1 hK h00
      · subst qe
        refine s_iload_n (pc := 27) (i := 1) dX12_told_27 rfl rfl ?_
        refine m_ic (pc := 28) (v := 3) dX12_told_28 rfl ?_
        refine s_icge (pc := 29) (tgt := 60) dX12_told_29 rfl (fun h29 => absurd h29 (by decide)) (fun h29 => ?_)
        refine s_iload_n (pc := 32) (i := 1) dX12_told_32 rfl rfl ?_
        refine s_ifne (pc := 33) (tgt := 43) dX12_told_33 rfl (fun h33 => ?_) (fun h33 => absurd h33 (by decide))
        refine s_iload_n (pc := 43) (i := 1) dX12_told_43 rfl rfl ?_
        refine m_ic (pc := 44) (v := 1) dX12_told_44 rfl ?_
        refine s_icne (pc := 45) (tgt := 55) dX12_told_45 rfl (fun h45 => absurd h45 (by decide)) (fun h45 => ?_)
        refine s_aload_n (pc := 48) (i := 0) dX12_told_48 rfl rfl ?_
        refine m_gi (pc := 49) dX12_told_49 ff_X12_157 rfl o_534 ?_
        refine m_nm (v' := nI (cc D)) (hM.1.2.1) ?_
        refine s_goto (pc := 52) (tgt := 59) dX12_told_52 rfl ?_
        refine s_ireturn (pc := 59) dX12_told_59 rfl rfl ?_
        exact hg 1 rfl (by decide) I1 hK h00
      · subst qe
        refine s_iload_n (pc := 27) (i := 1) dX12_told_27 rfl rfl ?_
        refine m_ic (pc := 28) (v := 3) dX12_told_28 rfl ?_
        refine s_icge (pc := 29) (tgt := 60) dX12_told_29 rfl (fun h29 => absurd h29 (by decide)) (fun h29 => ?_)
        refine s_iload_n (pc := 32) (i := 1) dX12_told_32 rfl rfl ?_
        refine s_ifne (pc := 33) (tgt := 43) dX12_told_33 rfl (fun h33 => ?_) (fun h33 => absurd h33 (by decide))
        refine s_iload_n (pc := 43) (i := 1) dX12_told_43 rfl rfl ?_
        refine m_ic (pc := 44) (v := 1) dX12_told_44 rfl ?_
        refine s_icne (pc := 45) (tgt := 55) dX12_told_45 rfl (fun h45 => ?_) (fun h45 => absurd h45 (by decide))
        refine s_aload_n (pc := 55) (i := 0) dX12_told_55 rfl rfl ?_
        refine m_gi (pc := 56) dX12_told_56 ff_X12_160 rfl o_534 ?_
        refine m_nm (v' := nI (ck D)) (hM.1.2.2.1) ?_
        refine s_ireturn (pc := 59) dX12_told_59 rfl rfl ?_
        exact hg 2 rfl (by decide) I1 hK h00
      · subst qe
        refine s_iload_n (pc := 27) (i := 1) dX12_told_27 rfl rfl ?_
        refine m_ic (pc := 28) (v := 3) dX12_told_28 rfl ?_
        refine s_icge (pc := 29) (tgt := 60) dX12_told_29 rfl (fun h29 => ?_) (fun h29 => absurd h29 (by decide))
        refine s_iload_n (pc := 60) (i := 1) dX12_told_60 rfl rfl ?_
        refine m_bi (pc := 61) (v := 6) dX12_told_61 rfl ?_
        refine s_icge (pc := 63) (tgt := 103) dX12_told_63 rfl (fun h63 => absurd h63 (by decide)) (fun h63 => ?_)
        refine s_iload_n (pc := 66) (i := 1) dX12_told_66 rfl rfl ?_
        refine m_ic (pc := 67) (v := 3) dX12_told_67 rfl ?_
        refine s_icne (pc := 68) (tgt := 81) dX12_told_68 rfl (fun h68 => absurd h68 (by decide)) (fun h68 => ?_)
        refine s_aload_n (pc := 71) (i := 0) dX12_told_71 rfl rfl ?_
        refine m_gr (pc := 72) dX12_told_72 ff_X12_62 rfl o_534 r_534_37 ?_
        refine m_bi (pc := 75) (v := 125) dX12_told_75 rfl ?_
        refine m_ia (pc := 77) dX12_told_77 a_550 (vp_in_nI (n := 125) (by omega) (by decide)) ?_
        refine m_nm (v' := nI (sY S)) (rdI (j := 125) (hM.2.2.2.2.1.2.2.2.2) (by omega)) ?_
        refine s_goto (pc := 78) (tgt := 102) dX12_told_78 rfl ?_
        refine s_ireturn (pc := 102) dX12_told_102 rfl rfl ?_
        exact hg 3 rfl (by decide) I1 hK h00
      · subst qe
        refine s_iload_n (pc := 27) (i := 1) dX12_told_27 rfl rfl ?_
        refine m_ic (pc := 28) (v := 3) dX12_told_28 rfl ?_
        refine s_icge (pc := 29) (tgt := 60) dX12_told_29 rfl (fun h29 => ?_) (fun h29 => absurd h29 (by decide))
        refine s_iload_n (pc := 60) (i := 1) dX12_told_60 rfl rfl ?_
        refine m_bi (pc := 61) (v := 6) dX12_told_61 rfl ?_
        refine s_icge (pc := 63) (tgt := 103) dX12_told_63 rfl (fun h63 => absurd h63 (by decide)) (fun h63 => ?_)
        refine s_iload_n (pc := 66) (i := 1) dX12_told_66 rfl rfl ?_
        refine m_ic (pc := 67) (v := 3) dX12_told_67 rfl ?_
        refine s_icne (pc := 68) (tgt := 81) dX12_told_68 rfl (fun h68 => ?_) (fun h68 => absurd h68 (by decide))
        refine s_iload_n (pc := 81) (i := 1) dX12_told_81 rfl rfl ?_
        refine m_ic (pc := 82) (v := 4) dX12_told_82 rfl ?_
        refine s_icne (pc := 83) (tgt := 96) dX12_told_83 rfl (fun h83 => absurd h83 (by decide)) (fun h83 => ?_)
        refine s_aload_n (pc := 86) (i := 0) dX12_told_86 rfl rfl ?_
        refine m_gr (pc := 87) dX12_told_87 ff_X12_62 rfl o_534 r_534_37 ?_
        refine m_bi (pc := 90) (v := 124) dX12_told_90 rfl ?_
        refine m_ia (pc := 92) dX12_told_92 a_550 (vp_in_nI (n := 124) (by omega) (by decide)) ?_
        refine m_nm (v' := nI (sH S)) (rdI (j := 124) (hM.2.2.2.2.1.2.2.2.1) (by omega)) ?_
        refine s_goto (pc := 93) (tgt := 102) dX12_told_93 rfl ?_
        refine s_ireturn (pc := 102) dX12_told_102 rfl rfl ?_
        exact hg 4 rfl (by decide) I1 hK h00
      · subst qe
        refine s_iload_n (pc := 27) (i := 1) dX12_told_27 rfl rfl ?_
        refine m_ic (pc := 28) (v := 3) dX12_told_28 rfl ?_
        refine s_icge (pc := 29) (tgt := 60) dX12_told_29 rfl (fun h29 => ?_) (fun h29 => absurd h29 (by decide))
        refine s_iload_n (pc := 60) (i := 1) dX12_told_60 rfl rfl ?_
        refine m_bi (pc := 61) (v := 6) dX12_told_61 rfl ?_
        refine s_icge (pc := 63) (tgt := 103) dX12_told_63 rfl (fun h63 => absurd h63 (by decide)) (fun h63 => ?_)
        refine s_iload_n (pc := 66) (i := 1) dX12_told_66 rfl rfl ?_
        refine m_ic (pc := 67) (v := 3) dX12_told_67 rfl ?_
        refine s_icne (pc := 68) (tgt := 81) dX12_told_68 rfl (fun h68 => ?_) (fun h68 => absurd h68 (by decide))
        refine s_iload_n (pc := 81) (i := 1) dX12_told_81 rfl rfl ?_
        refine m_ic (pc := 82) (v := 4) dX12_told_82 rfl ?_
        refine s_icne (pc := 83) (tgt := 96) dX12_told_83 rfl (fun h83 => ?_) (fun h83 => absurd h83 (by decide))
        refine s_aload_n (pc := 96) (i := 0) dX12_told_96 rfl rfl ?_
        refine m_bi (pc := 97) (v := 91) dX12_told_97 rfl ?_
        refine m_v1 (pc := 99) dX12_told_99 lk_X12_370 ok_X12_bitsOf (rcO o_534 (by decide) rfl) rfl rfl (c_X12_bitsOf hM (kt_s ?_))
        refine s_ireturn (pc := 102) dX12_told_102 rfl rfl ?_
        exact hg 5 rfl (by decide) I1 hK h00
      · subst qe
        refine s_iload_n (pc := 27) (i := 1) dX12_told_27 rfl rfl ?_
        refine m_ic (pc := 28) (v := 3) dX12_told_28 rfl ?_
        refine s_icge (pc := 29) (tgt := 60) dX12_told_29 rfl (fun h29 => ?_) (fun h29 => absurd h29 (by decide))
        refine s_iload_n (pc := 60) (i := 1) dX12_told_60 rfl rfl ?_
        refine m_bi (pc := 61) (v := 6) dX12_told_61 rfl ?_
        refine s_icge (pc := 63) (tgt := 103) dX12_told_63 rfl (fun h63 => ?_) (fun h63 => absurd h63 (by decide))
        refine s_iload_n (pc := 103) (i := 1) dX12_told_103 rfl rfl ?_
        refine m_bi (pc := 104) (v := 9) dX12_told_104 rfl ?_
        refine s_icge (pc := 106) (tgt := 152) dX12_told_106 rfl (fun h106 => absurd h106 (by decide)) (fun h106 => ?_)
        refine s_iload_n (pc := 109) (i := 1) dX12_told_109 rfl rfl ?_
        refine m_bi (pc := 110) (v := 6) dX12_told_110 rfl ?_
        refine s_icne (pc := 112) (tgt := 128) dX12_told_112 rfl (fun h112 => absurd h112 (by decide)) (fun h112 => ?_)
        refine s_aload_n (pc := 115) (i := 0) dX12_told_115 rfl rfl ?_
        refine m_bi (pc := 116) (v := 84) dX12_told_116 rfl ?_
        refine s_aload_n (pc := 118) (i := 0) dX12_told_118 rfl rfl ?_
        refine m_gi (pc := 119) dX12_told_119 ff_X12_154 rfl o_534 ?_
        refine m_nm (v' := nI (cb D)) (hM.1.1) ?_
        refine m_v2 (pc := 122) dX12_told_122 lk_X12_376 ok_X12_sumOf (rcO o_534 (by decide) rfl) rfl rfl (c_X12_sumOf (q := 84) (m := cb D) (F0 := (fun b => nI (sT S b))) rfl rfl (by omega) (fun i hi => (hM.2.2.2.2.1.1 i (by omega)).1) (kt_s ?_))
        rw [sT7 hW.2.2.2.2.2 hW.2.1]
        refine s_goto (pc := 125) (tgt := 151) dX12_told_125 rfl ?_
        refine s_ireturn (pc := 151) dX12_told_151 rfl rfl ?_
        exact hg 6 rfl (by decide) I1 hK h00
      · subst qe
        refine s_iload_n (pc := 27) (i := 1) dX12_told_27 rfl rfl ?_
        refine m_ic (pc := 28) (v := 3) dX12_told_28 rfl ?_
        refine s_icge (pc := 29) (tgt := 60) dX12_told_29 rfl (fun h29 => ?_) (fun h29 => absurd h29 (by decide))
        refine s_iload_n (pc := 60) (i := 1) dX12_told_60 rfl rfl ?_
        refine m_bi (pc := 61) (v := 6) dX12_told_61 rfl ?_
        refine s_icge (pc := 63) (tgt := 103) dX12_told_63 rfl (fun h63 => ?_) (fun h63 => absurd h63 (by decide))
        refine s_iload_n (pc := 103) (i := 1) dX12_told_103 rfl rfl ?_
        refine m_bi (pc := 104) (v := 9) dX12_told_104 rfl ?_
        refine s_icge (pc := 106) (tgt := 152) dX12_told_106 rfl (fun h106 => absurd h106 (by decide)) (fun h106 => ?_)
        refine s_iload_n (pc := 109) (i := 1) dX12_told_109 rfl rfl ?_
        refine m_bi (pc := 110) (v := 6) dX12_told_110 rfl ?_
        refine s_icne (pc := 112) (tgt := 128) dX12_told_112 rfl (fun h112 => ?_) (fun h112 => absurd h112 (by decide))
        refine s_iload_n (pc := 128) (i := 1) dX12_told_128 rfl rfl ?_
        refine m_bi (pc := 129) (v := 7) dX12_told_129 rfl ?_
        refine s_icne (pc := 131) (tgt := 147) dX12_told_131 rfl (fun h131 => absurd h131 (by decide)) (fun h131 => ?_)
        refine s_aload_n (pc := 134) (i := 0) dX12_told_134 rfl rfl ?_
        refine m_bi (pc := 135) (v := 112) dX12_told_135 rfl ?_
        refine s_aload_n (pc := 137) (i := 0) dX12_told_137 rfl rfl ?_
        refine m_gi (pc := 138) dX12_told_138 ff_X12_157 rfl o_534 ?_
        refine m_nm (v' := nI (cc D)) (hM.1.2.1) ?_
        refine m_v2 (pc := 141) dX12_told_141 lk_X12_376 ok_X12_sumOf (rcO o_534 (by decide) rfl) rfl rfl (c_X12_sumOf (q := 112) (m := cc D) (F0 := sN S) rfl rfl (by omega) (fun i hi => hM.2.2.2.2.1.2.2.1 i (by omega)) (kt_s ?_))
        rw [sN12 hW.2.2.2.2.2 hW.2.1]
        refine s_goto (pc := 144) (tgt := 151) dX12_told_144 rfl ?_
        refine s_ireturn (pc := 151) dX12_told_151 rfl rfl ?_
        exact hg 7 rfl (by decide) I1 hK h00
      · subst qe
        refine s_iload_n (pc := 27) (i := 1) dX12_told_27 rfl rfl ?_
        refine m_ic (pc := 28) (v := 3) dX12_told_28 rfl ?_
        refine s_icge (pc := 29) (tgt := 60) dX12_told_29 rfl (fun h29 => ?_) (fun h29 => absurd h29 (by decide))
        refine s_iload_n (pc := 60) (i := 1) dX12_told_60 rfl rfl ?_
        refine m_bi (pc := 61) (v := 6) dX12_told_61 rfl ?_
        refine s_icge (pc := 63) (tgt := 103) dX12_told_63 rfl (fun h63 => ?_) (fun h63 => absurd h63 (by decide))
        refine s_iload_n (pc := 103) (i := 1) dX12_told_103 rfl rfl ?_
        refine m_bi (pc := 104) (v := 9) dX12_told_104 rfl ?_
        refine s_icge (pc := 106) (tgt := 152) dX12_told_106 rfl (fun h106 => absurd h106 (by decide)) (fun h106 => ?_)
        refine s_iload_n (pc := 109) (i := 1) dX12_told_109 rfl rfl ?_
        refine m_bi (pc := 110) (v := 6) dX12_told_110 rfl ?_
        refine s_icne (pc := 112) (tgt := 128) dX12_told_112 rfl (fun h112 => ?_) (fun h112 => absurd h112 (by decide))
        refine s_iload_n (pc := 128) (i := 1) dX12_told_128 rfl rfl ?_
        refine m_bi (pc := 129) (v := 7) dX12_told_129 rfl ?_
        refine s_icne (pc := 131) (tgt := 147) dX12_told_131 rfl (fun h131 => ?_) (fun h131 => absurd h131 (by decide))
        refine s_aload_n (pc := 147) (i := 0) dX12_told_147 rfl rfl ?_
        refine m_v0 (pc := 148) dX12_told_148 lk_X12_379 ok_X12_knownAny (rcO o_534 (by decide) rfl) rfl rfl (c_X12_knownAny hM (kt_s ?_))
        refine s_ireturn (pc := 151) dX12_told_151 rfl rfl ?_
        exact hg 8 rfl (by decide) I1 hK h00
      · subst qe
        refine s_iload_n (pc := 27) (i := 1) dX12_told_27 rfl rfl ?_
        refine m_ic (pc := 28) (v := 3) dX12_told_28 rfl ?_
        refine s_icge (pc := 29) (tgt := 60) dX12_told_29 rfl (fun h29 => ?_) (fun h29 => absurd h29 (by decide))
        refine s_iload_n (pc := 60) (i := 1) dX12_told_60 rfl rfl ?_
        refine m_bi (pc := 61) (v := 6) dX12_told_61 rfl ?_
        refine s_icge (pc := 63) (tgt := 103) dX12_told_63 rfl (fun h63 => ?_) (fun h63 => absurd h63 (by decide))
        refine s_iload_n (pc := 103) (i := 1) dX12_told_103 rfl rfl ?_
        refine m_bi (pc := 104) (v := 9) dX12_told_104 rfl ?_
        refine s_icge (pc := 106) (tgt := 152) dX12_told_106 rfl (fun h106 => ?_) (fun h106 => absurd h106 (by decide))
        refine s_iload_n (pc := 152) (i := 1) dX12_told_152 rfl rfl ?_
        refine m_bi (pc := 153) (v := 9) dX12_told_153 rfl ?_
        refine s_icne (pc := 155) (tgt := 165) dX12_told_155 rfl (fun h155 => absurd h155 (by decide)) (fun h155 => ?_)
        refine s_aload_n (pc := 158) (i := 0) dX12_told_158 rfl rfl ?_
        refine m_gi (pc := 159) dX12_told_159 ff_X12_170 rfl o_534 ?_
        refine m_nm (v' := nI kB) (hB1) ?_
        refine s_goto (pc := 162) (tgt := 182) dX12_told_162 rfl ?_
        refine s_ireturn (pc := 182) dX12_told_182 rfl rfl ?_
        exact hg 9 rfl (by decide) I1 hK h00
      · subst qe
        refine s_iload_n (pc := 27) (i := 1) dX12_told_27 rfl rfl ?_
        refine m_ic (pc := 28) (v := 3) dX12_told_28 rfl ?_
        refine s_icge (pc := 29) (tgt := 60) dX12_told_29 rfl (fun h29 => ?_) (fun h29 => absurd h29 (by decide))
        refine s_iload_n (pc := 60) (i := 1) dX12_told_60 rfl rfl ?_
        refine m_bi (pc := 61) (v := 6) dX12_told_61 rfl ?_
        refine s_icge (pc := 63) (tgt := 103) dX12_told_63 rfl (fun h63 => ?_) (fun h63 => absurd h63 (by decide))
        refine s_iload_n (pc := 103) (i := 1) dX12_told_103 rfl rfl ?_
        refine m_bi (pc := 104) (v := 9) dX12_told_104 rfl ?_
        refine s_icge (pc := 106) (tgt := 152) dX12_told_106 rfl (fun h106 => ?_) (fun h106 => absurd h106 (by decide))
        refine s_iload_n (pc := 152) (i := 1) dX12_told_152 rfl rfl ?_
        refine m_bi (pc := 153) (v := 9) dX12_told_153 rfl ?_
        refine s_icne (pc := 155) (tgt := 165) dX12_told_155 rfl (fun h155 => ?_) (fun h155 => absurd h155 (by decide))
        refine s_iload_n (pc := 165) (i := 1) dX12_told_165 rfl rfl ?_
        refine m_bi (pc := 166) (v := 10) dX12_told_166 rfl ?_
        refine s_icne (pc := 168) (tgt := 178) dX12_told_168 rfl (fun h168 => absurd h168 (by decide)) (fun h168 => ?_)
        refine s_aload_n (pc := 171) (i := 0) dX12_told_171 rfl rfl ?_
        refine m_gi (pc := 172) dX12_told_172 ff_X12_179 rfl o_534 ?_
        refine m_nm (v' := rr) (hr1) ?_
        refine s_goto (pc := 175) (tgt := 182) dX12_told_175 rfl ?_
        refine s_ireturn (pc := 182) dX12_told_182 rfl rfl ?_
        exact hg 10 rfl (by decide) I1 hK h00
      · subst qe
        refine s_iload_n (pc := 27) (i := 1) dX12_told_27 rfl rfl ?_
        refine m_ic (pc := 28) (v := 3) dX12_told_28 rfl ?_
        refine s_icge (pc := 29) (tgt := 60) dX12_told_29 rfl (fun h29 => ?_) (fun h29 => absurd h29 (by decide))
        refine s_iload_n (pc := 60) (i := 1) dX12_told_60 rfl rfl ?_
        refine m_bi (pc := 61) (v := 6) dX12_told_61 rfl ?_
        refine s_icge (pc := 63) (tgt := 103) dX12_told_63 rfl (fun h63 => ?_) (fun h63 => absurd h63 (by decide))
        refine s_iload_n (pc := 103) (i := 1) dX12_told_103 rfl rfl ?_
        refine m_bi (pc := 104) (v := 9) dX12_told_104 rfl ?_
        refine s_icge (pc := 106) (tgt := 152) dX12_told_106 rfl (fun h106 => ?_) (fun h106 => absurd h106 (by decide))
        refine s_iload_n (pc := 152) (i := 1) dX12_told_152 rfl rfl ?_
        refine m_bi (pc := 153) (v := 9) dX12_told_153 rfl ?_
        refine s_icne (pc := 155) (tgt := 165) dX12_told_155 rfl (fun h155 => ?_) (fun h155 => absurd h155 (by decide))
        refine s_iload_n (pc := 165) (i := 1) dX12_told_165 rfl rfl ?_
        refine m_bi (pc := 166) (v := 10) dX12_told_166 rfl ?_
        refine s_icne (pc := 168) (tgt := 178) dX12_told_168 rfl (fun h168 => ?_) (fun h168 => absurd h168 (by decide))
        refine s_aload_n (pc := 178) (i := 0) dX12_told_178 rfl rfl ?_
        refine m_v0 (pc := 179) dX12_told_179 lk_X12_382 ok_X12_knownAll (rcO o_534 (by decide) rfl) rfl rfl (c_X12_knownAll hM (kt_s ?_))
        refine s_ireturn (pc := 182) dX12_told_182 rfl rfl ?_
        exact hg 11 rfl (by decide) I1 hK h00
  · refine m_ic (pc := 13) (v := 1) dX12_told_13 rfl ?_
    refine m_ic (pc := 14) (v := 1) dX12_told_14 rfl ?_
    refine m_v3 (pc := 15) dX12_told_15 lk_X12_192 ok_X12_may (rcO o_534 (by decide) rfl) rfl rfl (c_may0 (k := 1) (by decide) rfl up_s (by decide) (kt_s ?_))
    · refine s_ifne (pc := 18) (tgt := 23) dX12_told_18 rfl (fun h18 => absurd h18 (by decide)) (fun h18 => ?_)
      refine m_ic (pc := 21) (v := 0) dX12_told_21 rfl ?_
      refine s_ireturn (pc := 22) dX12_told_22 rfl rfl ?_
      rw [thr_0]
      exact r0  z
end S
