section S
variable {g : aG} {d : Nat} {I : Nat → Nat → Int32} {J : Nat → Nat → Int64} {n w : Nat} {Q : aO → aS → Prop}
variable {σ : aS} {S : sD} {D : cD} {cs : List Nat} {b c k v : Nat} {B : Nat → Option Nat}
/-- what a pair adds to the back -/
def adn (D : cD) (cs : List Nat) (S : sD) (b c : Nat) : Nat := if sF S b = true then 0 else bur D cs S b c 0
/-- the book's lines are right if the back b has x more -/
def rgt (S : sD) (B : Nat → Option Nat) (b x : Nat) : Nat → Bool
  | 0 => true
  | m + 1 => rgt S B b x m && (!(B m).isSome || decide (ob (B m) = nI (sT S m + if m = b then x else 0)))
theorem nb_fl : ∀ x : Bool, narrow FieldType.boolean (Value.int (flb x)) = Value.int (flb x)
  | true => rfl
  | false => rfl
theorem rgt_1 {x m : Nat} : rgt S B b x (m + 1) = (rgt S B b x m && (!(B m).isSome || decide (ob (B m) = nI (sT S m + if m = b then x else 0)))) := rfl
theorem rgt_f {x i : Nat} (h1 : (B i).isSome = true) (h2 : ¬ ob (B i) = nI (sT S i + if i = b then x else 0)) : ∀ m, i < m → rgt S B b x m = false
  | 0, h => absurd h (Nat.not_lt_zero _)
  | m + 1, h => by
    rw [rgt_1]
    by_cases e : i = m
    · subst e; rw [h1, decide_eq_false h2]; simp
    · rw [rgt_f h1 h2 m (by omega)]; rfl
theorem c_X2_added (hW : Wc I 33 D cs S) (hb : b < cb D) (hc : c < cc D) (hq : ∀ I', fl I I' → Q (.inl (some (.int (nI (adn D cs S b c))))) (Z I' J n w)) : Cn g (d + 4) mX2_added [.ref 524, .ref 33, .int (nI b), .int (nI c)] (Z I J n w) Q := by
  have hb7 := hW.2.1.1
  show Rn g (d + 4) mX2_added 0 [.ref 524, .ref 33, .int (nI b), .int (nI c)] [] [] (Z I J n w) Q
  refine s_aload_n (pc := 0) (i := 1) dX2_added_0 rfl rfl ?_
  refine s_iload_n (pc := 1) (i := 2) dX2_added_1 rfl rfl ?_
  refine m_v1 (pc := 2) dX2_added_2 lk_X2_72 ok_X9_hasFallen (rcO (sO_33).1 (by decide) rfl) rfl rfl (c_X9_hasFallen sO_33 hW.2.2.2.2.1 (by omega) (fun z => kt_s ?_) (fun z => kt_s ?_))
  · refine s_ifeq (pc := 5) (tgt := 12) dX2_added_5 rfl (fun h5 => absurd h5 (by decide)) (fun h5 => ?_)
    refine m_ic (pc := 8) (v := 0) dX2_added_8 rfl ?_
    refine s_goto (pc := 9) (tgt := 23) dX2_added_9 rfl ?_
    refine s_ireturn (pc := 23) dX2_added_23 rfl rfl ?_
    have E : adn D cs S b c = 0 := if_pos z
    have h := hq I fl_r
    rw [E] at h; exact h
  · refine s_ifeq (pc := 5) (tgt := 12) dX2_added_5 rfl (fun h5 => ?_) (fun h5 => absurd h5 (by decide))
    refine s_aload_n (pc := 12) (i := 0) dX2_added_12 rfl rfl ?_
    refine m_gr (pc := 13) dX2_added_13 ff_X2_15 rfl o_524 r_524_0 ?_
    refine s_aload_n (pc := 16) (i := 1) dX2_added_16 rfl rfl ?_
    refine s_iload_n (pc := 17) (i := 2) dX2_added_17 rfl rfl ?_
    refine s_iload_n (pc := 18) (i := 3) dX2_added_18 rfl rfl ?_
    refine m_ic (pc := 19) (v := 0) dX2_added_19 rfl ?_
    refine m_v4 (pc := 20) dX2_added_20 lk_X2_77 ok_X3_burdenOn (rcO o_31 (by decide) rfl) rfl rfl (c_X3_burdenOn (k := 0) sO_33 (by decide) hW hb hc (Nat.zero_le _) (fun I1 f1 => kt_s ?_))
    refine s_ireturn (pc := 23) dX2_added_23 rfl rfl ?_
    have E : adn D cs S b c = bur D cs S b c 0 := if_neg (by rw [z]; decide)
    have h := hq I1 f1
    rw [E] at h; exact h
theorem rig_lp {x : Nat} (hW : Wc I 33 D cs S) (hB : Bc I 22 B k) (hbk : bOk B) (h1 : rgt S B b x (cb D) = true → Q (.inl (some (.int 1))) (Z I J n w)) (h0 : rgt S B b x (cb D) = false → Q (.inl (some (.int 0))) (Z I J n w)) (hb : b < cb D) : ∀ f i (v5 : Value), i + f = cb D → rgt S B b x i = true → Rn g (d + 1) mX2_isRight 3 [.ref 524, .ref 33, .int (nI b), .int (nI x), .int (nI i), v5] [] [] (Z I J n w) Q := by
  intro f
  induction f with
  | zero =>
    intro i v5 hi hM
    have e : cb D = i := by omega
    subst e
    have hb7 := hW.2.1.1
    have hc12 := hW.2.1.2.1
    refine s_iload (pc := 3) (i := 4) dX2_isRight_3 rfl ?_
    refine s_aload_n (pc := 5) (i := 0) dX2_isRight_5 rfl rfl ?_
    refine m_gr (pc := 6) dX2_isRight_6 ff_X2_15 rfl o_524 r_524_0 ?_
    refine m_gr (pc := 9) dX2_isRight_9 ff_X2_30 rfl o_31 r_31_0 ?_
    refine m_gi (pc := 12) dX2_isRight_12 ff_X2_36 rfl o_4 ?_
    refine m_nm (v' := nI (cb D)) (hW.1.1) ?_
    refine s_icge (pc := 15) (tgt := 74) dX2_isRight_15 rfl (fun h15 => ?_) (fun h15 => absurd (nI_le (a := cb D) (b := (cb D)) (by omega) (by omega)) h15)
    refine m_ic (pc := 74) (v := 1) dX2_isRight_74 rfl ?_
    refine s_ireturn (pc := 75) dX2_isRight_75 rfl rfl ?_
    exact h1 hM
  | succ f ih =>
    intro i v5 hi hM
    have hb7 := hW.2.1.1
    have hc12 := hW.2.1.2.1
    refine s_iload (pc := 3) (i := 4) dX2_isRight_3 rfl ?_
    refine s_aload_n (pc := 5) (i := 0) dX2_isRight_5 rfl rfl ?_
    refine m_gr (pc := 6) dX2_isRight_6 ff_X2_15 rfl o_524 r_524_0 ?_
    refine m_gr (pc := 9) dX2_isRight_9 ff_X2_30 rfl o_31 r_31_0 ?_
    refine m_gi (pc := 12) dX2_isRight_12 ff_X2_36 rfl o_4 ?_
    refine m_nm (v' := nI (cb D)) (hW.1.1) ?_
    refine s_icge (pc := 15) (tgt := 74) dX2_isRight_15 rfl (fun h15 => absurd h15 (nI_ge (a := i) (b := cb D) (by omega) (by omega))) (fun h15 => ?_)
    refine s_aload_n (pc := 18) (i := 1) dX2_isRight_18 rfl rfl ?_
    refine m_gr (pc := 19) dX2_isRight_19 ff_X2_81 rfl (sO_33).1 (sO_33.2.1).1 ?_
    refine s_iload (pc := 22) (i := 4) dX2_isRight_22 rfl ?_
    refine m_ia (pc := 24) dX2_isRight_24 (sO_33.2.1).2 (vp_in_nI (n := i) (by omega) (by decide)) ?_
    refine m_nm (v' := nI (sT S i)) (rdI (j := i) ((hW.2.2.2.2.1.1 i (by omega)).1) (by omega)) ?_
    refine s_iload (pc := 25) (i := 4) dX2_isRight_25 rfl ?_
    refine s_iload_n (pc := 27) (i := 2) dX2_isRight_27 rfl rfl ?_
    refine s_icne (pc := 28) (tgt := 35) dX2_isRight_28 rfl (fun h28 => ?_) (fun h28 => ?_)
    · have h28 : ¬ i = b := fun z => h28 ((nI_eq (a := i) (b := b) (by omega) (by omega)).mpr z)
      refine m_ic (pc := 35) (v := 0) dX2_isRight_35 rfl ?_
      refine s_iadd (pc := 36) dX2_isRight_36 ?_
      refine m_nm (v' := nI ((sT S i) + 0)) (nI_add (sT S i) 0) ?_
      refine s_istore (pc := 37) (i := 5) dX2_isRight_37 (Nat.le_of_ble_eq_true rfl) ?_
      dsimp only [List.set, List.filter]
      refine s_aload_n (pc := 39) (i := 0) dX2_isRight_39 rfl rfl ?_
      refine m_gr (pc := 40) dX2_isRight_40 ff_X2_19 rfl o_524 r_524_1 ?_
      refine s_iload (pc := 43) (i := 4) dX2_isRight_43 rfl ?_
      refine m_v1 (pc := 45) dX2_isRight_45 lk_X2_62 ok_X0_hasLine (rcO o_22 (by decide) rfl) rfl rfl (c_X0_hasLine rfl hB hbk (by omega) (fun z => kt_s ?_) (fun z => kt_s ?_))
      · refine s_ifeq (pc := 48) (tgt := 68) dX2_isRight_48 rfl (fun h48 => absurd h48 (by decide)) (fun h48 => ?_)
        refine s_aload_n (pc := 51) (i := 0) dX2_isRight_51 rfl rfl ?_
        refine m_gr (pc := 52) dX2_isRight_52 ff_X2_19 rfl o_524 r_524_1 ?_
        refine m_gr (pc := 55) dX2_isRight_55 ff_X2_84 rfl o_22 r_22_0 ?_
        refine s_iload (pc := 58) (i := 4) dX2_isRight_58 rfl ?_
        refine m_ia (pc := 60) dX2_isRight_60 a_23 (vp_in_nI (n := i) (by omega) (by decide)) ?_
        refine m_nm (v' := ob (B i)) (rdI (j := i) (hB.2 i (by omega)) (by omega)) ?_
        refine s_iload (pc := 61) (i := 5) dX2_isRight_61 rfl ?_
        refine s_iceq (pc := 63) (tgt := 68) dX2_isRight_63 rfl (fun h63 => ?_) (fun h63 => ?_)
        · skip
          refine m_inc (pc := 68) (v := 1) dX2_isRight_68 rfl rfl ?_
          dsimp only [List.set, List.filter]
          rw [nI_1]
          refine s_goto (pc := 71) (tgt := 3) dX2_isRight_71 rfl ?_
          have e1 : rgt S B b x (i + 1) = true := by rw [rgt_1, hM, if_neg h28, decide_eq_true h63, Bool.or_true]; rfl
          exact ih (i + 1) _ (by omega) e1
        · skip
          refine m_ic (pc := 66) (v := 0) dX2_isRight_66 rfl ?_
          refine s_ireturn (pc := 67) dX2_isRight_67 rfl rfl ?_
          exact h0 (rgt_f z (by rw [if_neg h28]; exact h63) (cb D) (by omega))
      · refine s_ifeq (pc := 48) (tgt := 68) dX2_isRight_48 rfl (fun h48 => ?_) (fun h48 => absurd h48 (by decide))
        refine m_inc (pc := 68) (v := 1) dX2_isRight_68 rfl rfl ?_
        dsimp only [List.set, List.filter]
        rw [nI_1]
        refine s_goto (pc := 71) (tgt := 3) dX2_isRight_71 rfl ?_
        have e1 : rgt S B b x (i + 1) = true := by rw [rgt_1, hM, z]; rfl
        exact ih (i + 1) _ (by omega) e1
    · have h28 : i = b := (nI_eq (a := i) (b := b) (by omega) (by omega)).mp h28
      refine s_iload_n (pc := 31) (i := 3) dX2_isRight_31 rfl rfl ?_
      refine s_goto (pc := 32) (tgt := 36) dX2_isRight_32 rfl ?_
      refine s_iadd (pc := 36) dX2_isRight_36 ?_
      refine m_nm (v' := nI ((sT S i) + x)) (nI_add (sT S i) x) ?_
      refine s_istore (pc := 37) (i := 5) dX2_isRight_37 (Nat.le_of_ble_eq_true rfl) ?_
      dsimp only [List.set, List.filter]
      refine s_aload_n (pc := 39) (i := 0) dX2_isRight_39 rfl rfl ?_
      refine m_gr (pc := 40) dX2_isRight_40 ff_X2_19 rfl o_524 r_524_1 ?_
      refine s_iload (pc := 43) (i := 4) dX2_isRight_43 rfl ?_
      refine m_v1 (pc := 45) dX2_isRight_45 lk_X2_62 ok_X0_hasLine (rcO o_22 (by decide) rfl) rfl rfl (c_X0_hasLine rfl hB hbk (by omega) (fun z => kt_s ?_) (fun z => kt_s ?_))
      · refine s_ifeq (pc := 48) (tgt := 68) dX2_isRight_48 rfl (fun h48 => absurd h48 (by decide)) (fun h48 => ?_)
        refine s_aload_n (pc := 51) (i := 0) dX2_isRight_51 rfl rfl ?_
        refine m_gr (pc := 52) dX2_isRight_52 ff_X2_19 rfl o_524 r_524_1 ?_
        refine m_gr (pc := 55) dX2_isRight_55 ff_X2_84 rfl o_22 r_22_0 ?_
        refine s_iload (pc := 58) (i := 4) dX2_isRight_58 rfl ?_
        refine m_ia (pc := 60) dX2_isRight_60 a_23 (vp_in_nI (n := i) (by omega) (by decide)) ?_
        refine m_nm (v' := ob (B i)) (rdI (j := i) (hB.2 i (by omega)) (by omega)) ?_
        refine s_iload (pc := 61) (i := 5) dX2_isRight_61 rfl ?_
        refine s_iceq (pc := 63) (tgt := 68) dX2_isRight_63 rfl (fun h63 => ?_) (fun h63 => ?_)
        · skip
          refine m_inc (pc := 68) (v := 1) dX2_isRight_68 rfl rfl ?_
          dsimp only [List.set, List.filter]
          rw [nI_1]
          refine s_goto (pc := 71) (tgt := 3) dX2_isRight_71 rfl ?_
          have e1 : rgt S B b x (i + 1) = true := by rw [rgt_1, hM, if_pos h28, decide_eq_true h63, Bool.or_true]; rfl
          exact ih (i + 1) _ (by omega) e1
        · skip
          refine m_ic (pc := 66) (v := 0) dX2_isRight_66 rfl ?_
          refine s_ireturn (pc := 67) dX2_isRight_67 rfl rfl ?_
          exact h0 (rgt_f z (by rw [if_pos h28]; exact h63) (cb D) (by omega))
      · refine s_ifeq (pc := 48) (tgt := 68) dX2_isRight_48 rfl (fun h48 => ?_) (fun h48 => absurd h48 (by decide))
        refine m_inc (pc := 68) (v := 1) dX2_isRight_68 rfl rfl ?_
        dsimp only [List.set, List.filter]
        rw [nI_1]
        refine s_goto (pc := 71) (tgt := 3) dX2_isRight_71 rfl ?_
        have e1 : rgt S B b x (i + 1) = true := by rw [rgt_1, hM, z]; rfl
        exact ih (i + 1) _ (by omega) e1
theorem c_X2_isRight {x : Nat} (hW : Wc I 33 D cs S) (hB : Bc I 22 B k) (hbk : bOk B) (hb : b < cb D) (h1 : rgt S B b x (cb D) = true → Q (.inl (some (.int 1))) (Z I J n w)) (h0 : rgt S B b x (cb D) = false → Q (.inl (some (.int 0))) (Z I J n w)) : Cn g (d + 1) mX2_isRight [.ref 524, .ref 33, .int (nI b), .int (nI x)] (Z I J n w) Q := by
  show Rn g (d + 1) mX2_isRight 0 [.ref 524, .ref 33, .int (nI b), .int (nI x), .retAddr 0, .retAddr 0] [] [] (Z I J n w) Q
  refine m_ic (pc := 0) (v := 0) dX2_isRight_0 rfl ?_
  refine s_istore (pc := 1) (i := 4) dX2_isRight_1 (Nat.le_of_ble_eq_true rfl) ?_
  dsimp only [List.set, List.filter]
  exact rig_lp hW hB hbk h1 h0 hb (cb D) 0 _ (by omega) rfl
theorem c_X12_tiredThen (hW : Wm I D cs S) (hv : v < cb D) (hb : b < cb D) (hc : c < cc D) (hq : ∀ I', fm I I' → Q (.inl (some (.int (nI (sT S v + if v = b then adn D cs S b c else 0))))) (Z I' J n w)) : Cn g (d + 6) mX12_tiredThen [.ref 534, .int (nI v), .int (nI b), .int (nI c)] (Z I J n w) Q := by
  have hb7 := hW.2.1.1
  show Rn g (d + 6) mX12_tiredThen 0 [.ref 534, .int (nI v), .int (nI b), .int (nI c)] [] [] (Z I J n w) Q
  refine s_aload_n (pc := 0) (i := 0) dX12_tiredThen_0 rfl rfl ?_
  refine m_gr (pc := 1) dX12_tiredThen_1 ff_X12_62 rfl o_534 r_534_37 ?_
  refine m_bi (pc := 4) (v := 84) dX12_tiredThen_4 rfl ?_
  refine s_iload_n (pc := 6) (i := 1) dX12_tiredThen_6 rfl rfl ?_
  refine s_iadd (pc := 7) dX12_tiredThen_7 ?_
  refine m_nm (v' := nI (84 + v)) (nI_add 84 v) ?_
  refine m_ia (pc := 8) dX12_tiredThen_8 a_550 (vp_in_nI (n := 84 + v) (by omega) (by decide)) ?_
  refine m_nm (v' := nI (sT S v)) (rdI (j := 84 + v) ((hW.2.2.2.2.1.1 v (by omega)).1) (by omega)) ?_
  refine s_iload_n (pc := 9) (i := 1) dX12_tiredThen_9 rfl rfl ?_
  refine s_iload_n (pc := 10) (i := 2) dX12_tiredThen_10 rfl rfl ?_
  refine s_icne (pc := 11) (tgt := 35) dX12_tiredThen_11 rfl (fun h11 => ?_) (fun h11 => ?_)
  · have h11 : ¬ v = b := fun z => h11 ((nI_eq (a := v) (b := b) (by omega) (by omega)).mpr z)
    refine m_ic (pc := 35) (v := 0) dX12_tiredThen_35 rfl ?_
    refine s_iadd (pc := 36) dX12_tiredThen_36 ?_
    refine m_nm (v' := nI ((sT S v) + 0)) (nI_add (sT S v) 0) ?_
    refine s_ireturn (pc := 37) dX12_tiredThen_37 rfl rfl ?_
    have E : (sT S v + if v = b then adn D cs S b c else 0) = sT S v + 0 := by rw [if_neg h11]
    have h := hq I fm_r
    rw [E] at h; exact h
  · have h11 : v = b := (nI_eq (a := v) (b := b) (by omega) (by omega)).mp h11
    refine s_aload_n (pc := 14) (i := 0) dX12_tiredThen_14 rfl rfl ?_
    refine m_gr (pc := 15) dX12_tiredThen_15 ff_X12_62 rfl o_534 r_534_37 ?_
    refine m_bi (pc := 18) (v := 91) dX12_tiredThen_18 rfl ?_
    refine s_iload_n (pc := 20) (i := 2) dX12_tiredThen_20 rfl rfl ?_
    refine s_iadd (pc := 21) dX12_tiredThen_21 ?_
    refine m_nm (v' := nI (91 + b)) (nI_add 91 b) ?_
    refine m_ia (pc := 22) dX12_tiredThen_22 a_550 (vp_in_nI (n := 91 + b) (by omega) (by decide)) ?_
    refine m_nm (v' := if sF S b = true then 1 else 0) (rdI (j := 91 + b) ((hW.2.2.2.2.1.1 b (by omega)).2.1) (by omega)) ?_
    refine s_ifne (pc := 23) (tgt := 35) dX12_tiredThen_23 rfl (fun h23 => ?_) (fun h23 => ?_)
    · have e : sF S b = true := ts_nf (fun z => h23 (by rw [if_neg (by rw [z]; decide)]))
      refine m_ic (pc := 35) (v := 0) dX12_tiredThen_35 rfl ?_
      refine s_iadd (pc := 36) dX12_tiredThen_36 ?_
      refine m_nm (v' := nI ((sT S v) + 0)) (nI_add (sT S v) 0) ?_
      refine s_ireturn (pc := 37) dX12_tiredThen_37 rfl rfl ?_
      have E : (sT S v + if v = b then adn D cs S b c else 0) = sT S v + 0 := by rw [if_pos h11, adn, if_pos e]
      have h := hq I fm_r
      rw [E] at h; exact h
    · have e : sF S b = false := ts_nt (fun z => by rw [if_pos z] at h23; exact absurd h23 (by decide))
      refine s_aload_n (pc := 26) (i := 0) dX12_tiredThen_26 rfl rfl ?_
      refine s_iload_n (pc := 27) (i := 2) dX12_tiredThen_27 rfl rfl ?_
      refine s_iload_n (pc := 28) (i := 3) dX12_tiredThen_28 rfl rfl ?_
      refine m_v2 (pc := 29) dX12_tiredThen_29 lk_X12_348 ok_X12_burdenBy (rcO o_534 (by decide) rfl) rfl rfl (c_X12_burdenBy hW hb hc (fun I1 f1 => kt_s ?_))
      refine s_goto (pc := 32) (tgt := 36) dX12_tiredThen_32 rfl ?_
      refine s_iadd (pc := 36) dX12_tiredThen_36 ?_
      refine m_nm (v' := nI ((sT S v) + (bur D cs S b c 0))) (nI_add (sT S v) (bur D cs S b c 0)) ?_
      refine s_ireturn (pc := 37) dX12_tiredThen_37 rfl rfl ?_
      have E : (sT S v + if v = b then adn D cs S b c else 0) = sT S v + bur D cs S b c 0 := by rw [if_pos h11, adn, if_neg (by rw [e]; decide)]
      have h := hq I1 f1
      rw [E] at h; exact h
theorem fit_lp (hW : Wm I D cs S) (hB : Bm I 553 B) (hbk : bOk B) (hb : b < cb D) (hc : c < cc D) (hq : ∀ I', fm I I' → Q (.inl (some (.int (flb (rgt S B b (adn D cs S b c) (cb D)))))) (Z I' J n w)) : ∀ f i I1, i + f = cb D → fm I I1 → Rn g (d + 7) mX12_isFit 5 [.ref 534, .int (nI b), .int (nI c), .int (flb (rgt S B b (adn D cs S b c) i)), .int (nI i)] [] [] (Z I1 J n w) Q := by
  intro f
  induction f with
  | zero =>
    intro i I1 hi hF
    have e : cb D = i := by omega
    subst e
    have hb7 := hW.2.1.1
    have hc12 := hW.2.1.2.1
    refine s_iload (pc := 5) (i := 4) dX12_isFit_5 rfl ?_
    refine s_aload_n (pc := 7) (i := 0) dX12_isFit_7 rfl rfl ?_
    refine m_gi (pc := 8) dX12_isFit_8 ff_X12_154 rfl o_534 ?_
    refine m_nm (v' := nI (cb D)) ((Wm_fm hW hF).1.1) ?_
    refine s_icge (pc := 11) (tgt := 59) dX12_isFit_11 rfl (fun h11 => ?_) (fun h11 => absurd (nI_le (a := cb D) (b := (cb D)) (by omega) (by omega)) h11)
    refine s_iload_n (pc := 59) (i := 3) dX12_isFit_59 rfl rfl ?_
    refine s_ireturn (pc := 60) dX12_isFit_60 rfl (nb_fl _) ?_
    exact hq I1 hF
  | succ f ih =>
    intro i I1 hi hF
    have hb7 := hW.2.1.1
    have hc12 := hW.2.1.2.1
    refine s_iload (pc := 5) (i := 4) dX12_isFit_5 rfl ?_
    refine s_aload_n (pc := 7) (i := 0) dX12_isFit_7 rfl rfl ?_
    refine m_gi (pc := 8) dX12_isFit_8 ff_X12_154 rfl o_534 ?_
    refine m_nm (v' := nI (cb D)) ((Wm_fm hW hF).1.1) ?_
    refine s_icge (pc := 11) (tgt := 59) dX12_isFit_11 rfl (fun h11 => absurd h11 (nI_ge (a := i) (b := cb D) (by omega) (by omega))) (fun h11 => ?_)
    refine s_iload_n (pc := 14) (i := 3) dX12_isFit_14 rfl rfl ?_
    refine s_ifeq (pc := 15) (tgt := 51) dX12_isFit_15 rfl (fun h15 => ?_) (fun h15 => ?_)
    · have e0 := flb_0 h15
      refine m_ic (pc := 51) (v := 0) dX12_isFit_51 rfl ?_
      refine s_istore_n (pc := 52) (i := 3) dX12_isFit_52 rfl (Nat.le_of_ble_eq_true rfl) ?_
      dsimp only [List.set, List.filter]
      refine m_inc (pc := 53) (v := 1) dX12_isFit_53 rfl rfl ?_
      dsimp only [List.set, List.filter]
      rw [nI_1]
      refine s_goto (pc := 56) (tgt := 5) dX12_isFit_56 rfl ?_
      have E : rgt S B b (adn D cs S b c) (i + 1) = false := by rw [rgt_1, e0]; rfl
      have h := ih (i + 1) I1 (by omega) (hF)
      rw [E] at h; exact h
    · have e1 := flb_1 h15
      refine s_aload_n (pc := 18) (i := 0) dX12_isFit_18 rfl rfl ?_
      refine m_gr (pc := 19) dX12_isFit_19 ff_X12_71 rfl o_534 r_534_40 ?_
      refine s_iload (pc := 22) (i := 4) dX12_isFit_22 rfl ?_
      refine m_ia (pc := 24) dX12_isFit_24 a_553 (vp_in_nI (n := i) (by omega) (by decide)) ?_
      refine m_nm (v' := ob (B i)) (rdI (j := i) ((hF 553 i (by decide) (by decide)).trans (hB i (by omega))) (by omega)) ?_
      refine m_ic (pc := 25) (v := -1) dX12_isFit_25 rfl ?_
      refine s_iceq (pc := 26) (tgt := 47) dX12_isFit_26 rfl (fun h26 => ?_) (fun h26 => ?_)
      · have e := (ob_no hbk).mp h26
        refine m_ic (pc := 47) (v := 1) dX12_isFit_47 rfl ?_
        refine s_goto (pc := 48) (tgt := 52) dX12_isFit_48 rfl ?_
        refine s_istore_n (pc := 52) (i := 3) dX12_isFit_52 rfl (Nat.le_of_ble_eq_true rfl) ?_
        dsimp only [List.set, List.filter]
        refine m_inc (pc := 53) (v := 1) dX12_isFit_53 rfl rfl ?_
        dsimp only [List.set, List.filter]
        rw [nI_1]
        refine s_goto (pc := 56) (tgt := 5) dX12_isFit_56 rfl ?_
        have E : rgt S B b (adn D cs S b c) (i + 1) = true := by rw [rgt_1, e1, e]; rfl
        have h := ih (i + 1) I1 (by omega) (hF)
        rw [E] at h; exact h
      · have e := ts_nf (fun z => h26 ((ob_no hbk).mpr z))
        refine s_aload_n (pc := 29) (i := 0) dX12_isFit_29 rfl rfl ?_
        refine s_iload (pc := 30) (i := 4) dX12_isFit_30 rfl ?_
        refine s_iload_n (pc := 32) (i := 1) dX12_isFit_32 rfl rfl ?_
        refine s_iload_n (pc := 33) (i := 2) dX12_isFit_33 rfl rfl ?_
        refine m_v3 (pc := 34) dX12_isFit_34 lk_X12_416 ok_X12_tiredThen (rcO o_534 (by decide) rfl) rfl rfl (c_X12_tiredThen (Wm_fm hW hF) (by omega) hb hc (fun I2 f2 => kt_s ?_))
        refine s_aload_n (pc := 37) (i := 0) dX12_isFit_37 rfl rfl ?_
        refine m_gr (pc := 38) dX12_isFit_38 ff_X12_71 rfl o_534 r_534_40 ?_
        refine s_iload (pc := 41) (i := 4) dX12_isFit_41 rfl ?_
        refine m_ia (pc := 43) dX12_isFit_43 a_553 (vp_in_nI (n := i) (by omega) (by decide)) ?_
        refine m_nm (v' := ob (B i)) (rdI (j := i) ((f2 553 i (by decide) (by decide)).trans ((hF 553 i (by decide) (by decide)).trans (hB i (by omega)))) (by omega)) ?_
        refine s_icne (pc := 44) (tgt := 51) dX12_isFit_44 rfl (fun h44 => ?_) (fun h44 => ?_)
        · skip
          refine m_ic (pc := 51) (v := 0) dX12_isFit_51 rfl ?_
          refine s_istore_n (pc := 52) (i := 3) dX12_isFit_52 rfl (Nat.le_of_ble_eq_true rfl) ?_
          dsimp only [List.set, List.filter]
          refine m_inc (pc := 53) (v := 1) dX12_isFit_53 rfl rfl ?_
          dsimp only [List.set, List.filter]
          rw [nI_1]
          refine s_goto (pc := 56) (tgt := 5) dX12_isFit_56 rfl ?_
          have E : rgt S B b (adn D cs S b c) (i + 1) = false := by exact rgt_f e (fun z => h44 z.symm) _ (by omega)
          have h := ih (i + 1) I2 (by omega) (fm_t hF f2)
          rw [E] at h; exact h
        · skip
          refine m_ic (pc := 47) (v := 1) dX12_isFit_47 rfl ?_
          refine s_goto (pc := 48) (tgt := 52) dX12_isFit_48 rfl ?_
          refine s_istore_n (pc := 52) (i := 3) dX12_isFit_52 rfl (Nat.le_of_ble_eq_true rfl) ?_
          dsimp only [List.set, List.filter]
          refine m_inc (pc := 53) (v := 1) dX12_isFit_53 rfl rfl ?_
          dsimp only [List.set, List.filter]
          rw [nI_1]
          refine s_goto (pc := 56) (tgt := 5) dX12_isFit_56 rfl ?_
          have E : rgt S B b (adn D cs S b c) (i + 1) = true := by rw [rgt_1, e1, decide_eq_true h44.symm, Bool.or_true]; rfl
          have h := ih (i + 1) I2 (by omega) (fm_t hF f2)
          rw [E] at h; exact h
theorem c_X12_isFit (hW : Wm I D cs S) (hB : Bm I 553 B) (hbk : bOk B) (hb : b < cb D) (hc : c < cc D) (hq : ∀ I', fm I I' → Q (.inl (some (.int (flb (rgt S B b (adn D cs S b c) (cb D)))))) (Z I' J n w)) : Cn g (d + 7) mX12_isFit [.ref 534, .int (nI b), .int (nI c)] (Z I J n w) Q := by
  show Rn g (d + 7) mX12_isFit 0 [.ref 534, .int (nI b), .int (nI c), .retAddr 0, .retAddr 0] [] [] (Z I J n w) Q
  refine m_ic (pc := 0) (v := 1) dX12_isFit_0 rfl ?_
  refine s_istore_n (pc := 1) (i := 3) dX12_isFit_1 rfl (Nat.le_of_ble_eq_true rfl) ?_
  dsimp only [List.set, List.filter]
  refine m_ic (pc := 2) (v := 0) dX12_isFit_2 rfl ?_
  refine s_istore (pc := 3) (i := 4) dX12_isFit_3 (Nat.le_of_ble_eq_true rfl) ?_
  dsimp only [List.set, List.filter]
  exact fit_lp hW hB hbk hb hc hq (cb D) 0 I (by omega) fm_r
end S
