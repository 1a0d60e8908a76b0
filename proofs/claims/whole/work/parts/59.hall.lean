section S
variable {g : aG} {d : Nat} {I : Nat → Nat → Int32} {J : Nat → Nat → Int64} {n w : Nat} {Q : aO → aS → Prop}
variable {σ : aS} {S : sD} {D : cD} {cs : List Nat} {o b c k : Nat}
theorem bcnt0 : ∀ a, a < 64 → ∀ b, b < 64 → (fun x0 : Int32 => (fun x1 : Int32 => (fun x2 : Int32 => (fun x3 : Int32 => (fun x4 : Int32 => (fun x5 : Int32 => x5 &&& 63) (x4 + (x4.toUInt32 >>> ((16 : Int32).toUInt32 &&& Int32.toUInt32 31)).toInt32)) (x3 + (x3.toUInt32 >>> ((8 : Int32).toUInt32 &&& Int32.toUInt32 31)).toInt32)) ((x2 + (x2.toUInt32 >>> ((4 : Int32).toUInt32 &&& Int32.toUInt32 31)).toInt32) &&& 252645135)) ((x1 &&& 858993459) + ((x1.toUInt32 >>> ((2 : Int32).toUInt32 &&& Int32.toUInt32 31)).toInt32 &&& 858993459))) (x0 - ((x0.toUInt32 >>> ((1 : Int32).toUInt32 &&& Int32.toUInt32 31)).toInt32 &&& 1431655765))) (nI (64 * a + b)) = nI (bc (fun i => (64 * a + b).testBit i) 12) := by decide +kernel
theorem bcnt : ∀ m, m < 4096 → (fun x0 : Int32 => (fun x1 : Int32 => (fun x2 : Int32 => (fun x3 : Int32 => (fun x4 : Int32 => (fun x5 : Int32 => x5 &&& 63) (x4 + (x4.toUInt32 >>> ((16 : Int32).toUInt32 &&& Int32.toUInt32 31)).toInt32)) (x3 + (x3.toUInt32 >>> ((8 : Int32).toUInt32 &&& Int32.toUInt32 31)).toInt32)) ((x2 + (x2.toUInt32 >>> ((4 : Int32).toUInt32 &&& Int32.toUInt32 31)).toInt32) &&& 252645135)) ((x1 &&& 858993459) + ((x1.toUInt32 >>> ((2 : Int32).toUInt32 &&& Int32.toUInt32 31)).toInt32 &&& 858993459))) (x0 - ((x0.toUInt32 >>> ((1 : Int32).toUInt32 &&& Int32.toUInt32 31)).toInt32 &&& 1431655765))) (nI m) = nI (bc (fun i => m.testBit i) 12) := fun m hm => by
  have h := bcnt0 (m / 64) (by omega) (m % 64) (by omega)
  rw [Nat.div_add_mod m 64] at h
  exact h
theorem c_bitCount {q : Nat → Bool} {m : Nat} (hm : m ≤ 12) (hq : Q (.inl (some (.int (nI (bc q m))))) σ) : Cn g (d + 0) mJ6_bitCount_0f7a4 [.int (nI (bs q m))] σ Q := by
  have h1 : bs q m < 4096 := Nat.lt_of_lt_of_le (bs_lt q m) (Nat.pow_le_pow_right (by decide) hm)
  have h2 := bcnt (bs q m) h1
  have h3 : bc (fun i => (bs q m).testBit i) 12 = bc q m := by
    have e1 : bc (fun i => (bs q m).testBit i) 12 = bc (fun i => decide (i < m) && q i) 12 := bc_eq (fun i _ => bs_tb q m i)
    rw [e1]
    have e2 : ∀ r, bc (fun i => decide (i < m) && q i) (m + r) = bc q m := fun r => by
      induction r with
      | zero => exact bc_eq (fun i hi => by simp [show i < m from hi])
      | succ r ih => show bc _ (m + r) + (if _ then 1 else 0) = _; rw [ih]; simp; intro h; omega
    have e3 := e2 (12 - m)
    rw [show m + (12 - m) = 12 by omega] at e3
    exact e3
  rw [h3] at h2
  dsimp only at h2
  rw [← h2] at hq
  show Rn g (d + 0) mJ6_bitCount_0f7a4 0 [.int (nI (bs q m))] [] [] σ Q
  refine s_iload_n (pc := 0) (i := 0) dJ6_bitCount_0f7a4_0 rfl rfl ?_
  refine s_iload_n (pc := 1) (i := 0) dJ6_bitCount_0f7a4_1 rfl rfl ?_
  refine m_ic (pc := 2) (v := 1) dJ6_bitCount_0f7a4_2 rfl ?_
  refine s_iushr (pc := 3) dJ6_bitCount_0f7a4_3 ?_
  refine s_ldcw (pc := 4) dJ6_bitCount_0f7a4_4 ct_J6_265 ?_
  refine s_iand (pc := 7) dJ6_bitCount_0f7a4_7 ?_
  refine s_isub (pc := 8) dJ6_bitCount_0f7a4_8 ?_
  refine s_istore_n (pc := 9) (i := 0) dJ6_bitCount_0f7a4_9 rfl (Nat.le_of_ble_eq_true rfl) ?_
  dsimp only [List.set, List.filter]
  refine s_iload_n (pc := 10) (i := 0) dJ6_bitCount_0f7a4_10 rfl rfl ?_
  refine s_ldcw (pc := 11) dJ6_bitCount_0f7a4_11 ct_J6_266 ?_
  refine s_iand (pc := 14) dJ6_bitCount_0f7a4_14 ?_
  refine s_iload_n (pc := 15) (i := 0) dJ6_bitCount_0f7a4_15 rfl rfl ?_
  refine m_ic (pc := 16) (v := 2) dJ6_bitCount_0f7a4_16 rfl ?_
  refine s_iushr (pc := 17) dJ6_bitCount_0f7a4_17 ?_
  refine s_ldcw (pc := 18) dJ6_bitCount_0f7a4_18 ct_J6_266 ?_
  refine s_iand (pc := 21) dJ6_bitCount_0f7a4_21 ?_
  refine s_iadd (pc := 22) dJ6_bitCount_0f7a4_22 ?_
  refine s_istore_n (pc := 23) (i := 0) dJ6_bitCount_0f7a4_23 rfl (Nat.le_of_ble_eq_true rfl) ?_
  dsimp only [List.set, List.filter]
  refine s_iload_n (pc := 24) (i := 0) dJ6_bitCount_0f7a4_24 rfl rfl ?_
  refine s_iload_n (pc := 25) (i := 0) dJ6_bitCount_0f7a4_25 rfl rfl ?_
  refine m_ic (pc := 26) (v := 4) dJ6_bitCount_0f7a4_26 rfl ?_
  refine s_iushr (pc := 27) dJ6_bitCount_0f7a4_27 ?_
  refine s_iadd (pc := 28) dJ6_bitCount_0f7a4_28 ?_
  refine s_ldcw (pc := 29) dJ6_bitCount_0f7a4_29 ct_J6_267 ?_
  refine s_iand (pc := 32) dJ6_bitCount_0f7a4_32 ?_
  refine s_istore_n (pc := 33) (i := 0) dJ6_bitCount_0f7a4_33 rfl (Nat.le_of_ble_eq_true rfl) ?_
  dsimp only [List.set, List.filter]
  refine s_iload_n (pc := 34) (i := 0) dJ6_bitCount_0f7a4_34 rfl rfl ?_
  refine s_iload_n (pc := 35) (i := 0) dJ6_bitCount_0f7a4_35 rfl rfl ?_
  refine m_bi (pc := 36) (v := 8) dJ6_bitCount_0f7a4_36 rfl ?_
  refine s_iushr (pc := 38) dJ6_bitCount_0f7a4_38 ?_
  refine s_iadd (pc := 39) dJ6_bitCount_0f7a4_39 ?_
  refine s_istore_n (pc := 40) (i := 0) dJ6_bitCount_0f7a4_40 rfl (Nat.le_of_ble_eq_true rfl) ?_
  dsimp only [List.set, List.filter]
  refine s_iload_n (pc := 41) (i := 0) dJ6_bitCount_0f7a4_41 rfl rfl ?_
  refine s_iload_n (pc := 42) (i := 0) dJ6_bitCount_0f7a4_42 rfl rfl ?_
  refine m_bi (pc := 43) (v := 16) dJ6_bitCount_0f7a4_43 rfl ?_
  refine s_iushr (pc := 45) dJ6_bitCount_0f7a4_45 ?_
  refine s_iadd (pc := 46) dJ6_bitCount_0f7a4_46 ?_
  refine s_istore_n (pc := 47) (i := 0) dJ6_bitCount_0f7a4_47 rfl (Nat.le_of_ble_eq_true rfl) ?_
  dsimp only [List.set, List.filter]
  refine s_iload_n (pc := 48) (i := 0) dJ6_bitCount_0f7a4_48 rfl rfl ?_
  refine m_bi (pc := 49) (v := 63) dJ6_bitCount_0f7a4_49 rfl ?_
  refine s_iand (pc := 51) dJ6_bitCount_0f7a4_51 ?_
  refine s_ireturn (pc := 52) dJ6_bitCount_0f7a4_52 rfl rfl ?_
  exact hq
theorem bit_F {m : Nat} {q : Nat → Bool} {i : Nat} (hm : m ≤ 31) (hi : i < m) : (nI (bs q m) >>> (nI i &&& 31)) &&& 1 = if q i = true then 1 else 0 := bit_bs hm hi
theorem c_X9_hasFallen (ho : sO o) (hS : Sc I o S) (hb : b < 7) (ht : sF S b = true → Q (.inl (some (.int 1))) (Z I J n w)) (hf : sF S b = false → Q (.inl (some (.int 0))) (Z I J n w)) : Cn g (d + 0) mX9_hasFallen [.ref o, .int (nI b)] (Z I J n w) Q := by
  show Rn g (d + 0) mX9_hasFallen 0 [.ref o, .int (nI b)] [] [] (Z I J n w) Q
  refine s_aload_n (pc := 0) (i := 0) dX9_hasFallen_0 rfl rfl ?_
  refine m_gi (pc := 1) dX9_hasFallen_1 ff_X9_36 rfl (ho).1 ?_
  refine m_nm (v' := nI (bs (sF S) 7)) (hS.2.2.2.1) ?_
  refine s_iload_n (pc := 4) (i := 1) dX9_hasFallen_4 rfl rfl ?_
  refine s_ishr (pc := 5) dX9_hasFallen_5 ?_
  refine m_ic (pc := 6) (v := 1) dX9_hasFallen_6 rfl ?_
  refine s_iand (pc := 7) dX9_hasFallen_7 ?_
  refine m_nm (v' := if sF S b = true then 1 else 0) (bit_F (by decide) hb) ?_
  refine m_ic (pc := 8) (v := 1) dX9_hasFallen_8 rfl ?_
  refine s_icne (pc := 9) (tgt := 16) dX9_hasFallen_9 rfl (fun h9 => ?_) (fun h9 => ?_)
  · have e : sF S b = false := ts_nt (fun z => h9 (if_pos z))
    refine m_ic (pc := 16) (v := 0) dX9_hasFallen_16 rfl ?_
    refine s_ireturn (pc := 17) dX9_hasFallen_17 rfl rfl ?_
    exact hf e
  · have e : sF S b = true := ts_nf (fun z => by rw [if_neg (by rw [z]; decide)] at h9; exact absurd h9 (by decide))
    refine m_ic (pc := 12) (v := 1) dX9_hasFallen_12 rfl ?_
    refine s_goto (pc := 13) (tgt := 17) dX9_hasFallen_13 rfl ?_
    refine s_ireturn (pc := 17) dX9_hasFallen_17 rfl rfl ?_
    exact ht e
theorem c_X9_hearingsOf (ho : sO o) (hS : Sc I o S) (hb : b < 7) (hc : c < 12) (hq : Q (.inl (some (.int (ob (sK S b c))))) (Z I J n w)) : Cn g (d + 0) mX9_hearingsOf [.ref o, .int (nI b), .int (nI c)] (Z I J n w) Q := by
  show Rn g (d + 0) mX9_hearingsOf 0 [.ref o, .int (nI b), .int (nI c), .retAddr 0] [] [] (Z I J n w) Q
  refine s_aload_n (pc := 0) (i := 0) dX9_hearingsOf_0 rfl rfl ?_
  refine m_gr (pc := 1) dX9_hearingsOf_1 ff_X9_21 rfl (ho).1 (ho.2.2.2.2.1).1 ?_
  refine s_iload_n (pc := 4) (i := 1) dX9_hearingsOf_4 rfl rfl ?_
  refine m_ia (pc := 5) dX9_hearingsOf_5 (ho.2.2.2.2.1).2 (vp_in_nI hb (by decide)) ?_
  refine m_nm (v' := nI (bs (fun c => (sK S b c).isSome) 12)) (rdI (hS.1 b hb).2.2.2 (by omega)) ?_
  refine s_iload_n (pc := 6) (i := 2) dX9_hearingsOf_6 rfl rfl ?_
  refine s_ishr (pc := 7) dX9_hearingsOf_7 ?_
  refine m_ic (pc := 8) (v := 1) dX9_hearingsOf_8 rfl ?_
  refine s_iand (pc := 9) dX9_hearingsOf_9 ?_
  refine m_nm (v' := if (sK S b c).isSome = true then 1 else 0) (bit_F (q := fun c => (sK S b c).isSome) (by decide) hc) ?_
  refine m_ic (pc := 10) (v := 1) dX9_hearingsOf_10 rfl ?_
  refine s_icne (pc := 11) (tgt := 18) dX9_hearingsOf_11 rfl (fun h11 => ?_) (fun h11 => ?_)
  · have e : (sK S b c).isSome = false := ts_nt (fun z => h11 (if_pos z))
    have e3 : sK S b c = none := by simpa using e
    rw [e3] at hq
    refine m_ic (pc := 18) (v := 0) dX9_hearingsOf_18 rfl ?_
    refine s_istore_n (pc := 19) (i := 3) dX9_hearingsOf_19 rfl (Nat.le_of_ble_eq_true rfl) ?_
    dsimp only [List.set, List.filter]
    refine s_iload_n (pc := 20) (i := 3) dX9_hearingsOf_20 rfl rfl ?_
    refine s_ifeq (pc := 21) (tgt := 38) dX9_hearingsOf_21 rfl (fun h21 => ?_) (fun h21 => absurd h21 (by decide))
    refine m_ic (pc := 38) (v := -1) dX9_hearingsOf_38 rfl ?_
    refine s_ireturn (pc := 39) dX9_hearingsOf_39 rfl rfl ?_
    exact hq
  · have e : (sK S b c).isSome = true := ts_nf (fun z => by rw [if_neg (by rw [z]; decide)] at h11; exact absurd h11 (by decide))
    refine m_ic (pc := 14) (v := 1) dX9_hearingsOf_14 rfl ?_
    refine s_goto (pc := 15) (tgt := 19) dX9_hearingsOf_15 rfl ?_
    refine s_istore_n (pc := 19) (i := 3) dX9_hearingsOf_19 rfl (Nat.le_of_ble_eq_true rfl) ?_
    dsimp only [List.set, List.filter]
    refine s_iload_n (pc := 20) (i := 3) dX9_hearingsOf_20 rfl rfl ?_
    refine s_ifeq (pc := 21) (tgt := 38) dX9_hearingsOf_21 rfl (fun h21 => absurd h21 (by decide)) (fun h21 => ?_)
    refine s_aload_n (pc := 24) (i := 0) dX9_hearingsOf_24 rfl rfl ?_
    refine m_gr (pc := 25) dX9_hearingsOf_25 ff_X9_24 rfl (ho).1 (ho.2.2.2.2.2.1).1 ?_
    refine s_iload_n (pc := 28) (i := 1) dX9_hearingsOf_28 rfl rfl ?_
    refine m_bi (pc := 29) (v := 12) dX9_hearingsOf_29 rfl ?_
    refine s_imul (pc := 31) dX9_hearingsOf_31 ?_
    refine m_nm (v' := nI (12 * b)) (by rw [Nat.mul_comm]; exact pk_mul b 12) ?_
    refine s_iload_n (pc := 32) (i := 2) dX9_hearingsOf_32 rfl rfl ?_
    refine s_iadd (pc := 33) dX9_hearingsOf_33 ?_
    refine m_nm (v' := nI (12 * b + c)) (nI_add _ _) ?_
    refine m_ia (pc := 34) dX9_hearingsOf_34 (ho.2.2.2.2.2.1).2 (vp_in_nI (n := 12 * b + c) (by omega) (by decide)) ?_
    refine m_nm (v' := ob (sK S b c)) (by
    cases e2 : sK S b c with
    | none => rw [e2] at e; cases e
    | some h => exact rdI (hS.2.1 b c h hb hc e2) (by omega)) ?_
    refine s_goto (pc := 35) (tgt := 39) dX9_hearingsOf_35 rfl ?_
    refine s_ireturn (pc := 39) dX9_hearingsOf_39 rfl rfl ?_
    exact hq
theorem c_X9_learn (ho : sO o) (hS : Sc I o S) (hb : b < 7) (hc : c < 12) {x : Int32} (hq : Q (.inl none) (Z (up (up I (o + 4) b (I (o + 4) b ||| (1 : Int32) <<< (nI c &&& 31))) (o + 5) (12 * b + c) x) J n w)) : Cn g (d + 0) mX9_learn [.ref o, .int (nI b), .int (nI c), .int x] (Z I J n w) Q := by
  show Rn g (d + 0) mX9_learn 0 [.ref o, .int (nI b), .int (nI c), .int x] [] [] (Z I J n w) Q
  refine s_aload_n (pc := 0) (i := 0) dX9_learn_0 rfl rfl ?_
  refine m_gr (pc := 1) dX9_learn_1 ff_X9_21 rfl (ho).1 (ho.2.2.2.2.1).1 ?_
  refine s_iload_n (pc := 4) (i := 1) dX9_learn_4 rfl rfl ?_
  refine s_dup2 (pc := 5) dX9_learn_5 rfl rfl ?_
  refine m_ia (pc := 6) dX9_learn_6 (ho.2.2.2.2.1).2 (vp_in_nI hb (by decide)) ?_
  refine m_nm (v' := I (o + 4) b) (rdI rfl (by omega)) ?_
  refine m_ic (pc := 7) (v := 1) dX9_learn_7 rfl ?_
  refine s_iload_n (pc := 8) (i := 2) dX9_learn_8 rfl rfl ?_
  refine s_ishl (pc := 9) dX9_learn_9 ?_
  refine s_ior (pc := 10) dX9_learn_10 ?_
  refine m_is (pc := 11) dX9_learn_11 (ho.2.2.2.2.1).2 (vp_in_nI hb (by decide)) ?_
  rw [nI_clamp (by omega)]
  refine s_aload_n (pc := 12) (i := 0) dX9_learn_12 rfl rfl ?_
  refine m_gr (pc := 13) dX9_learn_13 ff_X9_24 rfl (ho).1 (ho.2.2.2.2.2.1).1 ?_
  refine s_iload_n (pc := 16) (i := 1) dX9_learn_16 rfl rfl ?_
  refine m_bi (pc := 17) (v := 12) dX9_learn_17 rfl ?_
  refine s_imul (pc := 19) dX9_learn_19 ?_
  refine m_nm (v' := nI (12 * b)) (by rw [Nat.mul_comm]; exact pk_mul b 12) ?_
  refine s_iload_n (pc := 20) (i := 2) dX9_learn_20 rfl rfl ?_
  refine s_iadd (pc := 21) dX9_learn_21 ?_
  refine m_nm (v' := nI (12 * b + c)) (nI_add _ _) ?_
  refine s_iload_n (pc := 22) (i := 3) dX9_learn_22 rfl rfl ?_
  refine m_is (pc := 23) dX9_learn_23 (ho.2.2.2.2.2.1).2 (vp_in_nI (n := 12 * b + c) (by omega) (by decide)) ?_
  rw [nI_clamp (by omega)]
  refine s_return (pc := 24) dX9_learn_24 rfl ?_
  exact hq
theorem c_X9_bear (ho : sO o) (hS : Sc I o S) (hb : b < 7) (hc : c < 12) {u : Nat} (hq : ∀ I', (∀ x j, (x < o ∨ o + 6 < x) → I' x j = I x j) → Sc I' o (zN (zB (zW (zT S b (sT S b + u)) b (sW S b + 1)) b (sB S b ||| (1 : Int32) <<< (nI c &&& 31))) c (sN S c + 1)) → Q (.inl none) (Z I' J n w)) : Cn g (d + 0) mX9_bear [.ref o, .int (nI b), .int (nI c), .int (nI u)] (Z I J n w) Q := by
  show Rn g (d + 0) mX9_bear 0 [.ref o, .int (nI b), .int (nI c), .int (nI u)] [] [] (Z I J n w) Q
  refine s_aload_n (pc := 0) (i := 0) dX9_bear_0 rfl rfl ?_
  refine m_gr (pc := 1) dX9_bear_1 ff_X9_9 rfl (ho).1 (ho.2.1).1 ?_
  refine s_iload_n (pc := 4) (i := 1) dX9_bear_4 rfl rfl ?_
  refine s_dup2 (pc := 5) dX9_bear_5 rfl rfl ?_
  refine m_ia (pc := 6) dX9_bear_6 (ho.2.1).2 (vp_in_nI hb (by decide)) ?_
  refine m_nm (v' := nI (sT S b)) (rdI (hS.1 b hb).1 (by omega)) ?_
  refine s_iload_n (pc := 7) (i := 3) dX9_bear_7 rfl rfl ?_
  refine s_iadd (pc := 8) dX9_bear_8 ?_
  refine m_nm (v' := nI (sT S b + u)) (nI_add _ _) ?_
  refine m_is (pc := 9) dX9_bear_9 (ho.2.1).2 (vp_in_nI hb (by decide)) ?_
  rw [nI_clamp (by omega)]
  refine s_aload_n (pc := 10) (i := 0) dX9_bear_10 rfl rfl ?_
  refine m_gr (pc := 11) dX9_bear_11 ff_X9_15 rfl (ho).1 (ho.2.2.1).1 ?_
  refine s_iload_n (pc := 14) (i := 1) dX9_bear_14 rfl rfl ?_
  refine s_dup2 (pc := 15) dX9_bear_15 rfl rfl ?_
  refine m_ia (pc := 16) dX9_bear_16 (ho.2.2.1).2 (vp_in_nI hb (by decide)) ?_
  refine m_nm (v' := sW S b) (rdI (by rw [up_a (by omega)]; exact (hS.1 b hb).2.1) (by omega)) ?_
  refine m_ic (pc := 17) (v := 1) dX9_bear_17 rfl ?_
  refine s_iadd (pc := 18) dX9_bear_18 ?_
  refine m_is (pc := 19) dX9_bear_19 (ho.2.2.1).2 (vp_in_nI hb (by decide)) ?_
  rw [nI_clamp (by omega)]
  refine s_aload_n (pc := 20) (i := 0) dX9_bear_20 rfl rfl ?_
  refine m_gr (pc := 21) dX9_bear_21 ff_X9_18 rfl (ho).1 (ho.2.2.2.1).1 ?_
  refine s_iload_n (pc := 24) (i := 1) dX9_bear_24 rfl rfl ?_
  refine s_dup2 (pc := 25) dX9_bear_25 rfl rfl ?_
  refine m_ia (pc := 26) dX9_bear_26 (ho.2.2.2.1).2 (vp_in_nI hb (by decide)) ?_
  refine m_nm (v' := sB S b) (rdI (by rw [up_a (by omega), up_a (by omega)]; exact (hS.1 b hb).2.2.1) (by omega)) ?_
  refine m_ic (pc := 27) (v := 1) dX9_bear_27 rfl ?_
  refine s_iload_n (pc := 28) (i := 2) dX9_bear_28 rfl rfl ?_
  refine s_ishl (pc := 29) dX9_bear_29 ?_
  refine s_ior (pc := 30) dX9_bear_30 ?_
  refine m_is (pc := 31) dX9_bear_31 (ho.2.2.2.1).2 (vp_in_nI hb (by decide)) ?_
  rw [nI_clamp (by omega)]
  refine s_aload_n (pc := 32) (i := 0) dX9_bear_32 rfl rfl ?_
  refine m_gr (pc := 33) dX9_bear_33 ff_X9_27 rfl (ho).1 (ho.2.2.2.2.2.2).1 ?_
  refine s_iload_n (pc := 36) (i := 2) dX9_bear_36 rfl rfl ?_
  refine s_dup2 (pc := 37) dX9_bear_37 rfl rfl ?_
  refine m_ia (pc := 38) dX9_bear_38 (ho.2.2.2.2.2.2).2 (vp_in_nI hc (by decide)) ?_
  refine m_nm (v' := sN S c) (rdI (by rw [up_a (by omega), up_a (by omega), up_a (by omega)]; exact hS.2.2.1 c hc) (by omega)) ?_
  refine m_ic (pc := 39) (v := 1) dX9_bear_39 rfl ?_
  refine s_iadd (pc := 40) dX9_bear_40 ?_
  refine m_is (pc := 41) dX9_bear_41 (ho.2.2.2.2.2.2).2 (vp_in_nI hc (by decide)) ?_
  rw [nI_clamp (by omega)]
  refine s_return (pc := 42) dX9_bear_42 rfl ?_
  exact hq _ (fun x j z => by rw [up_a (by omega), up_a (by omega), up_a (by omega), up_a (by omega)]) (Sc_N (S := zB (zW (zT S b (sT S b + u)) b (sW S b + 1)) b (sB S b ||| (1 : Int32) <<< (nI c &&& 31))) (Sc_B (S := zW (zT S b (sT S b + u)) b (sW S b + 1)) (Sc_W (S := zT S b (sT S b + u)) (Sc_T hS))))
theorem hnw_iff {a : Nat} (h1 : a ≠ b) (h2 : sF S a = false) (h3 : sF S b = false) : (nI (bs (fun c => (sK S a c).isSome) 12) &&& (nI (bs (fun c => (sK S b c).isSome) 12) ^^^ -1) = 0) ↔ hnw S a b = false := by
  rw [bs_an (by decide), bs_0 (by decide)]
  unfold hnw nws
  rw [h2, h3]
  simp [h1]
  simp only [Option.isSome_iff_ne_none, ne_eq]
theorem hnw_1 {a : Nat} (h : a = b ∨ sF S a = true ∨ sF S b = true) : hnw S a b = false := by
  unfold hnw; rcases h with h | h | h <;> simp [h]
theorem c_X9_hasNewsFor (ho : sO o) (hS : Sc I o S) {a : Nat} (ha : a < 7) (hb : b < 7) (ht : hnw S a b = true → Q (.inl (some (.int 1))) (Z I J n w)) (hf : hnw S a b = false → Q (.inl (some (.int 0))) (Z I J n w)) : Cn g (d + 1) mX9_hasNewsFor [.ref o, .int (nI a), .int (nI b)] (Z I J n w) Q := by
  show Rn g (d + 1) mX9_hasNewsFor 0 [.ref o, .int (nI a), .int (nI b)] [] [] (Z I J n w) Q
  refine s_iload_n (pc := 0) (i := 1) dX9_hasNewsFor_0 rfl rfl ?_
  refine s_iload_n (pc := 1) (i := 2) dX9_hasNewsFor_1 rfl rfl ?_
  refine s_iceq (pc := 2) (tgt := 43) dX9_hasNewsFor_2 rfl (fun h2 => ?_) (fun h2 => ?_)
  · have hab : a = b := (nI_eq (by omega) (by omega)).mp h2
    refine m_ic (pc := 43) (v := 0) dX9_hasNewsFor_43 rfl ?_
    refine s_ireturn (pc := 44) dX9_hasNewsFor_44 rfl rfl ?_
    exact hf (hnw_1 (Or.inl hab))
  · have hab : a ≠ b := fun z => h2 (congrArg nI z)
    refine s_aload_n (pc := 5) (i := 0) dX9_hasNewsFor_5 rfl rfl ?_
    refine s_iload_n (pc := 6) (i := 1) dX9_hasNewsFor_6 rfl rfl ?_
    refine m_v1 (pc := 7) dX9_hasNewsFor_7 lk_X9_52 ok_X9_hasFallen (rcO (ho).1 (by decide) rfl) rfl rfl (c_X9_hasFallen ho hS ha (fun h1 => kt_s ?_) (fun h1 => kt_s ?_))
    · refine s_ifne (pc := 10) (tgt := 43) dX9_hasNewsFor_10 rfl (fun h10 => ?_) (fun h10 => absurd h10 (by decide))
      refine m_ic (pc := 43) (v := 0) dX9_hasNewsFor_43 rfl ?_
      refine s_ireturn (pc := 44) dX9_hasNewsFor_44 rfl rfl ?_
      exact hf (hnw_1 (Or.inr (Or.inl h1)))
    · refine s_ifne (pc := 10) (tgt := 43) dX9_hasNewsFor_10 rfl (fun h10 => absurd h10 (by decide)) (fun h10 => ?_)
      refine s_aload_n (pc := 13) (i := 0) dX9_hasNewsFor_13 rfl rfl ?_
      refine s_iload_n (pc := 14) (i := 2) dX9_hasNewsFor_14 rfl rfl ?_
      refine m_v1 (pc := 15) dX9_hasNewsFor_15 lk_X9_52 ok_X9_hasFallen (rcO (ho).1 (by decide) rfl) rfl rfl (c_X9_hasFallen ho hS hb (fun h3 => kt_s ?_) (fun h3 => kt_s ?_))
      · refine s_ifne (pc := 18) (tgt := 43) dX9_hasNewsFor_18 rfl (fun h18 => ?_) (fun h18 => absurd h18 (by decide))
        refine m_ic (pc := 43) (v := 0) dX9_hasNewsFor_43 rfl ?_
        refine s_ireturn (pc := 44) dX9_hasNewsFor_44 rfl rfl ?_
        exact hf (hnw_1 (Or.inr (Or.inr h3)))
      · refine s_ifne (pc := 18) (tgt := 43) dX9_hasNewsFor_18 rfl (fun h18 => absurd h18 (by decide)) (fun h18 => ?_)
        refine s_aload_n (pc := 21) (i := 0) dX9_hasNewsFor_21 rfl rfl ?_
        refine m_gr (pc := 22) dX9_hasNewsFor_22 ff_X9_21 rfl (ho).1 (ho.2.2.2.2.1).1 ?_
        refine s_iload_n (pc := 25) (i := 1) dX9_hasNewsFor_25 rfl rfl ?_
        refine m_ia (pc := 26) dX9_hasNewsFor_26 (ho.2.2.2.2.1).2 (vp_in_nI ha (by decide)) ?_
        refine m_nm (v' := nI (bs (fun c => (sK S a c).isSome) 12)) (rdI (hS.1 a ha).2.2.2 (by omega)) ?_
        refine s_aload_n (pc := 27) (i := 0) dX9_hasNewsFor_27 rfl rfl ?_
        refine m_gr (pc := 28) dX9_hasNewsFor_28 ff_X9_21 rfl (ho).1 (ho.2.2.2.2.1).1 ?_
        refine s_iload_n (pc := 31) (i := 2) dX9_hasNewsFor_31 rfl rfl ?_
        refine m_ia (pc := 32) dX9_hasNewsFor_32 (ho.2.2.2.2.1).2 (vp_in_nI hb (by decide)) ?_
        refine m_nm (v' := nI (bs (fun c => (sK S b c).isSome) 12)) (rdI (hS.1 b hb).2.2.2 (by omega)) ?_
        refine m_ic (pc := 33) (v := -1) dX9_hasNewsFor_33 rfl ?_
        refine s_ixor (pc := 34) dX9_hasNewsFor_34 ?_
        refine s_iand (pc := 35) dX9_hasNewsFor_35 ?_
        refine s_ifeq (pc := 36) (tgt := 43) dX9_hasNewsFor_36 rfl (fun h36 => ?_) (fun h36 => ?_)
        · have e := (hnw_iff hab h1 h3).mp h36
          refine m_ic (pc := 43) (v := 0) dX9_hasNewsFor_43 rfl ?_
          refine s_ireturn (pc := 44) dX9_hasNewsFor_44 rfl rfl ?_
          exact hf e
        · have e : hnw S a b = true := ts_nf (fun z => h36 ((hnw_iff hab h1 h3).mpr z))
          refine m_ic (pc := 39) (v := 1) dX9_hasNewsFor_39 rfl ?_
          refine s_goto (pc := 40) (tgt := 44) dX9_hasNewsFor_40 rfl ?_
          refine s_ireturn (pc := 44) dX9_hasNewsFor_44 rfl rfl ?_
          exact ht e
theorem tol_k {a : Nat} (hab : a ≠ b) : ∀ k x y, sK (tol S a b k) x y = if x = b ∧ y < k ∧ nws S a b y = true then some (min 9 ((sK S a y).getD 0 + 1)) else sK S x y
  | 0, x, y => by rw [if_neg (by omega)]; rfl
  | k + 1, x, y => by
    have ih := tol_k hab k x y
    by_cases e : x = b ∧ y = k
    · obtain ⟨e1, e2⟩ := e
      subst e1; subst e2
      by_cases h : nws S a x y = true
      · rw [tol, if_pos h, if_pos ⟨rfl, by omega, h⟩]
        show (if x = x ∧ y = y then some (min 9 ((sK S a y).getD 0 + 1)) else _) = _
        rw [if_pos ⟨rfl, rfl⟩]
      · rw [tol, if_neg h, ih, if_neg (by omega), if_neg (fun z => h z.2.2)]
    · have e3 : sK (tol S a b (k + 1)) x y = sK (tol S a b k) x y := by
        rw [tol]
        split
        · show (if x = b ∧ y = k then _ else _) = _
          rw [if_neg e]
        · rfl
      rw [e3, ih]
      by_cases z : x = b ∧ y < k ∧ nws S a b y = true
      · rw [if_pos z, if_pos ⟨z.1, by omega, z.2.2⟩]
      · rw [if_neg z, if_neg (fun u => z ⟨u.1, by omega, u.2.2⟩)]
theorem tol_o {a : Nat} : ∀ k, sT (tol S a b k) = sT S ∧ sF (tol S a b k) = sF S ∧ sW (tol S a b k) = sW S ∧ sB (tol S a b k) = sB S ∧ sN (tol S a b k) = sN S ∧ sY (tol S a b k) = sY S ∧ sH (tol S a b k) = sH S
  | 0 => ⟨rfl, rfl, rfl, rfl, rfl, rfl, rfl⟩
  | k + 1 => by
    have ih := tol_o (a := a) k
    rw [tol]
    split
    · exact ih
    · exact ih
theorem nws_bit {a : Nat} (hk : k < 12) : (nI (bs (nws S a b) 12) >>> (nI k &&& 31)) &&& 1 = if nws S a b k = true then 1 else 0 := bit_bs (by decide) hk
theorem nws_s {a : Nat} (h : nws S a b k = true) : ∃ v, sK S a k = some v := by
  unfold nws at h
  cases e : sK S a k with
  | none => rw [e] at h; cases h
  | some v => exact ⟨v, rfl⟩
theorem min9 {v : Nat} (h : v ≤ 9) : (if nI (v + 1) < (9 : Int32) then nI (v + 1) else 9) = nI (min 9 (v + 1)) := by
  rw [show (9 : Int32) = nI 9 from rfl]
  by_cases e : v + 1 < 9
  · rw [if_pos (nI_lt e (by decide)), Nat.min_eq_right (by omega)]
  · rw [if_neg (nI_nlt (by omega) (by omega)), Nat.min_eq_left (by omega)]
theorem tell_lp {a : Nat} (ho : sO o) (hab : a ≠ b) (ha : a < 7) (hb : b < 7) (hok : ∀ b c h, sK S b c = some h → h ≤ 9) : ∀ f i I1, i + f = 12 → Sc I1 o (tol S a b i) → (∀ I', (∀ x j, (x < o ∨ o + 6 < x) → I' x j = I1 x j) → Sc I' o (tol S a b 12) → Q (.inl (some (.int 1))) (Z I' J n w)) → Rn g (d + 2) mX9_tell 30 [.ref o, .int (nI a), .int (nI b), .int (nI (bs (nws S a b) 12)), .int (nI i)] [] [] (Z I1 J n w) Q := by
  intro f
  induction f with
  | zero =>
    intro i I1 hi hS hq
    have e : i = 12 := by omega
    subst e
    refine s_iload (pc := 30) (i := 4) dX9_tell_30 rfl ?_
    refine m_bi (pc := 32) (v := 12) dX9_tell_32 rfl ?_
    refine s_icge (pc := 34) (tgt := 74) dX9_tell_34 rfl (fun h34 => ?_) (fun h34 => absurd (nI_le (a := 12) (b := 12) (by omega) (by omega)) h34)
    refine m_ic (pc := 74) (v := 1) dX9_tell_74 rfl ?_
    refine s_ireturn (pc := 75) dX9_tell_75 rfl rfl ?_
    exact hq I1 (fun _ _ _ => rfl) hS
  | succ f ih =>
    intro i I1 hi hS hq
    refine s_iload (pc := 30) (i := 4) dX9_tell_30 rfl ?_
    refine m_bi (pc := 32) (v := 12) dX9_tell_32 rfl ?_
    refine s_icge (pc := 34) (tgt := 74) dX9_tell_34 rfl (fun h34 => absurd h34 (nI_ge (a := i) (b := 12) (by omega) (by omega))) (fun h34 => ?_)
    refine s_iload_n (pc := 37) (i := 3) dX9_tell_37 rfl rfl ?_
    refine s_iload (pc := 38) (i := 4) dX9_tell_38 rfl ?_
    refine s_ishr (pc := 40) dX9_tell_40 ?_
    refine m_ic (pc := 41) (v := 1) dX9_tell_41 rfl ?_
    refine s_iand (pc := 42) dX9_tell_42 ?_
    refine m_nm (v' := if nws S a b i = true then 1 else 0) (nws_bit (by omega)) ?_
    refine m_ic (pc := 43) (v := 1) dX9_tell_43 rfl ?_
    refine s_icne (pc := 44) (tgt := 68) dX9_tell_44 rfl (fun h44 => ?_) (fun h44 => ?_)
    · have e : ¬ nws S a b i = true := fun z => h44 (if_pos z)
      refine m_inc (pc := 68) (v := 1) dX9_tell_68 rfl rfl ?_
      dsimp only [List.set, List.filter]
      rw [nI_1]
      refine s_goto (pc := 71) (tgt := 30) dX9_tell_71 rfl ?_
      exact ih (i + 1) I1 (by omega) (by rw [tol, if_neg e]; exact hS) hq
    · have e : nws S a b i = true := ts_nf (fun z => by rw [if_neg (by rw [z]; decide)] at h44; exact absurd h44 (by decide))
      obtain ⟨v, ev1⟩ := nws_s e
      have ev2 : sK (tol S a b i) a i = some v := by rw [tol_k hab, if_neg (fun z => hab z.1), ev1]
      refine s_aload_n (pc := 47) (i := 0) dX9_tell_47 rfl rfl ?_
      refine s_iload_n (pc := 48) (i := 2) dX9_tell_48 rfl rfl ?_
      refine s_iload (pc := 49) (i := 4) dX9_tell_49 rfl ?_
      refine m_bi (pc := 51) (v := 9) dX9_tell_51 rfl ?_
      refine s_aload_n (pc := 53) (i := 0) dX9_tell_53 rfl rfl ?_
      refine s_iload_n (pc := 54) (i := 1) dX9_tell_54 rfl rfl ?_
      refine s_iload (pc := 55) (i := 4) dX9_tell_55 rfl ?_
      refine m_v2 (pc := 57) dX9_tell_57 lk_X9_60 ok_X9_hearingsOf (rcO (ho).1 (by decide) rfl) rfl rfl (c_X9_hearingsOf ho hS ha (by omega) (kt_s ?_))
      rw [ev2]
      show Rn _ _ _ _ _ _ (.int (nI v) :: _) _ _
      refine m_ic (pc := 60) (v := 1) dX9_tell_60 rfl ?_
      refine s_iadd (pc := 61) dX9_tell_61 ?_
      refine m_nm (v' := nI (v + 1)) (nI_1 v) ?_
      refine m_min (pc := 62) dX9_tell_62 ml_X9_64 (Nat.le_of_ble_eq_true rfl) ?_
      refine m_nm (v' := nI (min 9 (v + 1))) (min9 (hok _ _ _ ev1)) ?_
      refine m_v3 (pc := 65) dX9_tell_65 lk_X9_69 ok_X9_learn (rcO (ho).1 (by decide) rfl) rfl rfl (c_X9_learn ho hS hb (by omega) (kt_v ?_))
      refine m_inc (pc := 68) (v := 1) dX9_tell_68 rfl rfl ?_
      dsimp only [List.set, List.filter]
      rw [nI_1]
      refine s_goto (pc := 71) (tgt := 30) dX9_tell_71 rfl ?_
      exact ih (i + 1) _ (by omega) (by rw [tol, if_pos e, ev1]; exact Sc_K hb (by omega) hS) (fun I' z1 z2 => hq I' (fun x j z => by rw [z1 x j z, up_a (by omega), up_a (by omega)]) z2)
theorem c_X9_tell (ho : sO o) (hS : Sc I o S) {a : Nat} (ha : a < 7) (hb : b < 7) (hok : ∀ b c h, sK S b c = some h → h ≤ 9) (hf : hnw S a b = false → Q (.inl (some (.int 0))) (Z I J n w)) (ht : ∀ I', hnw S a b = true → (∀ x j, (x < o ∨ o + 6 < x) → I' x j = I x j) → Sc I' o (tol S a b 12) → Q (.inl (some (.int 1))) (Z I' J n w)) : Cn g (d + 2) mX9_tell [.ref o, .int (nI a), .int (nI b)] (Z I J n w) Q := by
  show Rn g (d + 2) mX9_tell 0 [.ref o, .int (nI a), .int (nI b), .retAddr 0, .retAddr 0] [] [] (Z I J n w) Q
  refine s_aload_n (pc := 0) (i := 0) dX9_tell_0 rfl rfl ?_
  refine s_iload_n (pc := 1) (i := 1) dX9_tell_1 rfl rfl ?_
  refine s_iload_n (pc := 2) (i := 2) dX9_tell_2 rfl rfl ?_
  refine m_v2 (pc := 3) dX9_tell_3 lk_X9_56 ok_X9_hasNewsFor (rcO (ho).1 (by decide) rfl) rfl rfl (c_X9_hasNewsFor ho hS ha hb (fun h => kt_s ?_) (fun h => kt_s ?_))
  · refine s_ifne (pc := 6) (tgt := 11) dX9_tell_6 rfl (fun h6 => ?_) (fun h6 => absurd h6 (by decide))
    refine s_aload_n (pc := 11) (i := 0) dX9_tell_11 rfl rfl ?_
    refine m_gr (pc := 12) dX9_tell_12 ff_X9_21 rfl (ho).1 (ho.2.2.2.2.1).1 ?_
    refine s_iload_n (pc := 15) (i := 1) dX9_tell_15 rfl rfl ?_
    refine m_ia (pc := 16) dX9_tell_16 (ho.2.2.2.2.1).2 (vp_in_nI ha (by decide)) ?_
    refine m_nm (v' := nI (bs (fun c => (sK S a c).isSome) 12)) (rdI (hS.1 a ha).2.2.2 (by omega)) ?_
    refine s_aload_n (pc := 17) (i := 0) dX9_tell_17 rfl rfl ?_
    refine m_gr (pc := 18) dX9_tell_18 ff_X9_21 rfl (ho).1 (ho.2.2.2.2.1).1 ?_
    refine s_iload_n (pc := 21) (i := 2) dX9_tell_21 rfl rfl ?_
    refine m_ia (pc := 22) dX9_tell_22 (ho.2.2.2.2.1).2 (vp_in_nI hb (by decide)) ?_
    refine m_nm (v' := nI (bs (fun c => (sK S b c).isSome) 12)) (rdI (hS.1 b hb).2.2.2 (by omega)) ?_
    refine m_ic (pc := 23) (v := -1) dX9_tell_23 rfl ?_
    refine s_ixor (pc := 24) dX9_tell_24 ?_
    refine s_iand (pc := 25) dX9_tell_25 ?_
    refine m_nm (v' := nI (bs (nws S a b) 12)) (bs_an (by decide)) ?_
    refine s_istore_n (pc := 26) (i := 3) dX9_tell_26 rfl (Nat.le_of_ble_eq_true rfl) ?_
    dsimp only [List.set, List.filter]
    refine m_ic (pc := 27) (v := 0) dX9_tell_27 rfl ?_
    refine s_istore (pc := 28) (i := 4) dX9_tell_28 (Nat.le_of_ble_eq_true rfl) ?_
    dsimp only [List.set, List.filter]
    exact tell_lp ho (fun z => by rw [hnw_1 (Or.inl z)] at h; cases h) ha hb hok 12 0 I rfl hS (fun I' z1 z2 => ht I' h z1 z2)
  · refine s_ifne (pc := 6) (tgt := 11) dX9_tell_6 rfl (fun h6 => absurd h6 (by decide)) (fun h6 => ?_)
    refine m_ic (pc := 9) (v := 0) dX9_tell_9 rfl ?_
    refine s_ireturn (pc := 10) dX9_tell_10 rfl rfl ?_
    exact hf h
theorem F_off (hb : b < 7) : nI (bs (sF S) 7) &&& (((1 : Int32) <<< (nI b &&& 31)) ^^^ -1) = nI (bs (bfn (sF S) b false) 7) := by
  rw [sh_bs hb (by decide), bs_an (by decide)]
  refine congrArg nI (bs_eq (fun i hi => ?_))
  unfold bfn
  by_cases e : i = b <;> simp [e]
theorem F_on (hb : b < 7) : nI (bs (sF S) 7) ||| (1 : Int32) <<< (nI b &&& 31) = nI (bs (bfn (sF S) b true) 7) := by
  rw [sh_bs hb (by decide), bs_or (by decide)]
  refine congrArg nI (bs_eq (fun i hi => ?_))
  unfold bfn
  by_cases e : i = b <;> simp [e]
theorem c_X9_rest (ho : sO o) (hS : Sc I o S) (hb : b < 7) (hT : sT S b ≤ 270) (hf : sT S b = 0 → Q (.inl (some (.int 0))) (Z I J n w)) (ht : ∀ I', ¬ sT S b = 0 → (∀ x j, (x < o ∨ o + 6 < x) → I' x j = I x j) → Sc I' o (rst S b) → Q (.inl (some (.int 1))) (Z I' J n w)) : Cn g (d + 0) mX9_rest [.ref o, .int (nI b)] (Z I J n w) Q := by
  show Rn g (d + 0) mX9_rest 0 [.ref o, .int (nI b)] [] [] (Z I J n w) Q
  refine s_aload_n (pc := 0) (i := 0) dX9_rest_0 rfl rfl ?_
  refine m_gr (pc := 1) dX9_rest_1 ff_X9_9 rfl (ho).1 (ho.2.1).1 ?_
  refine s_iload_n (pc := 4) (i := 1) dX9_rest_4 rfl rfl ?_
  refine m_ia (pc := 5) dX9_rest_5 (ho.2.1).2 (vp_in_nI hb (by decide)) ?_
  refine m_nm (v' := nI (sT S b)) (rdI (hS.1 b hb).1 (by omega)) ?_
  refine s_ifne (pc := 6) (tgt := 11) dX9_rest_6 rfl (fun h6 => ?_) (fun h6 => ?_)
  · have e : ¬ sT S b = 0 := fun z => h6 (by rw [z]; rfl)
    refine s_aload_n (pc := 11) (i := 0) dX9_rest_11 rfl rfl ?_
    refine m_gr (pc := 12) dX9_rest_12 ff_X9_9 rfl (ho).1 (ho.2.1).1 ?_
    refine s_iload_n (pc := 15) (i := 1) dX9_rest_15 rfl rfl ?_
    refine s_dup2 (pc := 16) dX9_rest_16 rfl rfl ?_
    refine m_ia (pc := 17) dX9_rest_17 (ho.2.1).2 (vp_in_nI hb (by decide)) ?_
    refine m_nm (v' := nI (sT S b)) (rdI (hS.1 b hb).1 (by omega)) ?_
    refine m_ic (pc := 18) (v := 2) dX9_rest_18 rfl ?_
    refine s_idiv (pc := 19) dX9_rest_19 (by decide) ?_
    refine m_nm (v' := nI (sT S b / 2)) (pk_div (d := 2) (by omega) (by decide) (by decide)) ?_
    refine m_is (pc := 20) dX9_rest_20 (ho.2.1).2 (vp_in_nI hb (by decide)) ?_
    rw [nI_clamp (by omega)]
    refine s_aload_n (pc := 21) (i := 0) dX9_rest_21 rfl rfl ?_
    refine s_dup (pc := 22) dX9_rest_22 rfl ?_
    refine m_gi (pc := 23) dX9_rest_23 ff_X9_36 rfl (ho).1 ?_
    refine m_nm (v' := nI (bs (sF S) 7)) (by rw [up_a (by omega)]; exact hS.2.2.2.1) ?_
    refine m_ic (pc := 26) (v := 1) dX9_rest_26 rfl ?_
    refine s_iload_n (pc := 27) (i := 1) dX9_rest_27 rfl rfl ?_
    refine s_ishl (pc := 28) dX9_rest_28 ?_
    refine m_ic (pc := 29) (v := -1) dX9_rest_29 rfl ?_
    refine s_ixor (pc := 30) dX9_rest_30 ?_
    refine s_iand (pc := 31) dX9_rest_31 ?_
    refine m_nm (v' := nI (bs (bfn (sF S) b false) 7)) (F_off hb) ?_
    refine m_pi (pc := 32) dX9_rest_32 ff_X9_36 rfl rfl (ho).1 ?_
    refine m_ic (pc := 35) (v := 1) dX9_rest_35 rfl ?_
    refine s_ireturn (pc := 36) dX9_rest_36 rfl rfl ?_
    exact ht _ e (fun x j z => by rw [up_a (by omega), up_a (by omega)]) (Sc_F (S := zT S b (sT S b / 2)) (Sc_T hS))
  · have e : sT S b = 0 := (nI_eq (by omega) (by decide)).mp (h6.trans nI_0.symm)
    refine m_ic (pc := 9) (v := 0) dX9_rest_9 rfl ?_
    refine s_ireturn (pc := 10) dX9_rest_10 rfl rfl ?_
    exact hf e
end S
