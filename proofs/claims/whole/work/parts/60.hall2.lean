section S
variable {g : aG} {d : Nat} {I : Nat → Nat → Int32} {J : Nat → Nat → Int64} {n w : Nat} {Q : aO → aS → Prop}
variable {σ : aS} {S : sD} {D : cD} {cs : List Nat} {o b c k : Nat}
/-- the class's court, law and state -/
def Wc (I : Nat → Nat → Int32) (o : Nat) (D : cD) (cs : List Nat) (S : sD) : Prop := Co I 4 D ∧ cOk D ∧ Lw I 14 cs ∧ lOk cs ∧ Sc I o S ∧ sOk D S
theorem Co_fr {I' : Nat → Nat → Int32} {q : Nat} (h : Co I q D) (hf : ∀ x j, q ≤ x → x ≤ q + 4 → I' x j = I x j) : Co I' q D := by
  obtain ⟨h1, h2, h3, h4, h5⟩ := h
  refine ⟨?_, ?_, ?_, fun b hb => ?_, fun c hc => ?_⟩
  · rw [hf _ _ (by omega) (by omega)]; exact h1
  · rw [hf _ _ (by omega) (by omega)]; exact h2
  · rw [hf _ _ (by omega) (by omega)]; exact h3
  · rw [hf _ _ (by omega) (by omega), hf _ _ (by omega) (by omega)]; exact h4 b hb
  · rw [hf _ _ (by omega) (by omega), hf _ _ (by omega) (by omega)]; exact h5 c hc
theorem Lw_fr {I' : Nat → Nat → Int32} {q : Nat} (h : Lw I q cs) (hf : ∀ x j, q ≤ x → x ≤ q + 1 → I' x j = I x j) : Lw I' q cs := ⟨by rw [hf _ _ (by omega) (by omega)]; exact h.1, fun i hi => by rw [hf _ _ (by omega) (by omega)]; exact h.2 i hi⟩
theorem Wc_fl {I' : Nat → Nat → Int32} (h : Wc I o D cs S) (h17 : 17 < o) (hf : fl I I') : Wc I' o D cs S := ⟨Co_fr h.1 (fun x j _ _ => hf x j (by omega) (by omega)), h.2.1, Lw_fr h.2.2.1 (fun x j _ _ => hf x j (by omega) (by omega)), h.2.2.2.1, Sc_fr h.2.2.2.2.1 (fun x j _ _ => hf x j (by omega) (by omega)), h.2.2.2.2.2⟩
/-- a frame: the law's rows and the state at o may change -/
def fS (o : Nat) (I I' : Nat → Nat → Int32) : Prop := ∀ x j, x ≠ 16 → x ≠ 17 → (x < o ∨ o + 6 < x) → I' x j = I x j
theorem fS_r : fS o I I := fun _ _ _ _ _ => rfl
theorem fS_t {I' I'' : Nat → Nat → Int32} (h : fS o I I') (h2 : fS o I' I'') : fS o I I'' := fun x j a b e => (h2 x j a b e).trans (h x j a b e)
theorem fS_l {I' : Nat → Nat → Int32} (h : fl I I') : fS o I I' := fun x j a b _ => h x j a b
theorem fS_o {I' : Nat → Nat → Int32} (h : ∀ x j, (x < o ∨ o + 6 < x) → I' x j = I x j) : fS o I I' := fun x j _ _ e => h x j e
theorem Wc_fS {I' : Nat → Nat → Int32} {S' : sD} (h : Wc I o D cs S) (h17 : 17 < o) (hf : fS o I I') (hS : Sc I' o S') (hk : sOk D S') : Wc I' o D cs S' := ⟨Co_fr h.1 (fun x j _ _ => hf x j (by omega) (by omega) (by omega)), h.2.1, Lw_fr h.2.2.1 (fun x j _ _ => hf x j (by omega) (by omega) (by omega)), h.2.2.2.1, hS, hk⟩
theorem c_X3_restOfDay (ho : sO o) (h17 : 17 < o) (hW : Wc I o D cs S) (hb : b < cb D) (hq : Q (.inl (some (.int (nI (5 + cC D b))))) (Z I J n w)) : Cn g (d + 0) mX3_restOfDay [.ref 31, .int (nI b)] (Z I J n w) Q := by
  have hb7 := hW.2.1.1
  have hc12 := hW.2.1.2.1
  show Rn g (d + 0) mX3_restOfDay 0 [.ref 31, .int (nI b)] [] [] (Z I J n w) Q
  refine m_ic (pc := 0) (v := 5) dX3_restOfDay_0 rfl ?_
  refine s_aload_n (pc := 1) (i := 0) dX3_restOfDay_1 rfl rfl ?_
  refine m_gr (pc := 2) dX3_restOfDay_2 ff_X3_9 rfl o_31 r_31_0 ?_
  refine m_gr (pc := 5) dX3_restOfDay_5 ff_X3_19 rfl o_4 r_4_1 ?_
  refine s_iload_n (pc := 8) (i := 1) dX3_restOfDay_8 rfl rfl ?_
  refine m_ia (pc := 9) dX3_restOfDay_9 a_6 (vp_in_nI (by omega) (by decide)) ?_
  refine m_nm (v' := nI (cC D b)) (rdI (hW.1.2.2.2.1 b hb).2 (by omega)) ?_
  refine s_iadd (pc := 10) dX3_restOfDay_10 ?_
  refine m_nm (v' := nI (5 + cC D b)) (nI_add 5 _) ?_
  refine s_ireturn (pc := 11) dX3_restOfDay_11 rfl rfl ?_
  exact hq
theorem c_X3_tiredIn (ho : sO o) (h17 : 17 < o) (hW : Wc I o D cs S) (hb : b < cb D) (hk : k ≤ 1000) (hq : Q (.inl (some (.int (nI (tin D S b k))))) (Z I J n w)) : Cn g (d + 1) mX3_tiredIn [.ref 31, .ref o, .int (nI b), .int (nI k)] (Z I J n w) Q := by
  have hb7 := hW.2.1.1
  have hc12 := hW.2.1.2.1
  have hT := (hW.2.2.2.2.2.1 b).1
  have hC := (hW.2.1.2.2.2.1 b hb).2.2
  have hm : k * (5 + cC D b) ≤ 1000 * 14 := Nat.mul_le_mul hk (by omega)
  show Rn g (d + 1) mX3_tiredIn 0 [.ref 31, .ref o, .int (nI b), .int (nI k)] [] [] (Z I J n w) Q
  refine m_ic (pc := 0) (v := 0) dX3_tiredIn_0 rfl ?_
  refine s_aload_n (pc := 1) (i := 1) dX3_tiredIn_1 rfl rfl ?_
  refine m_gr (pc := 2) dX3_tiredIn_2 ff_X3_25 rfl (ho).1 (ho.2.1).1 ?_
  refine s_iload_n (pc := 5) (i := 2) dX3_tiredIn_5 rfl rfl ?_
  refine m_ia (pc := 6) dX3_tiredIn_6 (ho.2.1).2 (vp_in_nI (by omega) (by decide)) ?_
  refine m_nm (v' := nI (sT S b)) (rdI (hW.2.2.2.2.1.1 b (by omega)).1 (by omega)) ?_
  refine s_iload_n (pc := 7) (i := 3) dX3_tiredIn_7 rfl rfl ?_
  refine s_aload_n (pc := 8) (i := 0) dX3_tiredIn_8 rfl rfl ?_
  refine s_iload_n (pc := 9) (i := 2) dX3_tiredIn_9 rfl rfl ?_
  refine m_v1 (pc := 10) dX3_tiredIn_10 lk_X3_30 ok_X3_restOfDay (rcO o_31 (by decide) rfl) rfl rfl (c_X3_restOfDay ho h17 hW hb (kt_s ?_))
  refine s_imul (pc := 13) dX3_tiredIn_13 ?_
  refine m_nm (v' := nI (k * (5 + cC D b))) (pk_mul _ _) ?_
  refine s_isub (pc := 14) dX3_tiredIn_14 ?_
  refine m_max (pc := 15) dX3_tiredIn_15 ml_X3_34 (Nat.le_of_ble_eq_true rfl) ?_
  refine m_nm (v' := nI (tin D S b k)) (max_sub (by omega) (by omega)) ?_
  refine s_ireturn (pc := 18) dX3_tiredIn_18 rfl rfl ?_
  exact hq
theorem up_n3 {x j q i : Nat} {v : Int32} (h : q ≠ x ∨ i ≠ j) : up I x j v q i = I q i := by unfold up; rw [if_neg (by omega)]
theorem c_X4_tellKing {x y z0 : Int32} (hq : ∀ I', (∀ q j, (q ≠ 16 ∨ (j ≠ 0 ∧ j ≠ 1 ∧ j ≠ 7)) → I' q j = I q j) → I' 16 0 = x → I' 16 1 = y → I' 16 7 = z0 → Q (.inl none) (Z I' J n w)) : Cn g (d + 0) mX4_tellKing [.ref 14, .int x, .int y, .int z0] (Z I J n w) Q := by
  show Rn g (d + 0) mX4_tellKing 0 [.ref 14, .int x, .int y, .int z0] [] [] (Z I J n w) Q
  refine s_aload_n (pc := 0) (i := 0) dX4_tellKing_0 rfl rfl ?_
  refine m_gr (pc := 1) dX4_tellKing_1 ff_X4_15 rfl o_14 r_14_1 ?_
  refine m_ic (pc := 4) (v := 0) dX4_tellKing_4 rfl ?_
  refine s_iload_n (pc := 5) (i := 1) dX4_tellKing_5 rfl rfl ?_
  refine m_is (pc := 6) dX4_tellKing_6 a_16 (vp_in_nI (n := 0) (by decide) (by decide)) ?_
  rw [show Int32.toNatClampNeg 0 = 0 from rfl]
  refine s_aload_n (pc := 7) (i := 0) dX4_tellKing_7 rfl rfl ?_
  refine m_gr (pc := 8) dX4_tellKing_8 ff_X4_15 rfl o_14 r_14_1 ?_
  refine m_ic (pc := 11) (v := 1) dX4_tellKing_11 rfl ?_
  refine s_iload_n (pc := 12) (i := 2) dX4_tellKing_12 rfl rfl ?_
  refine m_is (pc := 13) dX4_tellKing_13 a_16 (vp_in_nI (n := 1) (by decide) (by decide)) ?_
  rw [show Int32.toNatClampNeg 1 = 1 from rfl]
  refine s_aload_n (pc := 14) (i := 0) dX4_tellKing_14 rfl rfl ?_
  refine m_gr (pc := 15) dX4_tellKing_15 ff_X4_15 rfl o_14 r_14_1 ?_
  refine m_bi (pc := 18) (v := 7) dX4_tellKing_18 rfl ?_
  refine s_iload_n (pc := 20) (i := 3) dX4_tellKing_20 rfl rfl ?_
  refine m_is (pc := 21) dX4_tellKing_21 a_16 (vp_in_nI (n := 7) (by decide) (by decide)) ?_
  rw [show Int32.toNatClampNeg 7 = 7 from rfl]
  refine s_return (pc := 22) dX4_tellKing_22 rfl ?_
  exact hq _ (fun q j z => by rw [up_n3 (by omega), up_n3 (by omega), up_n3 (by omega)]) (by simp [up]) (by simp [up]) (by simp [up])
theorem c_X4_tellCouncil {x y : Int32} (hq : ∀ I', (∀ q j, (q ≠ 16 ∨ (j ≠ 2 ∧ j ≠ 3)) → I' q j = I q j) → I' 16 2 = x → I' 16 3 = y → Q (.inl none) (Z I' J n w)) : Cn g (d + 0) mX4_tellCouncil [.ref 14, .int x, .int y] (Z I J n w) Q := by
  show Rn g (d + 0) mX4_tellCouncil 0 [.ref 14, .int x, .int y] [] [] (Z I J n w) Q
  refine s_aload_n (pc := 0) (i := 0) dX4_tellCouncil_0 rfl rfl ?_
  refine m_gr (pc := 1) dX4_tellCouncil_1 ff_X4_15 rfl o_14 r_14_1 ?_
  refine m_ic (pc := 4) (v := 2) dX4_tellCouncil_4 rfl ?_
  refine s_iload_n (pc := 5) (i := 1) dX4_tellCouncil_5 rfl rfl ?_
  refine m_is (pc := 6) dX4_tellCouncil_6 a_16 (vp_in_nI (n := 2) (by decide) (by decide)) ?_
  rw [show Int32.toNatClampNeg 2 = 2 from rfl]
  refine s_aload_n (pc := 7) (i := 0) dX4_tellCouncil_7 rfl rfl ?_
  refine m_gr (pc := 8) dX4_tellCouncil_8 ff_X4_15 rfl o_14 r_14_1 ?_
  refine m_ic (pc := 11) (v := 3) dX4_tellCouncil_11 rfl ?_
  refine s_iload_n (pc := 12) (i := 2) dX4_tellCouncil_12 rfl rfl ?_
  refine m_is (pc := 13) dX4_tellCouncil_13 a_16 (vp_in_nI (n := 3) (by decide) (by decide)) ?_
  rw [show Int32.toNatClampNeg 3 = 3 from rfl]
  refine s_return (pc := 14) dX4_tellCouncil_14 rfl ?_
  exact hq _ (fun q j z => by rw [up_n3 (by omega), up_n3 (by omega)]) (by simp [up]) (by simp [up])
theorem c_X4_tellBack {x y z0 z1 : Int32} (hq : ∀ I', (∀ q j, (q ≠ 16 ∨ (j ≠ 8 ∧ j ≠ 4 ∧ j ≠ 5 ∧ j ≠ 6)) → I' q j = I q j) → I' 16 8 = x → I' 16 4 = y → I' 16 5 = z0 → I' 16 6 = z1 → Q (.inl none) (Z I' J n w)) : Cn g (d + 0) mX4_tellBack [.ref 14, .int x, .int y, .int z0, .int z1] (Z I J n w) Q := by
  show Rn g (d + 0) mX4_tellBack 0 [.ref 14, .int x, .int y, .int z0, .int z1] [] [] (Z I J n w) Q
  refine s_aload_n (pc := 0) (i := 0) dX4_tellBack_0 rfl rfl ?_
  refine m_gr (pc := 1) dX4_tellBack_1 ff_X4_15 rfl o_14 r_14_1 ?_
  refine m_bi (pc := 4) (v := 8) dX4_tellBack_4 rfl ?_
  refine s_iload_n (pc := 6) (i := 1) dX4_tellBack_6 rfl rfl ?_
  refine m_is (pc := 7) dX4_tellBack_7 a_16 (vp_in_nI (n := 8) (by decide) (by decide)) ?_
  rw [show Int32.toNatClampNeg 8 = 8 from rfl]
  refine s_aload_n (pc := 8) (i := 0) dX4_tellBack_8 rfl rfl ?_
  refine m_gr (pc := 9) dX4_tellBack_9 ff_X4_15 rfl o_14 r_14_1 ?_
  refine m_ic (pc := 12) (v := 4) dX4_tellBack_12 rfl ?_
  refine s_iload_n (pc := 13) (i := 2) dX4_tellBack_13 rfl rfl ?_
  refine m_is (pc := 14) dX4_tellBack_14 a_16 (vp_in_nI (n := 4) (by decide) (by decide)) ?_
  rw [show Int32.toNatClampNeg 4 = 4 from rfl]
  refine s_aload_n (pc := 15) (i := 0) dX4_tellBack_15 rfl rfl ?_
  refine m_gr (pc := 16) dX4_tellBack_16 ff_X4_15 rfl o_14 r_14_1 ?_
  refine m_ic (pc := 19) (v := 5) dX4_tellBack_19 rfl ?_
  refine s_iload_n (pc := 20) (i := 3) dX4_tellBack_20 rfl rfl ?_
  refine m_is (pc := 21) dX4_tellBack_21 a_16 (vp_in_nI (n := 5) (by decide) (by decide)) ?_
  rw [show Int32.toNatClampNeg 5 = 5 from rfl]
  refine s_aload_n (pc := 22) (i := 0) dX4_tellBack_22 rfl rfl ?_
  refine m_gr (pc := 23) dX4_tellBack_23 ff_X4_15 rfl o_14 r_14_1 ?_
  refine m_bi (pc := 26) (v := 6) dX4_tellBack_26 rfl ?_
  refine s_iload (pc := 28) (i := 4) dX4_tellBack_28 rfl ?_
  refine m_is (pc := 30) dX4_tellBack_30 a_16 (vp_in_nI (n := 6) (by decide) (by decide)) ?_
  rw [show Int32.toNatClampNeg 6 = 6 from rfl]
  refine s_return (pc := 31) dX4_tellBack_31 rfl ?_
  exact hq _ (fun q j z => by rw [up_n3 (by omega), up_n3 (by omega), up_n3 (by omega), up_n3 (by omega)]) (by simp [up]) (by simp [up]) (by simp [up]) (by simp [up])
theorem c_X3_loadOn (ho : sO o) (h17 : 17 < o) (hW : Wc I o D cs S) (hb : b < cb D) (hc : c < cc D) (hk : k ≤ 1000) (hq : ∀ I', fl I I' → Q (.inl (some (.int (nI (lod D cs S b c k))))) (Z I' J n w)) : Cn g (d + 2) mX3_loadOn [.ref 31, .ref o, .int (nI b), .int (nI c), .int (nI k)] (Z I J n w) Q := by
  have hb7 := hW.2.1.1
  have hc12 := hW.2.1.2.1
  show Rn g (d + 2) mX3_loadOn 0 [.ref 31, .ref o, .int (nI b), .int (nI c), .int (nI k), .retAddr 0] [] [] (Z I J n w) Q
  refine s_aload_n (pc := 0) (i := 0) dX3_loadOn_0 rfl rfl ?_
  refine m_gr (pc := 1) dX3_loadOn_1 ff_X3_15 rfl o_31 r_31_1 ?_
  refine s_aload_n (pc := 4) (i := 0) dX3_loadOn_4 rfl rfl ?_
  refine m_gr (pc := 5) dX3_loadOn_5 ff_X3_9 rfl o_31 r_31_0 ?_
  refine m_gi (pc := 8) dX3_loadOn_8 ff_X3_40 rfl o_4 ?_
  refine m_nm (v' := nI (ck D)) (hW.1.2.2.1) ?_
  refine s_aload_n (pc := 11) (i := 1) dX3_loadOn_11 rfl rfl ?_
  refine m_gi (pc := 12) dX3_loadOn_12 ff_X3_44 rfl (ho).1 ?_
  refine m_nm (v' := nI (sH S)) (hW.2.2.2.2.1.2.2.2.2.2) ?_
  refine s_aload_n (pc := 15) (i := 1) dX3_loadOn_15 rfl rfl ?_
  refine m_gi (pc := 16) dX3_loadOn_16 ff_X3_47 rfl (ho).1 ?_
  refine m_nm (v' := nI (sY S)) (hW.2.2.2.2.1.2.2.2.2.1) ?_
  refine s_iload (pc := 19) (i := 4) dX3_loadOn_19 rfl ?_
  refine s_iadd (pc := 21) dX3_loadOn_21 ?_
  refine m_nm (v' := nI (sY S + k)) (nI_add _ _) ?_
  refine m_v3 (pc := 22) dX3_loadOn_22 lk_X3_50 ok_X4_tellKing (rcO o_14 (by decide) rfl) rfl rfl (c_X4_tellKing (fun I1 f1 a0 a1 a7 => kt_v ?_))
  refine s_aload_n (pc := 25) (i := 0) dX3_loadOn_25 rfl rfl ?_
  refine m_gr (pc := 26) dX3_loadOn_26 ff_X3_15 rfl o_31 r_31_1 ?_
  refine s_aload_n (pc := 29) (i := 0) dX3_loadOn_29 rfl rfl ?_
  refine m_gr (pc := 30) dX3_loadOn_30 ff_X3_9 rfl o_31 r_31_0 ?_
  refine m_gr (pc := 33) dX3_loadOn_33 ff_X3_56 rfl o_4 r_4_3 ?_
  refine s_iload_n (pc := 36) (i := 3) dX3_loadOn_36 rfl rfl ?_
  refine m_ia (pc := 37) dX3_loadOn_37 a_8 (vp_in_nI (by omega) (by decide)) ?_
  refine m_nm (v' := nI (cL D c)) (rdI ((Co_fr (I' := I1) hW.1 (fun x j z1 z2 => f1 x j (by omega))).2.2.2.2 c hc).2 (by omega)) ?_
  refine s_aload_n (pc := 38) (i := 0) dX3_loadOn_38 rfl rfl ?_
  refine m_gr (pc := 39) dX3_loadOn_39 ff_X3_9 rfl o_31 r_31_0 ?_
  refine m_gr (pc := 42) dX3_loadOn_42 ff_X3_59 rfl o_4 r_4_2 ?_
  refine s_iload_n (pc := 45) (i := 3) dX3_loadOn_45 rfl rfl ?_
  refine m_ia (pc := 46) dX3_loadOn_46 a_7 (vp_in_nI (by omega) (by decide)) ?_
  refine m_nm (v' := nI (cH D c)) (rdI ((Co_fr (I' := I1) hW.1 (fun x j z1 z2 => f1 x j (by omega))).2.2.2.2 c hc).1 (by omega)) ?_
  refine m_v2 (pc := 47) dX3_loadOn_47 lk_X3_62 ok_X4_tellCouncil (rcO o_14 (by decide) rfl) rfl rfl (c_X4_tellCouncil (fun I2 f2 a2 a3 => kt_v ?_))
  have g2 : fl I I2 := fun x j z1 z2 => by rw [f2 x j (by omega), f1 x j (by omega)]
  have hW2 := Wc_fl hW h17 g2
  refine s_aload_n (pc := 50) (i := 1) dX3_loadOn_50 rfl rfl ?_
  refine m_gr (pc := 51) dX3_loadOn_51 ff_X3_66 rfl (ho).1 (ho.2.2.2.2.1).1 ?_
  refine s_iload_n (pc := 54) (i := 2) dX3_loadOn_54 rfl rfl ?_
  refine m_ia (pc := 55) dX3_loadOn_55 (ho.2.2.2.2.1).2 (vp_in_nI (by omega) (by decide)) ?_
  refine m_nm (v' := nI (bs (fun c => (sK S b c).isSome) 12)) (rdI (hW2.2.2.2.2.1.1 b (by omega)).2.2.2 (by omega)) ?_
  refine m_s1 (pc := 56) dX3_loadOn_56 lk_X3_69 ok_J6_bitCount_0f7a4 rfl rfl (c_bitCount (by decide) (kt_s ?_))
  refine s_istore (pc := 59) (i := 5) dX3_loadOn_59 (Nat.le_of_ble_eq_true rfl) ?_
  dsimp only [List.set, List.filter]
  refine s_aload_n (pc := 61) (i := 0) dX3_loadOn_61 rfl rfl ?_
  refine m_gr (pc := 62) dX3_loadOn_62 ff_X3_15 rfl o_31 r_31_1 ?_
  refine s_iload_n (pc := 65) (i := 2) dX3_loadOn_65 rfl rfl ?_
  refine s_aload_n (pc := 66) (i := 0) dX3_loadOn_66 rfl rfl ?_
  refine m_gr (pc := 67) dX3_loadOn_67 ff_X3_9 rfl o_31 r_31_0 ?_
  refine m_gr (pc := 70) dX3_loadOn_70 ff_X3_19 rfl o_4 r_4_1 ?_
  refine s_iload_n (pc := 73) (i := 2) dX3_loadOn_73 rfl rfl ?_
  refine m_ia (pc := 74) dX3_loadOn_74 a_6 (vp_in_nI (by omega) (by decide)) ?_
  refine m_nm (v' := nI (cC D b)) (rdI (hW2.1.2.2.2.1 b hb).2 (by omega)) ?_
  refine s_aload_n (pc := 75) (i := 0) dX3_loadOn_75 rfl rfl ?_
  refine s_aload_n (pc := 76) (i := 1) dX3_loadOn_76 rfl rfl ?_
  refine s_iload_n (pc := 77) (i := 2) dX3_loadOn_77 rfl rfl ?_
  refine s_iload (pc := 78) (i := 4) dX3_loadOn_78 rfl ?_
  refine m_v3 (pc := 80) dX3_loadOn_80 lk_X3_74 ok_X3_tiredIn (rcO o_31 (by decide) rfl) rfl rfl (c_X3_tiredIn ho h17 hW2 hb hk (kt_s ?_))
  refine s_iload (pc := 83) (i := 5) dX3_loadOn_83 rfl ?_
  refine m_v4 (pc := 85) dX3_loadOn_85 lk_X3_78 ok_X4_tellBack (rcO o_14 (by decide) rfl) rfl rfl (c_X4_tellBack (fun I3 f3 a8 a4 a5 a6 => kt_v ?_))
  have g3 : fl I I3 := fun x j z1 z2 => by rw [f3 x j (by omega), g2 x j z1 z2]
  refine s_aload_n (pc := 88) (i := 0) dX3_loadOn_88 rfl rfl ?_
  refine m_gr (pc := 89) dX3_loadOn_89 ff_X3_15 rfl o_31 r_31_1 ?_
  refine m_v0 (pc := 92) dX3_loadOn_92 lk_X3_82 ok_X4_loadAsTold (rcO o_14 (by decide) rfl) rfl rfl (c_X4_loadAsTold (f := fct D S b c k) (cs := cs) (Wc_fl hW h17 g3).2.2.1 hW.2.2.2.1 (fv_eq (r := I3 16) (by rw [f3 _ _ (by omega), f2 _ _ (by omega)]; exact a0) (by rw [f3 _ _ (by omega), f2 _ _ (by omega)]; exact a1) (by rw [f3 _ _ (by omega)]; exact a2) (by rw [f3 _ _ (by omega)]; exact a3) a4 a5 a6 (by rw [f3 _ _ (by omega), f2 _ _ (by omega)]; exact a7) a8) (fun I4 f4 => kt_s ?_))
  refine s_ireturn (pc := 95) dX3_loadOn_95 rfl rfl ?_
  exact hq I4 (fl_t g3 f4)
theorem c_X3_burdenOn (ho : sO o) (h17 : 17 < o) (hW : Wc I o D cs S) (hb : b < cb D) (hc : c < cc D) (hk : k ≤ 1000) (hq : ∀ I', fl I I' → Q (.inl (some (.int (nI (bur D cs S b c k))))) (Z I' J n w)) : Cn g (d + 3) mX3_burdenOn [.ref 31, .ref o, .int (nI b), .int (nI c), .int (nI k)] (Z I J n w) Q := by
  have hb7 := hW.2.1.1
  have hc12 := hW.2.1.2.1
  have hl := lod_le (D := D) (cs := cs) (S := S) (b := b) (c := c) (k := k)
  have hm := Nat.mul_le_mul hl (hW.2.1.2.2.2.2 c hc).2.1
  show Rn g (d + 3) mX3_burdenOn 0 [.ref 31, .ref o, .int (nI b), .int (nI c), .int (nI k)] [] [] (Z I J n w) Q
  refine s_aload_n (pc := 0) (i := 0) dX3_burdenOn_0 rfl rfl ?_
  refine s_aload_n (pc := 1) (i := 1) dX3_burdenOn_1 rfl rfl ?_
  refine s_iload_n (pc := 2) (i := 2) dX3_burdenOn_2 rfl rfl ?_
  refine s_iload_n (pc := 3) (i := 3) dX3_burdenOn_3 rfl rfl ?_
  refine s_iload (pc := 4) (i := 4) dX3_burdenOn_4 rfl ?_
  refine m_v4 (pc := 6) dX3_burdenOn_6 lk_X3_86 ok_X3_loadOn (rcO o_31 (by decide) rfl) rfl rfl (c_X3_loadOn ho h17 hW hb hc hk (fun I1 f1 => kt_s ?_))
  refine s_aload_n (pc := 9) (i := 0) dX3_burdenOn_9 rfl rfl ?_
  refine m_gr (pc := 10) dX3_burdenOn_10 ff_X3_9 rfl o_31 r_31_0 ?_
  refine m_gr (pc := 13) dX3_burdenOn_13 ff_X3_59 rfl o_4 r_4_2 ?_
  refine s_iload_n (pc := 16) (i := 3) dX3_burdenOn_16 rfl rfl ?_
  refine m_ia (pc := 17) dX3_burdenOn_17 a_7 (vp_in_nI (by omega) (by decide)) ?_
  refine m_nm (v' := nI (cH D c)) (rdI ((Wc_fl hW h17 f1).1.2.2.2.2 c hc).1 (by omega)) ?_
  refine s_imul (pc := 18) dX3_burdenOn_18 ?_
  refine m_nm (v' := nI (lod D cs S b c k * cH D c)) (pk_mul _ _) ?_
  refine m_ic (pc := 19) (v := 4) dX3_burdenOn_19 rfl ?_
  refine s_idiv (pc := 20) dX3_burdenOn_20 (by decide) ?_
  refine m_nm (v' := nI (bur D cs S b c k)) (pk_div (d := 4) (by omega) (by decide) (by decide)) ?_
  refine s_ireturn (pc := 21) dX3_burdenOn_21 rfl rfl ?_
  exact hq I1 f1
theorem c_X3_bearsIn (ho : sO o) (h17 : 17 < o) (hW : Wc I o D cs S) (hb : b < cb D) (hc : c < cc D) (hk : k ≤ 1000) (ht : ∀ I', brs D cs S b c k = true → fl I I' → Q (.inl (some (.int 1))) (Z I' J n w)) (hf : ∀ I', brs D cs S b c k = false → fl I I' → Q (.inl (some (.int 0))) (Z I' J n w)) : Cn g (d + 4) mX3_bearsIn [.ref 31, .ref o, .int (nI b), .int (nI c), .int (nI k)] (Z I J n w) Q := by
  have hb7 := hW.2.1.1
  have hc12 := hW.2.1.2.1
  have hT := (hW.2.2.2.2.2.1 b).1
  have hT2 : tin D S b k ≤ sT S b := Nat.sub_le _ _
  have hB := bur_le (D := D) (cs := cs) (S := S) (b := b) (c := c) (k := k) hW.2.1 hc
  have hS9 := (hW.2.1.2.2.2.1 b hb).2.1
  show Rn g (d + 4) mX3_bearsIn 0 [.ref 31, .ref o, .int (nI b), .int (nI c), .int (nI k), .retAddr 0] [] [] (Z I J n w) Q
  refine s_aload_n (pc := 0) (i := 1) dX3_bearsIn_0 rfl rfl ?_
  refine s_iload_n (pc := 1) (i := 2) dX3_bearsIn_1 rfl rfl ?_
  refine m_v1 (pc := 2) dX3_bearsIn_2 lk_X3_90 ok_X9_hasFallen (rcO (ho).1 (by decide) rfl) rfl rfl (c_X9_hasFallen ho hW.2.2.2.2.1 (by omega) (fun h => kt_s ?_) (fun h => kt_s ?_))
  · refine s_ifeq (pc := 5) (tgt := 10) dX3_bearsIn_5 rfl (fun h5 => absurd h5 (by decide)) (fun h5 => ?_)
    refine m_ic (pc := 8) (v := 0) dX3_bearsIn_8 rfl ?_
    refine s_ireturn (pc := 9) dX3_bearsIn_9 rfl rfl ?_
    exact hf I (by unfold brs; rw [h]; rfl) fl_r
  · refine s_ifeq (pc := 5) (tgt := 10) dX3_bearsIn_5 rfl (fun h5 => ?_) (fun h5 => absurd h5 (by decide))
    refine s_aload_n (pc := 10) (i := 0) dX3_bearsIn_10 rfl rfl ?_
    refine s_aload_n (pc := 11) (i := 1) dX3_bearsIn_11 rfl rfl ?_
    refine s_iload_n (pc := 12) (i := 2) dX3_bearsIn_12 rfl rfl ?_
    refine s_iload (pc := 13) (i := 4) dX3_bearsIn_13 rfl ?_
    refine m_v3 (pc := 15) dX3_bearsIn_15 lk_X3_74 ok_X3_tiredIn (rcO o_31 (by decide) rfl) rfl rfl (c_X3_tiredIn ho h17 hW hb hk (kt_s ?_))
    refine s_aload_n (pc := 18) (i := 0) dX3_bearsIn_18 rfl rfl ?_
    refine s_aload_n (pc := 19) (i := 1) dX3_bearsIn_19 rfl rfl ?_
    refine s_iload_n (pc := 20) (i := 2) dX3_bearsIn_20 rfl rfl ?_
    refine s_iload_n (pc := 21) (i := 3) dX3_bearsIn_21 rfl rfl ?_
    refine s_iload (pc := 22) (i := 4) dX3_bearsIn_22 rfl ?_
    refine m_v4 (pc := 24) dX3_bearsIn_24 lk_X3_94 ok_X3_burdenOn (rcO o_31 (by decide) rfl) rfl rfl (c_X3_burdenOn ho h17 hW hb hc hk (fun I1 f1 => kt_s ?_))
    refine s_iadd (pc := 27) dX3_bearsIn_27 ?_
    refine m_nm (v' := nI (tin D S b k + bur D cs S b c k)) (nI_add _ _) ?_
    refine s_istore (pc := 28) (i := 5) dX3_bearsIn_28 (Nat.le_of_ble_eq_true rfl) ?_
    dsimp only [List.set, List.filter]
    refine s_iload (pc := 30) (i := 5) dX3_bearsIn_30 rfl ?_
    refine s_aload_n (pc := 32) (i := 0) dX3_bearsIn_32 rfl rfl ?_
    refine m_gr (pc := 33) dX3_bearsIn_33 ff_X3_9 rfl o_31 r_31_0 ?_
    refine m_gr (pc := 36) dX3_bearsIn_36 ff_X3_97 rfl o_4 r_4_0 ?_
    refine s_iload_n (pc := 39) (i := 2) dX3_bearsIn_39 rfl rfl ?_
    refine m_ia (pc := 40) dX3_bearsIn_40 a_5 (vp_in_nI (by omega) (by decide)) ?_
    refine m_nm (v' := nI (cS D b)) (rdI ((Wc_fl hW h17 f1).1.2.2.2.1 b hb).1 (by omega)) ?_
    refine s_icgt (pc := 41) (tgt := 48) dX3_bearsIn_41 rfl (fun h41 => ?_) (fun h41 => ?_)
    · have e := (nI_ltI (by omega) (by omega)).mp h41
      refine m_ic (pc := 48) (v := 0) dX3_bearsIn_48 rfl ?_
      refine s_ireturn (pc := 49) dX3_bearsIn_49 rfl rfl ?_
      exact hf I1 (by unfold brs; rw [h]; simp; omega) f1
    · have e : ¬ cS D b < tin D S b k + bur D cs S b c k := fun z => h41 ((nI_ltI (by omega) (by omega)).mpr z)
      refine m_ic (pc := 44) (v := 1) dX3_bearsIn_44 rfl ?_
      refine s_goto (pc := 45) (tgt := 49) dX3_bearsIn_45 rfl ?_
      refine s_ireturn (pc := 49) dX3_bearsIn_49 rfl rfl ?_
      exact ht I1 (by unfold brs; rw [h]; simp; omega) f1
theorem c_X3_sit (ho : sO o) (h17 : 17 < o) (hW : Wc I o D cs S) (hb : b < cb D) (hc : c < cc D) (hf : sF S b = true → Q (.inl (some (.int 0))) (Z I J n w)) (ht : ∀ I', sF S b = false → fS o I I' → Sc I' o (sat D cs S b c) → Q (.inl (some (.int 1))) (Z I' J n w)) : Cn g (d + 4) mX3_sit [.ref 31, .ref o, .int (nI b), .int (nI c)] (Z I J n w) Q := by
  have hb7 := hW.2.1.1
  have hc12 := hW.2.1.2.1
  have hT := (hW.2.2.2.2.2.1 b).1
  have hB := bur_le (D := D) (cs := cs) (S := S) (b := b) (c := c) (k := 0) hW.2.1 hc
  have hS9 := (hW.2.1.2.2.2.1 b hb).2.1
  have hC9 := (hW.2.1.2.2.2.1 b hb).2.2
  have hL9 := (hW.2.1.2.2.2.2 c hc).2.2
  show Rn g (d + 4) mX3_sit 0 [.ref 31, .ref o, .int (nI b), .int (nI c)] [] [] (Z I J n w) Q
  refine s_aload_n (pc := 0) (i := 1) dX3_sit_0 rfl rfl ?_
  refine s_iload_n (pc := 1) (i := 2) dX3_sit_1 rfl rfl ?_
  refine m_v1 (pc := 2) dX3_sit_2 lk_X3_90 ok_X9_hasFallen (rcO (ho).1 (by decide) rfl) rfl rfl (c_X9_hasFallen ho hW.2.2.2.2.1 (by omega) (fun h => kt_s ?_) (fun h => kt_s ?_))
  · refine s_ifeq (pc := 5) (tgt := 10) dX3_sit_5 rfl (fun h5 => absurd h5 (by decide)) (fun h5 => ?_)
    refine m_ic (pc := 8) (v := 0) dX3_sit_8 rfl ?_
    refine s_ireturn (pc := 9) dX3_sit_9 rfl rfl ?_
    exact hf h
  · refine s_ifeq (pc := 5) (tgt := 10) dX3_sit_5 rfl (fun h5 => ?_) (fun h5 => absurd h5 (by decide))
    refine s_aload_n (pc := 10) (i := 1) dX3_sit_10 rfl rfl ?_
    refine s_iload_n (pc := 11) (i := 2) dX3_sit_11 rfl rfl ?_
    refine s_iload_n (pc := 12) (i := 3) dX3_sit_12 rfl rfl ?_
    refine s_aload_n (pc := 13) (i := 0) dX3_sit_13 rfl rfl ?_
    refine s_aload_n (pc := 14) (i := 1) dX3_sit_14 rfl rfl ?_
    refine s_iload_n (pc := 15) (i := 2) dX3_sit_15 rfl rfl ?_
    refine s_iload_n (pc := 16) (i := 3) dX3_sit_16 rfl rfl ?_
    refine m_ic (pc := 17) (v := 0) dX3_sit_17 rfl ?_
    refine m_v4 (pc := 18) dX3_sit_18 lk_X3_94 ok_X3_burdenOn (rcO o_31 (by decide) rfl) rfl rfl (c_X3_burdenOn (k := 0) ho h17 hW hb hc (by decide) (fun I1 f1 => kt_s ?_))
    refine m_v3 (pc := 21) dX3_sit_21 lk_X3_100 ok_X9_bear (rcO (ho).1 (by decide) rfl) rfl rfl (c_X9_bear ho (Wc_fl hW h17 f1).2.2.2.2.1 (by omega) (by omega) (fun I2 f2 s2 => kt_v ?_))
    have g2 : fS o I I2 := fS_t (fS_l f1) (fS_o f2)
    have C2 : Co I2 4 D := Co_fr hW.1 (fun x j z1 z2 => g2 x j (by omega) (by omega) (by omega))
    refine s_aload_n (pc := 24) (i := 1) dX3_sit_24 rfl rfl ?_
    refine m_gr (pc := 25) dX3_sit_25 ff_X3_25 rfl (ho).1 (ho.2.1).1 ?_
    refine s_iload_n (pc := 28) (i := 2) dX3_sit_28 rfl rfl ?_
    refine m_ia (pc := 29) dX3_sit_29 (ho.2.1).2 (vp_in_nI (by omega) (by decide)) ?_
    refine m_nm (v' := nI (sT S b + bur D cs S b c 0)) (rdI ((s2.1 b (by omega)).1.trans (congrArg nI fs_s)) (by omega)) ?_
    refine s_aload_n (pc := 30) (i := 0) dX3_sit_30 rfl rfl ?_
    refine m_gr (pc := 31) dX3_sit_31 ff_X3_9 rfl o_31 r_31_0 ?_
    refine m_gr (pc := 34) dX3_sit_34 ff_X3_97 rfl o_4 r_4_0 ?_
    refine s_iload_n (pc := 37) (i := 2) dX3_sit_37 rfl rfl ?_
    refine m_ia (pc := 38) dX3_sit_38 a_5 (vp_in_nI (by omega) (by decide)) ?_
    refine m_nm (v' := nI (cS D b)) (rdI (C2.2.2.2.1 b hb).1 (by omega)) ?_
    refine s_icle (pc := 39) (tgt := 57) dX3_sit_39 rfl (fun h39 => ?_) (fun h39 => ?_)
    · have e : ¬ cS D b < sT S b + bur D cs S b c 0 := Nat.not_lt.mpr ((nI_leI (by omega) (by omega)).mp h39)
      refine s_aload_n (pc := 57) (i := 0) dX3_sit_57 rfl rfl ?_
      refine m_gr (pc := 58) dX3_sit_58 ff_X3_9 rfl o_31 r_31_0 ?_
      refine m_gr (pc := 61) dX3_sit_61 ff_X3_56 rfl o_4 r_4_3 ?_
      refine s_iload_n (pc := 64) (i := 3) dX3_sit_64 rfl rfl ?_
      refine m_ia (pc := 65) dX3_sit_65 a_8 (vp_in_nI (by omega) (by decide)) ?_
      refine m_nm (v' := nI (cL D c)) (rdI (C2.2.2.2.2 c hc).2 (by omega)) ?_
      refine s_aload_n (pc := 66) (i := 0) dX3_sit_66 rfl rfl ?_
      refine m_gr (pc := 67) dX3_sit_67 ff_X3_9 rfl o_31 r_31_0 ?_
      refine m_gr (pc := 70) dX3_sit_70 ff_X3_19 rfl o_4 r_4_1 ?_
      refine s_iload_n (pc := 73) (i := 2) dX3_sit_73 rfl rfl ?_
      refine m_ia (pc := 74) dX3_sit_74 a_6 (vp_in_nI (by omega) (by decide)) ?_
      refine m_nm (v' := nI (cC D b)) (rdI (C2.2.2.2.1 b hb).2 (by omega)) ?_
      refine s_iadd (pc := 75) dX3_sit_75 ?_
      refine m_nm (v' := nI (cL D c + cC D b)) (nI_add _ _) ?_
      refine m_bi (pc := 76) (v := 10) dX3_sit_76 rfl ?_
      refine s_iclt (pc := 78) (tgt := 88) dX3_sit_78 rfl (fun h78 => ?_) (fun h78 => ?_)
      · have e2 : ¬ 10 ≤ cL D c + cC D b := Nat.not_le.mpr ((nI_ltI (by omega) (by decide)).mp h78)
        refine m_ic (pc := 88) (v := 1) dX3_sit_88 rfl ?_
        refine s_ireturn (pc := 89) dX3_sit_89 rfl rfl ?_
        exact ht I2 h g2 (by unfold sat; rw [if_neg e, if_neg e2]; exact s2)
      · have e2 : 10 ≤ cL D c + cC D b := Nat.not_lt.mp (fun z => h78 ((nI_ltI (by omega) (by decide)).mpr z))
        refine s_aload_n (pc := 81) (i := 1) dX3_sit_81 rfl rfl ?_
        refine s_iload_n (pc := 82) (i := 2) dX3_sit_82 rfl rfl ?_
        refine s_iload_n (pc := 83) (i := 3) dX3_sit_83 rfl rfl ?_
        refine m_ic (pc := 84) (v := 0) dX3_sit_84 rfl ?_
        refine m_v3 (pc := 85) dX3_sit_85 lk_X3_106 ok_X9_learn (rcO (ho).1 (by decide) rfl) rfl rfl (c_X9_learn ho s2 (by omega) (by omega) (kt_v ?_))
        refine m_ic (pc := 88) (v := 1) dX3_sit_88 rfl ?_
        refine s_ireturn (pc := 89) dX3_sit_89 rfl rfl ?_
        exact ht _ h (fS_t g2 (fS_o (fun x j z => by rw [up_a (by omega), up_a (by omega)]))) (by unfold sat; rw [if_neg e, if_pos e2]; exact Sc_K (k0 := 0) (by omega) (by omega) s2)
    · have e : cS D b < sT S b + bur D cs S b c 0 := Nat.not_le.mp (fun z => h39 ((nI_leI (by omega) (by omega)).mpr z))
      refine s_aload_n (pc := 42) (i := 1) dX3_sit_42 rfl rfl ?_
      refine s_dup (pc := 43) dX3_sit_43 rfl ?_
      refine m_gi (pc := 44) dX3_sit_44 ff_X3_103 rfl (ho).1 ?_
      refine m_nm (v' := nI (bs (sF S) 7)) (s2.2.2.2.1) ?_
      refine m_ic (pc := 47) (v := 1) dX3_sit_47 rfl ?_
      refine s_iload_n (pc := 48) (i := 2) dX3_sit_48 rfl rfl ?_
      refine s_ishl (pc := 49) dX3_sit_49 ?_
      refine s_ior (pc := 50) dX3_sit_50 ?_
      refine m_nm (v' := nI (bs (bfn (sF S) b true) 7)) (F_on (by omega)) ?_
      refine m_pi (pc := 51) dX3_sit_51 ff_X3_103 rfl rfl (ho).1 ?_
      refine s_goto (pc := 54) (tgt := 88) dX3_sit_54 rfl ?_
      refine m_ic (pc := 88) (v := 1) dX3_sit_88 rfl ?_
      refine s_ireturn (pc := 89) dX3_sit_89 rfl rfl ?_
      exact ht _ h (fS_t g2 (fS_o (fun x j z => by rw [up_a (by omega)]))) (by unfold sat; rw [if_pos e]; exact Sc_F s2)
theorem c_X3_hold (ho : sO o) (h17 : 17 < o) (hW : Wc I o D cs S) (hk : k ≤ 40) (hf : (sH S = k ∨ ck D < k) → Q (.inl (some (.int 0))) (Z I J n w)) (ht : ∀ I', ¬ (sH S = k ∨ ck D < k) → fS o I I' → Sc I' o (zH S k) → Q (.inl (some (.int 1))) (Z I' J n w)) : Cn g (d + 0) mX3_hold [.ref 31, .ref o, .int (nI k)] (Z I J n w) Q := by
  have hH := hW.2.2.2.2.2.2.2.2
  have hK := hW.2.1.2.2.1.2
  show Rn g (d + 0) mX3_hold 0 [.ref 31, .ref o, .int (nI k)] [] [] (Z I J n w) Q
  refine s_aload_n (pc := 0) (i := 1) dX3_hold_0 rfl rfl ?_
  refine m_gi (pc := 1) dX3_hold_1 ff_X3_44 rfl (ho).1 ?_
  refine m_nm (v' := nI (sH S)) (hW.2.2.2.2.1.2.2.2.2.2) ?_
  refine s_iload_n (pc := 4) (i := 2) dX3_hold_4 rfl rfl ?_
  refine s_iceq (pc := 5) (tgt := 19) dX3_hold_5 rfl (fun h5 => ?_) (fun h5 => ?_)
  · have e : sH S = k := (nI_eq (by omega) (by omega)).mp h5
    refine m_ic (pc := 19) (v := 0) dX3_hold_19 rfl ?_
    refine s_ireturn (pc := 20) dX3_hold_20 rfl rfl ?_
    exact hf (Or.inl e)
  · have e : ¬ sH S = k := fun z => h5 (congrArg nI z)
    refine s_iload_n (pc := 8) (i := 2) dX3_hold_8 rfl rfl ?_
    refine s_aload_n (pc := 9) (i := 0) dX3_hold_9 rfl rfl ?_
    refine m_gr (pc := 10) dX3_hold_10 ff_X3_9 rfl o_31 r_31_0 ?_
    refine m_gi (pc := 13) dX3_hold_13 ff_X3_40 rfl o_4 ?_
    refine m_nm (v' := nI (ck D)) (hW.1.2.2.1) ?_
    refine s_icle (pc := 16) (tgt := 21) dX3_hold_16 rfl (fun h16 => ?_) (fun h16 => ?_)
    · have e2 : k ≤ ck D := (nI_leI (by omega) (by omega)).mp h16
      refine s_aload_n (pc := 21) (i := 1) dX3_hold_21 rfl rfl ?_
      refine s_iload_n (pc := 22) (i := 2) dX3_hold_22 rfl rfl ?_
      refine m_pi (pc := 23) dX3_hold_23 ff_X3_44 rfl rfl (ho).1 ?_
      refine m_ic (pc := 26) (v := 1) dX3_hold_26 rfl ?_
      refine s_ireturn (pc := 27) dX3_hold_27 rfl rfl ?_
      exact ht _ (by omega) (fS_o (fun x j z => up_a (by omega))) (Sc_H hW.2.2.2.2.1)
    · have e2 : ck D < k := Nat.not_le.mp (fun z => h16 ((nI_leI (by omega) (by omega)).mpr z))
      refine m_ic (pc := 19) (v := 0) dX3_hold_19 rfl ?_
      refine s_ireturn (pc := 20) dX3_hold_20 rfl rfl ?_
      exact hf (Or.inr e2)
theorem psT_T : ∀ k x, sT (psT D S k) x = if x < k then tin D S x 1 else sT S x
  | 0, x => by rw [if_neg (by omega)]; rfl
  | k + 1, x => by
    have ih := psT_T k x
    by_cases e : x = k
    · subst e; rw [if_pos (by omega)]; exact fs_s
    · rw [show sT (psT D S (k + 1)) x = sT (psT D S k) x from fs_n e, ih]
      by_cases z : x < k
      · rw [if_pos z, if_pos (by omega)]
      · rw [if_neg z, if_neg (by omega)]
theorem psT_o : ∀ k, sF (psT D S k) = sF S ∧ sW (psT D S k) = sW S ∧ sB (psT D S k) = sB S ∧ sK (psT D S k) = sK S ∧ sN (psT D S k) = sN S ∧ sY (psT D S k) = sY S ∧ sH (psT D S k) = sH S
  | 0 => ⟨rfl, rfl, rfl, rfl, rfl, rfl, rfl⟩
  | k + 1 => psT_o k
theorem sOk_ps (h : sOk D S) (k : Nat) : sOk D (psT D S k) := by
  obtain ⟨e1, e2, e3, e4, e5, e6, e7⟩ := psT_o (D := D) (S := S) k
  refine ⟨fun b => ?_, fun b c h1 z => ?_, fun c z => ?_, ?_⟩
  · have h1 := h.1 b
    have h2 := psT_T (D := D) (S := S) k b
    have h3 : tin D S b 1 ≤ sT S b := Nat.sub_le _ _
    rw [e1]
    by_cases z : b < k
    · rw [if_pos z] at h2; rw [h2]; exact ⟨by omega, fun q => by have := h1.2.1 q; omega, fun q => by have := h1.2.2 q; exact ⟨by omega, this.2⟩⟩
    · rw [if_neg z] at h2; rw [h2]; exact h1
  · rw [e4] at z; exact h.2.1 b c h1 z
  · rw [e5]; exact h.2.2.1 c z
  · rw [e7]; exact h.2.2.2
theorem sOk_pss (h : sOk D S) : sOk D (pss D S) := sOk_ps h (cb D)
theorem tin_ps {k : Nat} (hk : k ≤ b) : tin D (psT D S k) b 1 = tin D S b 1 := by unfold tin; rw [psT_T, if_neg (by omega)]
theorem pd_lp (ho : sO o) (h17 : 17 < o) (hW : Wc I o D cs S) (hq : ∀ I', (∀ x j, (x < o ∨ o + 6 < x) → I' x j = I x j) → Sc I' o (pss D S) → Q (.inl none) (Z I' J n w)) : ∀ f i I1, i + f = cb D → (∀ x j, (x < o ∨ o + 6 < x) → I1 x j = I x j) → Sc I1 o (psT D S i) → Rn g (d + 2) mX3_passDay 2 [.ref 31, .ref o, .int (nI i)] [] [] (Z I1 J n w) Q := by
  have hb7 := hW.2.1.1
  intro f
  induction f with
  | zero =>
    intro i I1 hi hF hM
    have e : i = cb D := by omega
    subst e
    have hM2 := Wc_fS hW h17 (fS_o hF) hM (sOk_ps hW.2.2.2.2.2 _)
    refine s_iload_n (pc := 2) (i := 2) dX3_passDay_2 rfl rfl ?_
    refine s_aload_n (pc := 3) (i := 0) dX3_passDay_3 rfl rfl ?_
    refine m_gr (pc := 4) dX3_passDay_4 ff_X3_9 rfl o_31 r_31_0 ?_
    refine m_gi (pc := 7) dX3_passDay_7 ff_X3_113 rfl o_4 ?_
    refine m_nm (v' := nI (cb D)) (hM2.1.1) ?_
    refine s_icge (pc := 10) (tgt := 32) dX3_passDay_10 rfl (fun h10 => ?_) (fun h10 => absurd (nI_le (by omega) (by omega)) h10)
    refine s_aload_n (pc := 32) (i := 1) dX3_passDay_32 rfl rfl ?_
    refine s_dup (pc := 33) dX3_passDay_33 rfl ?_
    refine m_gi (pc := 34) dX3_passDay_34 ff_X3_47 rfl (ho).1 ?_
    refine m_nm (v' := nI (sY S)) ((hM.2.2.2.2.1).trans (congrArg nI ((psT_o (D := D) (S := S) (cb D)).2.2.2.2.2.1))) ?_
    refine m_ic (pc := 37) (v := 1) dX3_passDay_37 rfl ?_
    refine s_iadd (pc := 38) dX3_passDay_38 ?_
    refine m_nm (v' := nI (sY S + 1)) (nI_1 _) ?_
    refine m_pi (pc := 39) dX3_passDay_39 ff_X3_47 rfl rfl (ho).1 ?_
    refine s_return (pc := 42) dX3_passDay_42 rfl ?_
    exact hq _ (fun x j z => by rw [up_a (by omega)]; exact hF x j z) (Sc_Y hM)
  | succ f ih =>
    intro i I1 hi hF hM
    have hM2 := Wc_fS hW h17 (fS_o hF) hM (sOk_ps hW.2.2.2.2.2 _)
    refine s_iload_n (pc := 2) (i := 2) dX3_passDay_2 rfl rfl ?_
    refine s_aload_n (pc := 3) (i := 0) dX3_passDay_3 rfl rfl ?_
    refine m_gr (pc := 4) dX3_passDay_4 ff_X3_9 rfl o_31 r_31_0 ?_
    refine m_gi (pc := 7) dX3_passDay_7 ff_X3_113 rfl o_4 ?_
    refine m_nm (v' := nI (cb D)) (hM2.1.1) ?_
    refine s_icge (pc := 10) (tgt := 32) dX3_passDay_10 rfl (fun h10 => absurd h10 (nI_ge (by omega) (by omega))) (fun h10 => ?_)
    refine s_aload_n (pc := 13) (i := 1) dX3_passDay_13 rfl rfl ?_
    refine m_gr (pc := 14) dX3_passDay_14 ff_X3_25 rfl (ho).1 (ho.2.1).1 ?_
    refine s_iload_n (pc := 17) (i := 2) dX3_passDay_17 rfl rfl ?_
    refine s_aload_n (pc := 18) (i := 0) dX3_passDay_18 rfl rfl ?_
    refine s_aload_n (pc := 19) (i := 1) dX3_passDay_19 rfl rfl ?_
    refine s_iload_n (pc := 20) (i := 2) dX3_passDay_20 rfl rfl ?_
    refine m_ic (pc := 21) (v := 1) dX3_passDay_21 rfl ?_
    refine m_v3 (pc := 22) dX3_passDay_22 lk_X3_74 ok_X3_tiredIn (rcO o_31 (by decide) rfl) rfl rfl (c_X3_tiredIn (k := 1) ho h17 hM2 (by omega) (by decide) (kt_s ?_))
    rw [tin_ps (Nat.le_refl i)]
    refine m_is (pc := 25) dX3_passDay_25 (ho.2.1).2 (vp_in_nI (by omega) (by decide)) ?_
    rw [nI_clamp (by omega)]
    refine m_inc (pc := 26) (v := 1) dX3_passDay_26 rfl rfl ?_
    dsimp only [List.set, List.filter]
    rw [nI_1]
    refine s_goto (pc := 29) (tgt := 2) dX3_passDay_29 rfl ?_
    exact ih (i + 1) _ (by omega) (fun x j z => by rw [up_a (by omega)]; exact hF x j z) (Sc_T hM)
theorem c_X3_passDay (ho : sO o) (h17 : 17 < o) (hW : Wc I o D cs S) (hq : ∀ I', (∀ x j, (x < o ∨ o + 6 < x) → I' x j = I x j) → Sc I' o (pss D S) → Q (.inl none) (Z I' J n w)) : Cn g (d + 2) mX3_passDay [.ref 31, .ref o] (Z I J n w) Q := by
  show Rn g (d + 2) mX3_passDay 0 [.ref 31, .ref o, .retAddr 0] [] [] (Z I J n w) Q
  refine m_ic (pc := 0) (v := 0) dX3_passDay_0 rfl ?_
  refine s_istore_n (pc := 1) (i := 2) dX3_passDay_1 rfl (Nat.le_of_ble_eq_true rfl) ?_
  dsimp only [List.set, List.filter]
  exact pd_lp ho h17 hW hq (cb D) 0 I (by omega) (fun _ _ _ => rfl) hW.2.2.2.2.1
theorem c_X3_dawn (ho : sO o) (h17 : 17 < o) (hW : Wc I o D cs S) (hY : sY S ≤ 1000) (hf : 400 ≤ sY S → Q (.inl (some (.int 0))) (Z I J n w)) (ht : ∀ I', sY S < 400 → (∀ x j, (x < o ∨ o + 6 < x) → I' x j = I x j) → Sc I' o (pss D S) → Q (.inl (some (.int 1))) (Z I' J n w)) : Cn g (d + 3) mX3_dawn [.ref 31, .ref o] (Z I J n w) Q := by
  show Rn g (d + 3) mX3_dawn 0 [.ref 31, .ref o] [] [] (Z I J n w) Q
  refine s_aload_n (pc := 0) (i := 1) dX3_dawn_0 rfl rfl ?_
  refine m_gi (pc := 1) dX3_dawn_1 ff_X3_47 rfl (ho).1 ?_
  refine m_nm (v' := nI (sY S)) (hW.2.2.2.2.1.2.2.2.2.1) ?_
  refine m_si (pc := 4) (v := 400) dX3_dawn_4 rfl ?_
  refine s_iclt (pc := 7) (tgt := 12) dX3_dawn_7 rfl (fun h7 => ?_) (fun h7 => ?_)
  · have e : sY S < 400 := (nI_ltI (by omega) (by decide)).mp h7
    refine s_aload_n (pc := 12) (i := 0) dX3_dawn_12 rfl rfl ?_
    refine s_aload_n (pc := 13) (i := 1) dX3_dawn_13 rfl rfl ?_
    refine m_v1 (pc := 14) dX3_dawn_14 lk_X3_109 ok_X3_passDay (rcO o_31 (by decide) rfl) rfl rfl (c_X3_passDay ho h17 hW (fun I1 f1 s1 => kt_v ?_))
    refine m_ic (pc := 17) (v := 1) dX3_dawn_17 rfl ?_
    refine s_ireturn (pc := 18) dX3_dawn_18 rfl rfl ?_
    exact ht I1 e f1 s1
  · have e : 400 ≤ sY S := Nat.not_lt.mp (fun z => h7 ((nI_ltI (by omega) (by decide)).mpr z))
    refine m_ic (pc := 10) (v := 0) dX3_dawn_10 rfl ?_
    refine s_ireturn (pc := 11) dX3_dawn_11 rfl rfl ?_
    exact hf e
end S
