section S
variable {g : aG} {d : Nat} {I : Nat → Nat → Int32} {J : Nat → Nat → Int64} {n w : Nat} {Q : aO → aS → Prop}
variable {σ : aS} {S : sD} {D : cD} {cs : List Nat} {b c k : Nat}
theorem nI_z (a : Nat) : (0 : Int32) + nI a = nI a := by rw [show (0 : Int32) = nI 0 from rfl, nI_add, Nat.zero_add]
theorem bs_s1 {p : Nat → Bool} {i : Nat} (hi : i < 31) (h : p i = true) : nI (bs p i) ||| (1 : Int32) <<< (nI i &&& 31) = nI (bs p (i + 1)) := by
  rw [sh_1 hi, fa_or]
  refine congrArg nI (Nat.eq_of_testBit_eq (fun j => ?_))
  rw [Nat.testBit_or, bs_tb, bs_tb, Nat.testBit_two_pow]
  by_cases e : i = j
  · subst e; simp [h]
  · by_cases z : j < i
    · simp [e, z, show j < i + 1 by omega]
    · simp [e, z, show ¬ j < i + 1 by omega]
theorem bs_s0 {p : Nat → Bool} {i : Nat} (h : p i = false) : nI (bs p i) ||| 0 = nI (bs p (i + 1)) := by
  rw [show (0 : Int32) = nI 0 from rfl, fa_or, Nat.or_zero]
  show _ = nI (bs p i + if p i = true then 2 ^ i else 0)
  rw [if_neg (by rw [h]; decide)]; rfl
def uL : List Nat := [1000, 1001, 2045, 1002, 2043]
theorem uL_ok : lOk uL := by unfold lOk; decide
theorem ev_uL {f : Nat → Int32} : ev f uL 0 (fun _ => 0) 0 = f 0 - f 1 + f 2 := by simp [ev, uL, uV, opv]
def Lq (I : Nat → Nat → Int32) (cs : List Nat) : Prop := (I 534 26 = 0 ∧ cs = uL) ∨ (0 < cs.length ∧ Lx I cs)
/-- the model's court, law and the row it works on -/
def Wm (I : Nat → Nat → Int32) (D : cD) (cs : List Nat) (S : sD) : Prop := Mo I 17 539 540 D ∧ cOk D ∧ Lq I cs ∧ lOk cs ∧ Sm (I 550) S ∧ sOk D S
theorem Mo_fr {I' : Nat → Nat → Int32} (h : Mo I 17 539 540 D) (hf : ∀ x j, (x = 539 ∨ x = 540 ∨ (x = 534 ∧ 17 ≤ j ∧ j ≤ 19)) → I' x j = I x j) : Mo I' 17 539 540 D := by
  obtain ⟨h1, h2, h3, h4, h5⟩ := h
  refine ⟨?_, ?_, ?_, fun b hb => ?_, fun c hc => ?_⟩
  · rw [hf _ _ (by omega)]; exact h1
  · rw [hf _ _ (by omega)]; exact h2
  · rw [hf _ _ (by omega)]; exact h3
  · rw [hf _ _ (by omega), hf _ _ (by omega)]; exact h4 b hb
  · rw [hf _ _ (by omega), hf _ _ (by omega)]; exact h5 c hc
theorem Lq_fr {I' : Nat → Nat → Int32} (h : Lq I cs) (hf : ∀ x j, (x = 543 ∨ x = 544 ∨ (x = 534 ∧ j = 26)) → I' x j = I x j) : Lq I' cs := by
  rcases h with h | h
  · exact Or.inl ⟨by rw [hf _ _ (by omega)]; exact h.1, h.2⟩
  · exact Or.inr ⟨h.1, by rw [hf _ _ (by omega)]; exact h.2.1, fun i hi => by rw [hf _ _ (by omega), hf _ _ (by omega)]; exact h.2.2 i hi⟩
theorem Wm_fm {I' : Nat → Nat → Int32} (h : Wm I D cs S) (hf : fm I I') : Wm I' D cs S := ⟨Mo_fr h.1 (fun x j _ => hf x j (by omega) (by omega)), h.2.1, Lq_fr h.2.2.1 (fun x j _ => hf x j (by omega) (by omega)), h.2.2.2.1, Sm_fr h.2.2.2.2.1 (fun j _ => hf 550 j (by decide) (by decide)), h.2.2.2.2.2⟩
def fX (I I' : Nat → Nat → Int32) : Prop := ∀ x j, x ≠ 545 → x ≠ 546 → x ≠ 550 → I' x j = I x j
theorem fX_r : fX I I := fun _ _ _ _ _ => rfl
theorem fX_t {I' I'' : Nat → Nat → Int32} (h : fX I I') (h2 : fX I' I'') : fX I I'' := fun x j a b e => (h2 x j a b e).trans (h x j a b e)
theorem fX_m {I' : Nat → Nat → Int32} (h : fm I I') : fX I I' := fun x j a b _ => h x j a b
theorem fX_u {I' : Nat → Nat → Int32} {j : Nat} {v : Int32} (h : fX I I') : fX I (up I' 550 j v) := fun x i a b e => by rw [up_a e]; exact h x i a b e
theorem Wm_fX {I' : Nat → Nat → Int32} {S' : sD} (h : Wm I D cs S) (hf : fX I I') (hS : Sm (I' 550) S') (hk : sOk D S') : Wm I' D cs S' := ⟨Mo_fr h.1 (fun x j _ => hf x j (by omega) (by omega) (by omega)), h.2.1, Lq_fr h.2.2.1 (fun x j _ => hf x j (by omega) (by omega) (by omega)), h.2.2.2.1, hS, hk⟩
theorem c_X12_take (hq : Q (.inl none) (Z (cpI I 549 550 126) J n w)) : Cn g (d + 1) mX12_take [.ref 534] (Z I J n w) Q := by
  show Rn g (d + 1) mX12_take 0 [.ref 534] [] [] (Z I J n w) Q
  refine s_aload_n (pc := 0) (i := 0) dX12_take_0 rfl rfl ?_
  refine s_aload_n (pc := 1) (i := 0) dX12_take_1 rfl rfl ?_
  refine m_gr (pc := 2) dX12_take_2 ff_X12_59 rfl o_534 r_534_36 ?_
  refine s_aload_n (pc := 5) (i := 0) dX12_take_5 rfl rfl ?_
  refine m_gr (pc := 6) dX12_take_6 ff_X12_62 rfl o_534 r_534_37 ?_
  refine m_bi (pc := 9) (v := 126) dX12_take_9 rfl ?_
  refine m_v3 (pc := 11) dX12_take_11 lk_X12_163 ok_X12_copies (rcO o_534 (by decide) rfl) rfl rfl (c_X12_copies (m := 126) rfl a_549 a_550 (by decide) (by decide) (by decide) (by decide) (kt_v ?_))
  refine s_return (pc := 14) dX12_take_14 rfl ?_
  exact hq
theorem c_X12_heardOf (hS : Sm (I 550) S) (hb : b < 7) (hc : c < 12) (hq : Q (.inl (some (.int (ob (sK S b c))))) (Z I J n w)) : Cn g (d + 0) mX12_heardOf [.ref 534, .int (nI b), .int (nI c)] (Z I J n w) Q := by
  show Rn g (d + 0) mX12_heardOf 0 [.ref 534, .int (nI b), .int (nI c)] [] [] (Z I J n w) Q
  refine s_aload_n (pc := 0) (i := 0) dX12_heardOf_0 rfl rfl ?_
  refine m_gr (pc := 1) dX12_heardOf_1 ff_X12_62 rfl o_534 r_534_37 ?_
  refine m_ic (pc := 4) (v := 0) dX12_heardOf_4 rfl ?_
  refine m_bi (pc := 5) (v := 12) dX12_heardOf_5 rfl ?_
  refine s_iload_n (pc := 7) (i := 1) dX12_heardOf_7 rfl rfl ?_
  refine s_imul (pc := 8) dX12_heardOf_8 ?_
  refine m_nm (v' := nI (12 * b)) (pk_mul 12 b) ?_
  refine s_iadd (pc := 9) dX12_heardOf_9 ?_
  refine m_nm (v' := nI (12 * b)) (nI_z _) ?_
  refine s_iload_n (pc := 10) (i := 2) dX12_heardOf_10 rfl rfl ?_
  refine s_iadd (pc := 11) dX12_heardOf_11 ?_
  refine m_nm (v' := nI ((12 * b) + c)) (nI_add (12 * b) c) ?_
  refine m_ia (pc := 12) dX12_heardOf_12 a_550 (vp_in_nI (n := (12 * b) + c) (by omega) (by decide)) ?_
  refine m_nm (v' := ob (sK S b c)) (rdI (j := (12 * b) + c) (hS.2.1 b c hb hc) (by omega)) ?_
  refine s_ireturn (pc := 13) dX12_heardOf_13 rfl rfl ?_
  exact hq
theorem ob_is (h : sOk D S) : ob (sK S b c) = -1 ↔ (sK S b c).isSome = false := by
  cases e : sK S b c with
  | none => simp [ob]
  | some v => simp only [ob, Option.isSome_some]; exact ⟨fun z => absurd z (nI_m1 (by have := (h.2.1 b c v e).1; omega)), fun z => by cases z⟩
theorem kb_lp (hW : Wm I D cs S) (hb : b < cb D) (hq : Q (.inl (some (.int (nI (bs (fun c => (sK S b c).isSome) 12))))) (Z I J n w)) : ∀ f i, i + f = cc D → Rn g (d + 1) mX12_knownBy 4 [.ref 534, .int (nI b), .int (nI (bs (fun c => (sK S b c).isSome) i)), .int (nI i)] [] [] (Z I J n w) Q := by
  intro f
  induction f with
  | zero =>
    intro i hi
    have e : i = cc D := by omega
    subst e
    have hb7 := hW.2.1.1
    have hc12 := hW.2.1.2.1
    refine s_iload_n (pc := 4) (i := 3) dX12_knownBy_4 rfl rfl ?_
    refine s_aload_n (pc := 5) (i := 0) dX12_knownBy_5 rfl rfl ?_
    refine m_gi (pc := 6) dX12_knownBy_6 ff_X12_157 rfl o_534 ?_
    refine m_nm (v' := nI (cc D)) (hW.1.2.1) ?_
    refine s_icge (pc := 9) (tgt := 38) dX12_knownBy_9 rfl (fun h9 => ?_) (fun h9 => absurd (nI_le (a := cc D) (b := (cc D)) (by omega) (by omega)) h9)
    refine s_iload_n (pc := 38) (i := 2) dX12_knownBy_38 rfl rfl ?_
    refine s_ireturn (pc := 39) dX12_knownBy_39 rfl rfl ?_
    rw [bs_up (m := 12) hc12 (fun j h1 h2 => ?_)]
    · exact hq
    · cases e : sK S b j with
      | none => rfl
      | some v => have := hW.2.2.2.2.2.2.1 b j v e; omega
  | succ f ih =>
    intro i hi
    have hb7 := hW.2.1.1
    have hc12 := hW.2.1.2.1
    refine s_iload_n (pc := 4) (i := 3) dX12_knownBy_4 rfl rfl ?_
    refine s_aload_n (pc := 5) (i := 0) dX12_knownBy_5 rfl rfl ?_
    refine m_gi (pc := 6) dX12_knownBy_6 ff_X12_157 rfl o_534 ?_
    refine m_nm (v' := nI (cc D)) (hW.1.2.1) ?_
    refine s_icge (pc := 9) (tgt := 38) dX12_knownBy_9 rfl (fun h9 => absurd h9 (nI_ge (a := i) (b := cc D) (by omega) (by omega))) (fun h9 => ?_)
    refine s_iload_n (pc := 12) (i := 2) dX12_knownBy_12 rfl rfl ?_
    refine s_aload_n (pc := 13) (i := 0) dX12_knownBy_13 rfl rfl ?_
    refine s_iload_n (pc := 14) (i := 1) dX12_knownBy_14 rfl rfl ?_
    refine s_iload_n (pc := 15) (i := 3) dX12_knownBy_15 rfl rfl ?_
    refine m_v2 (pc := 16) dX12_knownBy_16 lk_X12_329 ok_X12_heardOf (rcO o_534 (by decide) rfl) rfl rfl (c_X12_heardOf hW.2.2.2.2.1 (by omega) (by omega) (kt_s ?_))
    refine m_ic (pc := 19) (v := -1) dX12_knownBy_19 rfl ?_
    refine s_iceq (pc := 20) (tgt := 29) dX12_knownBy_20 rfl (fun h20 => ?_) (fun h20 => ?_)
    · have e := (ob_is hW.2.2.2.2.2).mp h20
      refine m_ic (pc := 29) (v := 0) dX12_knownBy_29 rfl ?_
      refine s_ior (pc := 30) dX12_knownBy_30 ?_
      rw [bs_s0 (p := (fun c => (sK S b c).isSome)) e]
      refine s_istore_n (pc := 31) (i := 2) dX12_knownBy_31 rfl (Nat.le_of_ble_eq_true rfl) ?_
      dsimp only [List.set, List.filter]
      refine m_inc (pc := 32) (v := 1) dX12_knownBy_32 rfl rfl ?_
      dsimp only [List.set, List.filter]
      rw [nI_1]
      refine s_goto (pc := 35) (tgt := 4) dX12_knownBy_35 rfl ?_
      exact ih (i + 1)  (by omega)
    · have e : (sK S b i).isSome = true := ts_nf (fun z => h20 ((ob_is hW.2.2.2.2.2).mpr z))
      refine m_ic (pc := 23) (v := 1) dX12_knownBy_23 rfl ?_
      refine s_iload_n (pc := 24) (i := 3) dX12_knownBy_24 rfl rfl ?_
      refine s_ishl (pc := 25) dX12_knownBy_25 ?_
      refine s_goto (pc := 26) (tgt := 30) dX12_knownBy_26 rfl ?_
      refine s_ior (pc := 30) dX12_knownBy_30 ?_
      rw [bs_s1 (p := (fun c => (sK S b c).isSome)) (by omega) e]
      refine s_istore_n (pc := 31) (i := 2) dX12_knownBy_31 rfl (Nat.le_of_ble_eq_true rfl) ?_
      dsimp only [List.set, List.filter]
      refine m_inc (pc := 32) (v := 1) dX12_knownBy_32 rfl rfl ?_
      dsimp only [List.set, List.filter]
      rw [nI_1]
      refine s_goto (pc := 35) (tgt := 4) dX12_knownBy_35 rfl ?_
      exact ih (i + 1)  (by omega)
theorem c_X12_knownBy (hW : Wm I D cs S) (hb : b < cb D) (hq : Q (.inl (some (.int (nI (bs (fun c => (sK S b c).isSome) 12))))) (Z I J n w)) : Cn g (d + 1) mX12_knownBy [.ref 534, .int (nI b)] (Z I J n w) Q := by
  show Rn g (d + 1) mX12_knownBy 0 [.ref 534, .int (nI b), .retAddr 0, .retAddr 0] [] [] (Z I J n w) Q
  refine m_ic (pc := 0) (v := 0) dX12_knownBy_0 rfl ?_
  refine s_istore_n (pc := 1) (i := 2) dX12_knownBy_1 rfl (Nat.le_of_ble_eq_true rfl) ?_
  dsimp only [List.set, List.filter]
  refine m_ic (pc := 2) (v := 0) dX12_knownBy_2 rfl ?_
  refine s_istore_n (pc := 3) (i := 3) dX12_knownBy_3 rfl (Nat.le_of_ble_eq_true rfl) ?_
  dsimp only [List.set, List.filter]
  exact kb_lp hW hb hq (cc D) 0 (by omega)
theorem bc_1 {q : Nat → Bool} {i : Nat} : nI (bc q i) + (if q i = true then 1 else 0) = nI (bc q (i + 1)) := by
  show _ = nI (bc q i + if q i = true then 1 else 0)
  split
  · exact nI_1 _
  · rw [show (0 : Int32) = nI 0 from rfl, nI_add]
theorem on_lp {q : Nat → Bool} (hq : Q (.inl (some (.int (nI (bc q 12))))) (Z I J n w)) : ∀ f i, i + f = 12 → Rn g (d + 0) mX12_ones 4 [.int (nI (bs q 12)), .int (nI (bc q i)), .int (nI i)] [] [] (Z I J n w) Q := by
  intro f
  induction f with
  | zero =>
    intro i hi
    have e : i = 12 := by omega
    subst e
    refine s_iload_n (pc := 4) (i := 2) dX12_ones_4 rfl rfl ?_
    refine m_bi (pc := 5) (v := 12) dX12_ones_5 rfl ?_
    refine s_icge (pc := 7) (tgt := 24) dX12_ones_7 rfl (fun h7 => ?_) (fun h7 => absurd (nI_le (a := 12) (b := 12) (by omega) (by omega)) h7)
    refine s_iload_n (pc := 24) (i := 1) dX12_ones_24 rfl rfl ?_
    refine s_ireturn (pc := 25) dX12_ones_25 rfl rfl ?_
    exact hq
  | succ f ih =>
    intro i hi
    refine s_iload_n (pc := 4) (i := 2) dX12_ones_4 rfl rfl ?_
    refine m_bi (pc := 5) (v := 12) dX12_ones_5 rfl ?_
    refine s_icge (pc := 7) (tgt := 24) dX12_ones_7 rfl (fun h7 => absurd h7 (nI_ge (a := i) (b := 12) (by omega) (by omega))) (fun h7 => ?_)
    refine s_iload_n (pc := 10) (i := 1) dX12_ones_10 rfl rfl ?_
    refine s_iload_n (pc := 11) (i := 0) dX12_ones_11 rfl rfl ?_
    refine s_iload_n (pc := 12) (i := 2) dX12_ones_12 rfl rfl ?_
    refine s_ishr (pc := 13) dX12_ones_13 ?_
    refine m_ic (pc := 14) (v := 1) dX12_ones_14 rfl ?_
    refine s_iand (pc := 15) dX12_ones_15 ?_
    refine m_nm (v' := if q i = true then 1 else 0) (bit_bs (by decide) (by omega)) ?_
    refine s_iadd (pc := 16) dX12_ones_16 ?_
    refine m_nm (v' := nI (bc q (i + 1))) (bc_1) ?_
    refine s_istore_n (pc := 17) (i := 1) dX12_ones_17 rfl (Nat.le_of_ble_eq_true rfl) ?_
    dsimp only [List.set, List.filter]
    refine m_inc (pc := 18) (v := 1) dX12_ones_18 rfl rfl ?_
    dsimp only [List.set, List.filter]
    rw [nI_1]
    refine s_goto (pc := 21) (tgt := 4) dX12_ones_21 rfl ?_
    exact ih (i + 1)  (by omega)
theorem c_X12_ones {q : Nat → Bool} (hq : Q (.inl (some (.int (nI (bc q 12))))) (Z I J n w)) : Cn g (d + 0) mX12_ones [.int (nI (bs q 12))] (Z I J n w) Q := by
  show Rn g (d + 0) mX12_ones 0 [.int (nI (bs q 12)), .retAddr 0, .retAddr 0] [] [] (Z I J n w) Q
  refine m_ic (pc := 0) (v := 0) dX12_ones_0 rfl ?_
  refine s_istore_n (pc := 1) (i := 1) dX12_ones_1 rfl (Nat.le_of_ble_eq_true rfl) ?_
  dsimp only [List.set, List.filter]
  refine m_ic (pc := 2) (v := 0) dX12_ones_2 rfl ?_
  refine s_istore_n (pc := 3) (i := 2) dX12_ones_3 rfl (Nat.le_of_ble_eq_true rfl) ?_
  dsimp only [List.set, List.filter]
  exact on_lp hq 12 0 (by omega)
theorem c_X12_valueNow {f : Nat → Int32} (hL : Lx I cs) (hk1 : lOk cs) (hf : ∀ j, j < 9 → I 546 j = f j) (hq : ∀ I', fm I I' → Q (.inl (some (.int (ev f cs 0 (fun _ => 0) 0)))) (Z I' J n w)) : Cn g (d + 1) mX12_valueNow [.ref 534] (Z I J n w) Q := by
  show Rn g (d + 1) mX12_valueNow 0 [.ref 534, .retAddr 0, .retAddr 0, .retAddr 0] [] [] (Z I J n w) Q
  refine m_ic (pc := 0) (v := 0) dX12_valueNow_0 rfl ?_
  refine s_istore_n (pc := 1) (i := 1) dX12_valueNow_1 rfl (Nat.le_of_ble_eq_true rfl) ?_
  dsimp only [List.set, List.filter]
  refine m_ic (pc := 2) (v := 0) dX12_valueNow_2 rfl ?_
  refine s_istore_n (pc := 3) (i := 2) dX12_valueNow_3 rfl (Nat.le_of_ble_eq_true rfl) ?_
  dsimp only [List.set, List.filter]
  exact mv_lp (f := f) hk1.2 cs 0 0 (fun _ => 0) I _ hL.1 (fun j hj => by rw [Nat.zero_add]; exact hL.2 j hj) (by omega) hk1.1 (by omega) (fun j hj => absurd hj (by omega)) hf hq
theorem c_X12_loadNow {f : Nat → Int32} (hL : Lq I cs) (hk1 : lOk cs) (hf : ∀ j, j < 9 → I 546 j = f j) (hq : ∀ I', fm I I' → Q (.inl (some (.int (nI (ldv f cs))))) (Z I' J n w)) : Cn g (d + 2) mX12_loadNow [.ref 534] (Z I J n w) Q := by
  have e1 := (ldv_1 f cs).1
  rcases hL with hL | hL
  · have e2 := hL.2
    subst e2
    rw [ev_uL] at e1
    show Rn g (d + 2) mX12_loadNow 0 [.ref 534, .retAddr 0] [] [] (Z I J n w) Q
    refine s_aload_n (pc := 0) (i := 0) dX12_loadNow_0 rfl rfl ?_
    refine m_gi (pc := 1) dX12_loadNow_1 ff_X12_167 rfl o_534 ?_
    refine m_nm (v' := 0) (hL.1) ?_
    refine s_ifne (pc := 4) (tgt := 30) dX12_loadNow_4 rfl (fun h4 => absurd h4 (by decide)) (fun h4 => ?_)
    refine s_aload_n (pc := 7) (i := 0) dX12_loadNow_7 rfl rfl ?_
    refine m_gr (pc := 8) dX12_loadNow_8 ff_X12_50 rfl o_534 r_534_27 ?_
    refine m_ic (pc := 11) (v := 0) dX12_loadNow_11 rfl ?_
    refine m_ia (pc := 12) dX12_loadNow_12 a_546 (vp_in_nI (n := 0) (by omega) (by decide)) ?_
    refine m_nm (v' := f 0) (rdI (j := 0) (hf 0 (by decide)) (by omega)) ?_
    refine s_aload_n (pc := 13) (i := 0) dX12_loadNow_13 rfl rfl ?_
    refine m_gr (pc := 14) dX12_loadNow_14 ff_X12_50 rfl o_534 r_534_27 ?_
    refine m_ic (pc := 17) (v := 1) dX12_loadNow_17 rfl ?_
    refine m_ia (pc := 18) dX12_loadNow_18 a_546 (vp_in_nI (n := 1) (by omega) (by decide)) ?_
    refine m_nm (v' := f 1) (rdI (j := 1) (hf 1 (by decide)) (by omega)) ?_
    refine s_isub (pc := 19) dX12_loadNow_19 ?_
    refine s_aload_n (pc := 20) (i := 0) dX12_loadNow_20 rfl rfl ?_
    refine m_gr (pc := 21) dX12_loadNow_21 ff_X12_50 rfl o_534 r_534_27 ?_
    refine m_ic (pc := 24) (v := 2) dX12_loadNow_24 rfl ?_
    refine m_ia (pc := 25) dX12_loadNow_25 a_546 (vp_in_nI (n := 2) (by omega) (by decide)) ?_
    refine m_nm (v' := f 2) (rdI (j := 2) (hf 2 (by decide)) (by omega)) ?_
    refine s_iadd (pc := 26) dX12_loadNow_26 ?_
    refine s_goto (pc := 27) (tgt := 34) dX12_loadNow_27 rfl ?_
    refine s_istore_n (pc := 34) (i := 1) dX12_loadNow_34 rfl (Nat.le_of_ble_eq_true rfl) ?_
    dsimp only [List.set, List.filter]
    refine s_iload_n (pc := 35) (i := 1) dX12_loadNow_35 rfl rfl ?_
    refine s_ifge (pc := 36) (tgt := 43) dX12_loadNow_36 rfl (fun h36 => ?_) (fun h36 => ?_)
    · refine s_iload_n (pc := 43) (i := 1) dX12_loadNow_43 rfl rfl ?_
      refine m_bi (pc := 44) (v := 60) dX12_loadNow_44 rfl ?_
      refine s_icle (pc := 46) (tgt := 54) dX12_loadNow_46 rfl (fun h46 => ?_) (fun h46 => ?_)
      · rw [clp_in (Int32.not_lt.mpr h36) h46] at e1
        refine s_iload_n (pc := 54) (i := 1) dX12_loadNow_54 rfl rfl ?_
        refine s_ireturn (pc := 55) dX12_loadNow_55 rfl rfl ?_
        rw [e1]; exact hq I fm_r
      · rw [clp_big (Int32.not_lt.mpr h36) h46] at e1
        refine m_bi (pc := 49) (v := 60) dX12_loadNow_49 rfl ?_
        refine s_goto (pc := 51) (tgt := 55) dX12_loadNow_51 rfl ?_
        refine s_ireturn (pc := 55) dX12_loadNow_55 rfl rfl ?_
        rw [e1]; exact hq I fm_r
    · rw [clp_neg (Int32.not_le.mp h36)] at e1
      refine m_ic (pc := 39) (v := 0) dX12_loadNow_39 rfl ?_
      refine s_goto (pc := 40) (tgt := 55) dX12_loadNow_40 rfl ?_
      refine s_ireturn (pc := 55) dX12_loadNow_55 rfl rfl ?_
      rw [e1]; exact hq I fm_r
  · have hl := hk1.2
    show Rn g (d + 2) mX12_loadNow 0 [.ref 534, .retAddr 0] [] [] (Z I J n w) Q
    refine s_aload_n (pc := 0) (i := 0) dX12_loadNow_0 rfl rfl ?_
    refine m_gi (pc := 1) dX12_loadNow_1 ff_X12_167 rfl o_534 ?_
    refine m_nm (v' := nI cs.length) (hL.2.1) ?_
    refine s_ifne (pc := 4) (tgt := 30) dX12_loadNow_4 rfl (fun h4 => ?_) (fun h4 => absurd h4 (nI_ne0 hL.1 (by omega)))
    refine s_aload_n (pc := 30) (i := 0) dX12_loadNow_30 rfl rfl ?_
    refine m_v0 (pc := 31) dX12_loadNow_31 lk_X12_278 ok_X12_valueNow (rcO o_534 (by decide) rfl) rfl rfl (c_X12_valueNow (f := f) hL.2 hk1 hf (fun I1 f1 => kt_s ?_))
    refine s_istore_n (pc := 34) (i := 1) dX12_loadNow_34 rfl (Nat.le_of_ble_eq_true rfl) ?_
    dsimp only [List.set, List.filter]
    refine s_iload_n (pc := 35) (i := 1) dX12_loadNow_35 rfl rfl ?_
    refine s_ifge (pc := 36) (tgt := 43) dX12_loadNow_36 rfl (fun h36 => ?_) (fun h36 => ?_)
    · refine s_iload_n (pc := 43) (i := 1) dX12_loadNow_43 rfl rfl ?_
      refine m_bi (pc := 44) (v := 60) dX12_loadNow_44 rfl ?_
      refine s_icle (pc := 46) (tgt := 54) dX12_loadNow_46 rfl (fun h46 => ?_) (fun h46 => ?_)
      · rw [clp_in (Int32.not_lt.mpr h36) h46] at e1
        refine s_iload_n (pc := 54) (i := 1) dX12_loadNow_54 rfl rfl ?_
        refine s_ireturn (pc := 55) dX12_loadNow_55 rfl rfl ?_
        rw [e1]; exact hq I1 f1
      · rw [clp_big (Int32.not_lt.mpr h36) h46] at e1
        refine m_bi (pc := 49) (v := 60) dX12_loadNow_49 rfl ?_
        refine s_goto (pc := 51) (tgt := 55) dX12_loadNow_51 rfl ?_
        refine s_ireturn (pc := 55) dX12_loadNow_55 rfl rfl ?_
        rw [e1]; exact hq I1 f1
    · rw [clp_neg (Int32.not_le.mp h36)] at e1
      refine m_ic (pc := 39) (v := 0) dX12_loadNow_39 rfl ?_
      refine s_goto (pc := 40) (tgt := 55) dX12_loadNow_40 rfl ?_
      refine s_ireturn (pc := 55) dX12_loadNow_55 rfl rfl ?_
      rw [e1]; exact hq I1 f1
theorem c_X12_loadOf {a0 a1 a2 a3 a4 a5 a6 a7 a8 : Int32} (hL : Lq I cs) (hk1 : lOk cs) (hq : ∀ I', fm I I' → Q (.inl (some (.int (nI (ldv (fv a0 a1 a2 a3 a4 a5 a6 a7 a8) cs))))) (Z I' J n w)) : Cn g (d + 3) mX12_loadOf [.ref 534, .int a0, .int a1, .int a2, .int a3, .int a4, .int a5, .int a6, .int a7, .int a8] (Z I J n w) Q := by
  show Rn g (d + 3) mX12_loadOf 0 [.ref 534, .int a0, .int a1, .int a2, .int a3, .int a4, .int a5, .int a6, .int a7, .int a8] [] [] (Z I J n w) Q
  refine s_aload_n (pc := 0) (i := 0) dX12_loadOf_0 rfl rfl ?_
  refine m_gr (pc := 1) dX12_loadOf_1 ff_X12_50 rfl o_534 r_534_27 ?_
  refine m_ic (pc := 4) (v := 0) dX12_loadOf_4 rfl ?_
  refine s_iload_n (pc := 5) (i := 1) dX12_loadOf_5 rfl rfl ?_
  refine m_is (pc := 6) dX12_loadOf_6 a_546 (vp_in_nI (n := 0) (by omega) (by decide)) ?_
  rw [show Int32.toNatClampNeg 0 = 0 from rfl]
  refine s_aload_n (pc := 7) (i := 0) dX12_loadOf_7 rfl rfl ?_
  refine m_gr (pc := 8) dX12_loadOf_8 ff_X12_50 rfl o_534 r_534_27 ?_
  refine m_ic (pc := 11) (v := 1) dX12_loadOf_11 rfl ?_
  refine s_iload_n (pc := 12) (i := 2) dX12_loadOf_12 rfl rfl ?_
  refine m_is (pc := 13) dX12_loadOf_13 a_546 (vp_in_nI (n := 1) (by omega) (by decide)) ?_
  rw [show Int32.toNatClampNeg 1 = 1 from rfl]
  refine s_aload_n (pc := 14) (i := 0) dX12_loadOf_14 rfl rfl ?_
  refine m_gr (pc := 15) dX12_loadOf_15 ff_X12_50 rfl o_534 r_534_27 ?_
  refine m_ic (pc := 18) (v := 2) dX12_loadOf_18 rfl ?_
  refine s_iload_n (pc := 19) (i := 3) dX12_loadOf_19 rfl rfl ?_
  refine m_is (pc := 20) dX12_loadOf_20 a_546 (vp_in_nI (n := 2) (by omega) (by decide)) ?_
  rw [show Int32.toNatClampNeg 2 = 2 from rfl]
  refine s_aload_n (pc := 21) (i := 0) dX12_loadOf_21 rfl rfl ?_
  refine m_gr (pc := 22) dX12_loadOf_22 ff_X12_50 rfl o_534 r_534_27 ?_
  refine m_ic (pc := 25) (v := 3) dX12_loadOf_25 rfl ?_
  refine s_iload (pc := 26) (i := 4) dX12_loadOf_26 rfl ?_
  refine m_is (pc := 28) dX12_loadOf_28 a_546 (vp_in_nI (n := 3) (by omega) (by decide)) ?_
  rw [show Int32.toNatClampNeg 3 = 3 from rfl]
  refine s_aload_n (pc := 29) (i := 0) dX12_loadOf_29 rfl rfl ?_
  refine m_gr (pc := 30) dX12_loadOf_30 ff_X12_50 rfl o_534 r_534_27 ?_
  refine m_ic (pc := 33) (v := 4) dX12_loadOf_33 rfl ?_
  refine s_iload (pc := 34) (i := 5) dX12_loadOf_34 rfl ?_
  refine m_is (pc := 36) dX12_loadOf_36 a_546 (vp_in_nI (n := 4) (by omega) (by decide)) ?_
  rw [show Int32.toNatClampNeg 4 = 4 from rfl]
  refine s_aload_n (pc := 37) (i := 0) dX12_loadOf_37 rfl rfl ?_
  refine m_gr (pc := 38) dX12_loadOf_38 ff_X12_50 rfl o_534 r_534_27 ?_
  refine m_ic (pc := 41) (v := 5) dX12_loadOf_41 rfl ?_
  refine s_iload (pc := 42) (i := 6) dX12_loadOf_42 rfl ?_
  refine m_is (pc := 44) dX12_loadOf_44 a_546 (vp_in_nI (n := 5) (by omega) (by decide)) ?_
  rw [show Int32.toNatClampNeg 5 = 5 from rfl]
  refine s_aload_n (pc := 45) (i := 0) dX12_loadOf_45 rfl rfl ?_
  refine m_gr (pc := 46) dX12_loadOf_46 ff_X12_50 rfl o_534 r_534_27 ?_
  refine m_bi (pc := 49) (v := 6) dX12_loadOf_49 rfl ?_
  refine s_iload (pc := 51) (i := 7) dX12_loadOf_51 rfl ?_
  refine m_is (pc := 53) dX12_loadOf_53 a_546 (vp_in_nI (n := 6) (by omega) (by decide)) ?_
  rw [show Int32.toNatClampNeg 6 = 6 from rfl]
  refine s_aload_n (pc := 54) (i := 0) dX12_loadOf_54 rfl rfl ?_
  refine m_gr (pc := 55) dX12_loadOf_55 ff_X12_50 rfl o_534 r_534_27 ?_
  refine m_bi (pc := 58) (v := 7) dX12_loadOf_58 rfl ?_
  refine s_iload (pc := 60) (i := 8) dX12_loadOf_60 rfl ?_
  refine m_is (pc := 62) dX12_loadOf_62 a_546 (vp_in_nI (n := 7) (by omega) (by decide)) ?_
  rw [show Int32.toNatClampNeg 7 = 7 from rfl]
  refine s_aload_n (pc := 63) (i := 0) dX12_loadOf_63 rfl rfl ?_
  refine m_gr (pc := 64) dX12_loadOf_64 ff_X12_50 rfl o_534 r_534_27 ?_
  refine m_bi (pc := 67) (v := 8) dX12_loadOf_67 rfl ?_
  refine s_iload (pc := 69) (i := 9) dX12_loadOf_69 rfl ?_
  refine m_is (pc := 71) dX12_loadOf_71 a_546 (vp_in_nI (n := 8) (by omega) (by decide)) ?_
  rw [show Int32.toNatClampNeg 8 = 8 from rfl]
  obtain ⟨I1, e1⟩ : ∃ z, z = up (up (up (up (up (up (up (up (up (I) 546 0 a0) 546 1 a1) 546 2 a2) 546 3 a3) 546 4 a4) 546 5 a5) 546 6 a6) 546 7 a7) 546 8 a8 := ⟨_, rfl⟩
  rw [← e1]
  have f1 : fm I I1 := by subst e1; exact fm_u (fm_u (fm_u (fm_u (fm_u (fm_u (fm_u (fm_u (fm_u (fm_r) (Or.inr rfl)) (Or.inr rfl)) (Or.inr rfl)) (Or.inr rfl)) (Or.inr rfl)) (Or.inr rfl)) (Or.inr rfl)) (Or.inr rfl)) (Or.inr rfl)
  refine s_aload_n (pc := 72) (i := 0) dX12_loadOf_72 rfl rfl ?_
  refine m_v0 (pc := 73) dX12_loadOf_73 lk_X12_332 ok_X12_loadNow (rcO o_534 (by decide) rfl) rfl rfl (c_X12_loadNow (f := fv a0 a1 a2 a3 a4 a5 a6 a7 a8) (Lq_fr hL (fun x j z => f1 x j (by omega) (by omega))) hk1 (fv_eq (r := I1 546) (by subst e1; simp [up]) (by subst e1; simp [up]) (by subst e1; simp [up]) (by subst e1; simp [up]) (by subst e1; simp [up]) (by subst e1; simp [up]) (by subst e1; simp [up]) (by subst e1; simp [up]) (by subst e1; simp [up])) (fun I2 f2 => kt_s ?_))
  refine s_ireturn (pc := 76) dX12_loadOf_76 rfl rfl ?_
  exact hq I2 (fm_t f1 f2)
theorem c_X12_loadBy (hW : Wm I D cs S) (hb : b < cb D) (hc : c < cc D) (hq : ∀ I', fm I I' → Q (.inl (some (.int (nI (lod D cs S b c 0))))) (Z I' J n w)) : Cn g (d + 4) mX12_loadBy [.ref 534, .int (nI b), .int (nI c)] (Z I J n w) Q := by
  have hb7 := hW.2.1.1
  have hc12 := hW.2.1.2.1
  show Rn g (d + 4) mX12_loadBy 0 [.ref 534, .int (nI b), .int (nI c)] [] [] (Z I J n w) Q
  refine s_aload_n (pc := 0) (i := 0) dX12_loadBy_0 rfl rfl ?_
  refine s_aload_n (pc := 1) (i := 0) dX12_loadBy_1 rfl rfl ?_
  refine m_gi (pc := 2) dX12_loadBy_2 ff_X12_160 rfl o_534 ?_
  refine m_nm (v' := nI (ck D)) (hW.1.2.2.1) ?_
  refine s_aload_n (pc := 5) (i := 0) dX12_loadBy_5 rfl rfl ?_
  refine m_gr (pc := 6) dX12_loadBy_6 ff_X12_62 rfl o_534 r_534_37 ?_
  refine m_bi (pc := 9) (v := 124) dX12_loadBy_9 rfl ?_
  refine m_ia (pc := 11) dX12_loadBy_11 a_550 (vp_in_nI (n := 124) (by omega) (by decide)) ?_
  refine m_nm (v' := nI (sH S)) (rdI (j := 124) (hW.2.2.2.2.1.2.2.2.1) (by omega)) ?_
  refine s_aload_n (pc := 12) (i := 0) dX12_loadBy_12 rfl rfl ?_
  refine m_gr (pc := 13) dX12_loadBy_13 ff_X12_32 rfl o_534 r_534_13 ?_
  refine m_ic (pc := 16) (v := 2) dX12_loadBy_16 rfl ?_
  refine s_iload_n (pc := 17) (i := 2) dX12_loadBy_17 rfl rfl ?_
  refine s_imul (pc := 18) dX12_loadBy_18 ?_
  refine m_nm (v' := nI (2 * c)) (pk_mul 2 c) ?_
  refine m_ic (pc := 19) (v := 1) dX12_loadBy_19 rfl ?_
  refine s_iadd (pc := 20) dX12_loadBy_20 ?_
  refine m_nm (v' := nI ((2 * c) + 1)) (nI_add (2 * c) 1) ?_
  refine m_ia (pc := 21) dX12_loadBy_21 a_540 (vp_in_nI (n := (2 * c) + 1) (by omega) (by decide)) ?_
  refine m_nm (v' := nI (cL D c)) (rdI (j := (2 * c) + 1) ((hW.1.2.2.2.2 c hc).2) (by omega)) ?_
  refine s_aload_n (pc := 22) (i := 0) dX12_loadBy_22 rfl rfl ?_
  refine m_gr (pc := 23) dX12_loadBy_23 ff_X12_32 rfl o_534 r_534_13 ?_
  refine m_ic (pc := 26) (v := 2) dX12_loadBy_26 rfl ?_
  refine s_iload_n (pc := 27) (i := 2) dX12_loadBy_27 rfl rfl ?_
  refine s_imul (pc := 28) dX12_loadBy_28 ?_
  refine m_nm (v' := nI (2 * c)) (pk_mul 2 c) ?_
  refine m_ia (pc := 29) dX12_loadBy_29 a_540 (vp_in_nI (n := 2 * c) (by omega) (by decide)) ?_
  refine m_nm (v' := nI (cH D c)) (rdI (j := 2 * c) ((hW.1.2.2.2.2 c hc).1) (by omega)) ?_
  refine s_aload_n (pc := 30) (i := 0) dX12_loadBy_30 rfl rfl ?_
  refine m_gr (pc := 31) dX12_loadBy_31 ff_X12_29 rfl o_534 r_534_12 ?_
  refine m_ic (pc := 34) (v := 2) dX12_loadBy_34 rfl ?_
  refine s_iload_n (pc := 35) (i := 1) dX12_loadBy_35 rfl rfl ?_
  refine s_imul (pc := 36) dX12_loadBy_36 ?_
  refine m_nm (v' := nI (2 * b)) (pk_mul 2 b) ?_
  refine m_ic (pc := 37) (v := 1) dX12_loadBy_37 rfl ?_
  refine s_iadd (pc := 38) dX12_loadBy_38 ?_
  refine m_nm (v' := nI ((2 * b) + 1)) (nI_add (2 * b) 1) ?_
  refine m_ia (pc := 39) dX12_loadBy_39 a_539 (vp_in_nI (n := (2 * b) + 1) (by omega) (by decide)) ?_
  refine m_nm (v' := nI (cC D b)) (rdI (j := (2 * b) + 1) ((hW.1.2.2.2.1 b hb).2) (by omega)) ?_
  refine s_aload_n (pc := 40) (i := 0) dX12_loadBy_40 rfl rfl ?_
  refine m_gr (pc := 41) dX12_loadBy_41 ff_X12_62 rfl o_534 r_534_37 ?_
  refine m_bi (pc := 44) (v := 84) dX12_loadBy_44 rfl ?_
  refine s_iload_n (pc := 46) (i := 1) dX12_loadBy_46 rfl rfl ?_
  refine s_iadd (pc := 47) dX12_loadBy_47 ?_
  refine m_nm (v' := nI (84 + b)) (nI_add 84 b) ?_
  refine m_ia (pc := 48) dX12_loadBy_48 a_550 (vp_in_nI (n := 84 + b) (by omega) (by decide)) ?_
  refine m_nm (v' := nI (sT S b)) (rdI (j := 84 + b) ((hW.2.2.2.2.1.1 b (by omega)).1) (by omega)) ?_
  refine s_aload_n (pc := 49) (i := 0) dX12_loadBy_49 rfl rfl ?_
  refine s_iload_n (pc := 50) (i := 1) dX12_loadBy_50 rfl rfl ?_
  refine m_v1 (pc := 51) dX12_loadBy_51 lk_X12_335 ok_X12_knownBy (rcO o_534 (by decide) rfl) rfl rfl (c_X12_knownBy hW hb (kt_s ?_))
  refine m_s1 (pc := 54) dX12_loadBy_54 lk_X12_338 ok_X12_ones rfl rfl (c_X12_ones (kt_s ?_))
  refine s_aload_n (pc := 57) (i := 0) dX12_loadBy_57 rfl rfl ?_
  refine m_gr (pc := 58) dX12_loadBy_58 ff_X12_62 rfl o_534 r_534_37 ?_
  refine m_bi (pc := 61) (v := 125) dX12_loadBy_61 rfl ?_
  refine m_ia (pc := 63) dX12_loadBy_63 a_550 (vp_in_nI (n := 125) (by omega) (by decide)) ?_
  refine m_nm (v' := nI (sY S)) (rdI (j := 125) (hW.2.2.2.2.1.2.2.2.2) (by omega)) ?_
  refine s_iload_n (pc := 64) (i := 1) dX12_loadBy_64 rfl rfl ?_
  refine m_v9 (pc := 65) dX12_loadBy_65 lk_X12_341 ok_X12_loadOf (rcO o_534 (by decide) rfl) rfl rfl (c_X12_loadOf hW.2.2.1 hW.2.2.2.1 (fun I1 f1 => kt_s ?_))
  refine s_ireturn (pc := 68) dX12_loadBy_68 rfl rfl ?_
  have e : lod D cs S b c 0 = ldv (fv (nI (ck D)) (nI (sH S)) (nI (cL D c)) (nI (cH D c)) (nI (cC D b)) (nI (sT S b)) (nI (bc (fun c => (sK S b c).isSome) 12)) (nI (sY S)) (nI b)) cs := by unfold lod fct tin kn; rw [Nat.zero_mul, Nat.sub_zero, Nat.add_zero]
  rw [← e]; exact hq I1 f1
theorem c_X12_burdenBy (hW : Wm I D cs S) (hb : b < cb D) (hc : c < cc D) (hq : ∀ I', fm I I' → Q (.inl (some (.int (nI (bur D cs S b c 0))))) (Z I' J n w)) : Cn g (d + 5) mX12_burdenBy [.ref 534, .int (nI b), .int (nI c)] (Z I J n w) Q := by
  have hb7 := hW.2.1.1
  have hc12 := hW.2.1.2.1
  have hl := lod_le (D := D) (cs := cs) (S := S) (b := b) (c := c) (k := 0)
  have hm := Nat.mul_le_mul hl (hW.2.1.2.2.2.2 c hc).2.1
  show Rn g (d + 5) mX12_burdenBy 0 [.ref 534, .int (nI b), .int (nI c)] [] [] (Z I J n w) Q
  refine s_aload_n (pc := 0) (i := 0) dX12_burdenBy_0 rfl rfl ?_
  refine s_iload_n (pc := 1) (i := 1) dX12_burdenBy_1 rfl rfl ?_
  refine s_iload_n (pc := 2) (i := 2) dX12_burdenBy_2 rfl rfl ?_
  refine m_v2 (pc := 3) dX12_burdenBy_3 lk_X12_345 ok_X12_loadBy (rcO o_534 (by decide) rfl) rfl rfl (c_X12_loadBy hW hb hc (fun I1 f1 => kt_s ?_))
  refine s_aload_n (pc := 6) (i := 0) dX12_burdenBy_6 rfl rfl ?_
  refine m_gr (pc := 7) dX12_burdenBy_7 ff_X12_32 rfl o_534 r_534_13 ?_
  refine m_ic (pc := 10) (v := 2) dX12_burdenBy_10 rfl ?_
  refine s_iload_n (pc := 11) (i := 2) dX12_burdenBy_11 rfl rfl ?_
  refine s_imul (pc := 12) dX12_burdenBy_12 ?_
  refine m_nm (v' := nI (2 * c)) (pk_mul 2 c) ?_
  refine m_ia (pc := 13) dX12_burdenBy_13 a_540 (vp_in_nI (n := 2 * c) (by omega) (by decide)) ?_
  refine m_nm (v' := nI (cH D c)) (rdI (j := 2 * c) (((Wm_fm hW f1).1.2.2.2.2 c hc).1) (by omega)) ?_
  refine s_imul (pc := 14) dX12_burdenBy_14 ?_
  refine m_nm (v' := nI ((lod D cs S b c 0) * (cH D c))) (pk_mul (lod D cs S b c 0) (cH D c)) ?_
  refine m_ic (pc := 15) (v := 4) dX12_burdenBy_15 rfl ?_
  refine s_idiv (pc := 16) dX12_burdenBy_16 (by decide) ?_
  refine m_nm (v' := nI (bur D cs S b c 0)) (pk_div (d := 4) (by omega) (by decide) (by decide)) ?_
  refine s_ireturn (pc := 17) dX12_burdenBy_17 rfl rfl ?_
  exact hq I1 f1
end S
