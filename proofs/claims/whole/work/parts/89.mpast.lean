section S
variable {g : aG} {d : Nat} {I : Nat → Nat → Int32} {J : Nat → Nat → Int64} {n w : Nat} {Q : aO → aS → Prop}
variable {σ : aS} {S : sD} {ww mm : Nat}
def unI (I : Nat → Nat → Int32) (q i : Nat) : Nat → Nat → Int32 := fun x j => if x = 549 ∧ j < i then I 551 (q + j) else I x j
theorem un_0 {q : Nat} : unI I q 0 = I := by funext x j; unfold unI; rw [if_neg (by omega)]
theorem un_1 {q i : Nat} : up (unI I q i) 549 i (I 551 (q + i)) = unI I q (i + 1) := by
  funext x j; unfold unI up; dsimp only
  by_cases e : x = 549 ∧ j = i
  · rw [if_pos e, if_pos (by omega), e.2]
  · rw [if_neg e]
    by_cases z : x = 549 ∧ j < i
    · rw [if_pos z, if_pos (by omega)]
    · rw [if_neg z, if_neg (by omega)]
theorem un_o {q i x j : Nat} (h : x ≠ 549) : unI I q i x j = I x j := by unfold unI; rw [if_neg (by omega)]
theorem mun_lp (h31 : I 534 31 = nI ww) (hw : ww < 16) (kk : Rn g (d + 0) mX12_undo 58 [.ref 534, .int (nI 126)] [] [] (Z (unI I (126 * ww) 126) J n w) Q) : ∀ f i, i + f = 126 → Rn g (d + 0) mX12_undo 26 [.ref 534, .int (nI i)] [] [] (Z (unI I (126 * ww) i) J n w) Q := by
  intro f
  induction f with
  | zero =>
    intro i hi
    have e : 126 = i := by omega
    subst e
    refine s_iload_n (pc := 26) (i := 1) dX12_undo_26 rfl rfl ?_
    refine m_bi (pc := 27) (v := 126) dX12_undo_27 rfl ?_
    refine s_icge (pc := 29) (tgt := 58) dX12_undo_29 rfl (fun h29 => ?_) (fun h29 => absurd (nI_le (a := 126) (b := 126) (by omega) (by omega)) h29)
    exact kk
  | succ f ih =>
    intro i hi
    refine s_iload_n (pc := 26) (i := 1) dX12_undo_26 rfl rfl ?_
    refine m_bi (pc := 27) (v := 126) dX12_undo_27 rfl ?_
    refine s_icge (pc := 29) (tgt := 58) dX12_undo_29 rfl (fun h29 => absurd h29 (nI_ge (a := i) (b := 126) (by omega) (by omega))) (fun h29 => ?_)
    refine s_aload_n (pc := 32) (i := 0) dX12_undo_32 rfl rfl ?_
    refine m_gr (pc := 33) dX12_undo_33 ff_X12_59 rfl o_534 r_534_36 ?_
    refine s_iload_n (pc := 36) (i := 1) dX12_undo_36 rfl rfl ?_
    refine s_aload_n (pc := 37) (i := 0) dX12_undo_37 rfl rfl ?_
    refine m_gr (pc := 38) dX12_undo_38 ff_X12_65 rfl o_534 r_534_38 ?_
    refine m_bi (pc := 41) (v := 126) dX12_undo_41 rfl ?_
    refine s_aload_n (pc := 43) (i := 0) dX12_undo_43 rfl rfl ?_
    refine m_gi (pc := 44) dX12_undo_44 ff_X12_173 rfl o_534 ?_
    refine m_nm (v' := nI ww) (by rw [un_o (by decide)]; exact h31) ?_
    refine s_imul (pc := 47) dX12_undo_47 ?_
    refine m_nm (v' := nI (126 * ww)) (pk_mul 126 ww) ?_
    refine s_iload_n (pc := 48) (i := 1) dX12_undo_48 rfl rfl ?_
    refine s_iadd (pc := 49) dX12_undo_49 ?_
    refine m_nm (v' := nI ((126 * ww) + i)) (nI_add (126 * ww) i) ?_
    refine m_ia (pc := 50) dX12_undo_50 a_551 (vp_in_nI (n := (126 * ww) + i) (by omega) (by decide)) ?_
    refine m_nm (v' := I 551 (126 * ww + i)) (rdI (j := (126 * ww) + i) (un_o (by decide)) (by omega)) ?_
    refine m_is (pc := 51) dX12_undo_51 a_549 (vp_in_nI (n := i) (by omega) (by decide)) ?_
    rw [nI_clamp (n := i) (by omega), un_1]
    refine m_inc (pc := 52) (v := 1) dX12_undo_52 rfl rfl ?_
    dsimp only [List.set, List.filter]
    rw [nI_1]
    refine s_goto (pc := 55) (tgt := 26) dX12_undo_55 rfl ?_
    exact ih (i + 1) (by omega)
theorem c_X12_undo (h31 : I 534 31 = nI ww) (hw : ww ≤ 16) (h0 : ww = 0 → Q (.inl (some (.int (-1)))) (Z (up I 534 0 0) J n w)) (h1 : ∀ v I', ww = v + 1 → (∀ y j, (y ≠ 534 ∨ (j ≠ 0 ∧ j ≠ 31 ∧ j ≠ 32)) → y ≠ 549 → I' y j = I y j) → I' 534 0 = 0 → I' 534 31 = nI v → I' 534 32 = 0 → (∀ j, j < 126 → I' 549 j = I 551 (126 * v + j)) → Q (.inl (some (.int (nI v)))) (Z I' J n w)) : Cn g (d + 0) mX12_undo [.ref 534] (Z I J n w) Q := by
  show Rn g (d + 0) mX12_undo 0 [.ref 534, .retAddr 0] [] [] (Z I J n w) Q
  refine s_aload_n (pc := 0) (i := 0) dX12_undo_0 rfl rfl ?_
  refine m_ic (pc := 1) (v := 0) dX12_undo_1 rfl ?_
  refine m_pi (pc := 2) dX12_undo_2 ff_X12_3 rfl rfl o_534 ?_
  refine s_aload_n (pc := 5) (i := 0) dX12_undo_5 rfl rfl ?_
  refine m_gi (pc := 6) dX12_undo_6 ff_X12_173 rfl o_534 ?_
  refine m_nm (v' := nI ww) ((up_k (by decide)).trans h31) ?_
  refine s_ifne (pc := 9) (tgt := 14) dX12_undo_9 rfl (fun h9 => ?_) (fun h9 => ?_)
  · have h9 : ¬ ww = 0 := fun z => h9 ((nI_eq (a := ww) (b := 0) (by omega) (by omega)).mpr z)
    obtain ⟨v, ev⟩ : ∃ v, ww = v + 1 := ⟨ww - 1, by omega⟩
    subst ev
    refine s_aload_n (pc := 14) (i := 0) dX12_undo_14 rfl rfl ?_
    refine s_dup (pc := 15) dX12_undo_15 rfl ?_
    refine m_gi (pc := 16) dX12_undo_16 ff_X12_173 rfl o_534 ?_
    refine m_nm (v' := nI (v + 1)) ((up_k (by decide)).trans h31) ?_
    refine m_ic (pc := 19) (v := 1) dX12_undo_19 rfl ?_
    refine s_isub (pc := 20) dX12_undo_20 ?_
    refine m_nm (v' := nI v) (nI_pred v) ?_
    refine m_pi (pc := 21) dX12_undo_21 ff_X12_173 rfl rfl o_534 ?_
    refine m_ic (pc := 24) (v := 0) dX12_undo_24 rfl ?_
    refine s_istore_n (pc := 25) (i := 1) dX12_undo_25 rfl (Nat.le_of_ble_eq_true rfl) ?_
    dsimp only [List.set, List.filter]
    refine Rs_cg (un_0 (q := 126 * v)).symm ?_
    refine mun_lp (ww := v) up_s (by omega) ?_ 126 0 (by omega)
    refine s_aload_n (pc := 58) (i := 0) dX12_undo_58 rfl rfl ?_
    refine m_ic (pc := 59) (v := 0) dX12_undo_59 rfl ?_
    refine m_pi (pc := 60) dX12_undo_60 ff_X12_179 rfl rfl o_534 ?_
    refine s_aload_n (pc := 63) (i := 0) dX12_undo_63 rfl rfl ?_
    refine m_gi (pc := 64) dX12_undo_64 ff_X12_173 rfl o_534 ?_
    refine m_nm (v' := nI v) (by rw [up_k (by decide), un_o (by decide), up_s]) ?_
    refine s_ireturn (pc := 67) dX12_undo_67 rfl rfl ?_
    refine h1 v _ rfl (fun y j z1 z2 => by rw [up_n3 (by omega), un_o z2, up_n3 (by omega), up_n3 (by omega)]) (by rw [up_k (by decide), un_o (by decide), up_k (by decide), up_s]) (by rw [up_k (by decide), un_o (by decide), up_s]) up_s (fun j hj => ?_)
    rw [up_a (by decide)]; unfold unI; rw [if_pos ⟨rfl, hj⟩, up_a (by decide), up_a (by decide)]
  · have h9 : ww = 0 := (nI_eq (a := ww) (b := 0) (by omega) (by omega)).mp h9
    refine m_ic (pc := 12) (v := -1) dX12_undo_12 rfl ?_
    refine s_ireturn (pc := 13) dX12_undo_13 rfl rfl ?_
    exact h0 h9
def imI (I : Nat → Nat → Int32) (x q i : Nat) : Nat → Nat → Int32 := fun y j => if y = 559 ∧ q ≤ j ∧ j < q + i then I x (j - q) else I y j
theorem im_0 {x q : Nat} : imI I x q 0 = I := by funext y j; unfold imI; rw [if_neg (by omega)]
theorem im_1 {x q i : Nat} : up (imI I x q i) 559 (q + i) (I x i) = imI I x q (i + 1) := by
  funext y j; unfold imI up; dsimp only
  by_cases e : y = 559 ∧ j = q + i
  · rw [if_pos e, if_pos (by omega), show j - q = i by omega]
  · rw [if_neg e]
    by_cases z : y = 559 ∧ q ≤ j ∧ j < q + i
    · rw [if_pos z, if_pos (by omega)]
    · rw [if_neg z, if_neg (by omega)]
theorem im_o {x q i y j : Nat} (h : y ≠ 559 ∨ j < q ∨ q + i ≤ j) : imI I x q i y j = I y j := by unfold imI; rw [if_neg (by omega)]
theorem im_in {x q i j : Nat} (h : j < i) : imI I x q i 559 (q + j) = I x j := by unfold imI; rw [if_pos (by omega)]; congr 1; omega
def reI (I : Nat → Nat → Int32) (x q i : Nat) : Nat → Nat → Int32 := fun y j => if y = x ∧ j < i then I 559 (q + j) else I y j
theorem re_0 {x q : Nat} : reI I x q 0 = I := by funext y j; unfold reI; rw [if_neg (by omega)]
theorem re_1 {x q i : Nat} : up (reI I x q i) x i (I 559 (q + i)) = reI I x q (i + 1) := by
  funext y j; unfold reI up; dsimp only
  by_cases e : y = x ∧ j = i
  · rw [if_pos e, if_pos (by omega), e.2]
  · rw [if_neg e]
    by_cases z : y = x ∧ j < i
    · rw [if_pos z, if_pos (by omega)]
    · rw [if_neg z, if_neg (by omega)]
theorem re_o {x q i y j : Nat} (h : y ≠ x) : reI I x q i y j = I y j := by unfold reI; rw [if_neg (by omega)]
theorem re_in {x q i j : Nat} (h : j < i) : reI I x q i x j = I 559 (q + j) := by unfold reI; rw [if_pos ⟨rfl, h⟩]
theorem kr_lp {x q m nx : Nat} (hx : isA 64 nx x) (hmn : m ≤ nx) (hn3 : nx ≤ 3000) (hqm : q + m ≤ 6429) (hne : x ≠ 559) (hq : Q (.inl (some (.int (nI (q + m))))) (Z (imI I x q m) J n w)) : ∀ f i, i + f = m → Rn g (d + 0) mX12_keepsRow 3 [.ref 534, .int (nI q), .ref x, .int (nI m), .int 1, .int (nI i)] [] [] (Z (imI I x q i) J n w) Q := by
  intro f
  induction f with
  | zero =>
    intro i hi
    have e : m = i := by omega
    subst e
    refine s_iload (pc := 3) (i := 5) dX12_keepsRow_3 rfl ?_
    refine s_iload_n (pc := 5) (i := 3) dX12_keepsRow_5 rfl rfl ?_
    refine s_icge (pc := 6) (tgt := 49) dX12_keepsRow_6 rfl (fun h6 => ?_) (fun h6 => absurd (nI_le (a := m) (b := m) (by omega) (by omega)) h6)
    refine s_iload_n (pc := 49) (i := 1) dX12_keepsRow_49 rfl rfl ?_
    refine s_iload_n (pc := 50) (i := 3) dX12_keepsRow_50 rfl rfl ?_
    refine s_iadd (pc := 51) dX12_keepsRow_51 ?_
    refine m_nm (v' := nI (q + m)) (nI_add q m) ?_
    refine s_ireturn (pc := 52) dX12_keepsRow_52 rfl rfl ?_
    exact hq
  | succ f ih =>
    intro i hi
    refine s_iload (pc := 3) (i := 5) dX12_keepsRow_3 rfl ?_
    refine s_iload_n (pc := 5) (i := 3) dX12_keepsRow_5 rfl rfl ?_
    refine s_icge (pc := 6) (tgt := 49) dX12_keepsRow_6 rfl (fun h6 => absurd h6 (nI_ge (a := i) (b := m) (by omega) (by omega))) (fun h6 => ?_)
    refine s_iload (pc := 9) (i := 4) dX12_keepsRow_9 rfl ?_
    refine s_ifeq (pc := 11) (tgt := 30) dX12_keepsRow_11 rfl (fun h11 => absurd h11 (by decide)) (fun h11 => ?_)
    refine s_aload_n (pc := 14) (i := 0) dX12_keepsRow_14 rfl rfl ?_
    refine m_gr (pc := 15) dX12_keepsRow_15 ff_X12_90 rfl o_534 r_534_49 ?_
    refine s_iload_n (pc := 18) (i := 1) dX12_keepsRow_18 rfl rfl ?_
    refine s_iload (pc := 19) (i := 5) dX12_keepsRow_19 rfl ?_
    refine s_iadd (pc := 21) dX12_keepsRow_21 ?_
    refine m_nm (v' := nI (q + i)) (nI_add q i) ?_
    refine s_aload_n (pc := 22) (i := 2) dX12_keepsRow_22 rfl rfl ?_
    refine s_iload (pc := 23) (i := 5) dX12_keepsRow_23 rfl ?_
    refine m_ia (pc := 25) dX12_keepsRow_25 hx (vp_in_nI (n := i) (by omega) (by omega)) ?_
    refine m_nm (v' := I x i) (rdI (j := i) (im_o (by omega)) (by omega)) ?_
    refine m_is (pc := 26) dX12_keepsRow_26 a_559 (vp_in_nI (n := q + i) (by omega) (by decide)) ?_
    rw [nI_clamp (n := q + i) (by omega), im_1]
    refine s_goto (pc := 27) (tgt := 43) dX12_keepsRow_27 rfl ?_
    refine m_inc (pc := 43) (v := 1) dX12_keepsRow_43 rfl rfl ?_
    dsimp only [List.set, List.filter]
    rw [nI_1]
    refine s_goto (pc := 46) (tgt := 3) dX12_keepsRow_46 rfl ?_
    exact ih (i + 1) (by omega)
theorem c_keep1 {x q m nx : Nat} {mi : Int32} (hmi : mi = nI m) (hx : isA 64 nx x) (hmn : m ≤ nx) (hn3 : nx ≤ 3000) (hqm : q + m ≤ 6429) (hne : x ≠ 559) (hq : Q (.inl (some (.int (nI (q + m))))) (Z (imI I x q m) J n w)) : Cn g (d + 0) mX12_keepsRow [.ref 534, .int (nI q), .ref x, .int mi, .int 1] (Z I J n w) Q := by
  subst hmi
  show Rn g (d + 0) mX12_keepsRow 0 [.ref 534, .int (nI q), .ref x, .int (nI m), .int 1, .retAddr 0] [] [] (Z I J n w) Q
  refine m_ic (pc := 0) (v := 0) dX12_keepsRow_0 rfl ?_
  refine s_istore (pc := 1) (i := 5) dX12_keepsRow_1 (Nat.le_of_ble_eq_true rfl) ?_
  dsimp only [List.set, List.filter]
  have h := kr_lp (g := g) (d := d) hx hmn hn3 hqm hne hq m 0 (by omega)
  rw [im_0] at h; exact h
theorem rr_lp {x q m nx : Nat} (hx : isA 64 nx x) (hmn : m ≤ nx) (hn3 : nx ≤ 3000) (hqm : q + m ≤ 6429) (hne : x ≠ 559) (hq : Q (.inl (some (.int (nI (q + m))))) (Z (reI I x q m) J n w)) : ∀ f i, i + f = m → Rn g (d + 0) mX12_keepsRow 3 [.ref 534, .int (nI q), .ref x, .int (nI m), .int 0, .int (nI i)] [] [] (Z (reI I x q i) J n w) Q := by
  intro f
  induction f with
  | zero =>
    intro i hi
    have e : m = i := by omega
    subst e
    refine s_iload (pc := 3) (i := 5) dX12_keepsRow_3 rfl ?_
    refine s_iload_n (pc := 5) (i := 3) dX12_keepsRow_5 rfl rfl ?_
    refine s_icge (pc := 6) (tgt := 49) dX12_keepsRow_6 rfl (fun h6 => ?_) (fun h6 => absurd (nI_le (a := m) (b := m) (by omega) (by omega)) h6)
    refine s_iload_n (pc := 49) (i := 1) dX12_keepsRow_49 rfl rfl ?_
    refine s_iload_n (pc := 50) (i := 3) dX12_keepsRow_50 rfl rfl ?_
    refine s_iadd (pc := 51) dX12_keepsRow_51 ?_
    refine m_nm (v' := nI (q + m)) (nI_add q m) ?_
    refine s_ireturn (pc := 52) dX12_keepsRow_52 rfl rfl ?_
    exact hq
  | succ f ih =>
    intro i hi
    refine s_iload (pc := 3) (i := 5) dX12_keepsRow_3 rfl ?_
    refine s_iload_n (pc := 5) (i := 3) dX12_keepsRow_5 rfl rfl ?_
    refine s_icge (pc := 6) (tgt := 49) dX12_keepsRow_6 rfl (fun h6 => absurd h6 (nI_ge (a := i) (b := m) (by omega) (by omega))) (fun h6 => ?_)
    refine s_iload (pc := 9) (i := 4) dX12_keepsRow_9 rfl ?_
    refine s_ifeq (pc := 11) (tgt := 30) dX12_keepsRow_11 rfl (fun h11 => ?_) (fun h11 => absurd h11 (by decide))
    refine s_aload_n (pc := 30) (i := 2) dX12_keepsRow_30 rfl rfl ?_
    refine s_iload (pc := 31) (i := 5) dX12_keepsRow_31 rfl ?_
    refine s_aload_n (pc := 33) (i := 0) dX12_keepsRow_33 rfl rfl ?_
    refine m_gr (pc := 34) dX12_keepsRow_34 ff_X12_90 rfl o_534 r_534_49 ?_
    refine s_iload_n (pc := 37) (i := 1) dX12_keepsRow_37 rfl rfl ?_
    refine s_iload (pc := 38) (i := 5) dX12_keepsRow_38 rfl ?_
    refine s_iadd (pc := 40) dX12_keepsRow_40 ?_
    refine m_nm (v' := nI (q + i)) (nI_add q i) ?_
    refine m_ia (pc := 41) dX12_keepsRow_41 a_559 (vp_in_nI (n := q + i) (by omega) (by decide)) ?_
    refine m_nm (v' := I 559 (q + i)) (rdI (j := q + i) (re_o (by omega)) (by omega)) ?_
    refine m_is (pc := 42) dX12_keepsRow_42 hx (vp_in_nI (n := i) (by omega) (by omega)) ?_
    rw [nI_clamp (n := i) (by omega), re_1]
    refine m_inc (pc := 43) (v := 1) dX12_keepsRow_43 rfl rfl ?_
    dsimp only [List.set, List.filter]
    rw [nI_1]
    refine s_goto (pc := 46) (tgt := 3) dX12_keepsRow_46 rfl ?_
    exact ih (i + 1) (by omega)
theorem c_keep0 {x q m nx : Nat} {mi : Int32} (hmi : mi = nI m) (hx : isA 64 nx x) (hmn : m ≤ nx) (hn3 : nx ≤ 3000) (hqm : q + m ≤ 6429) (hne : x ≠ 559) (hq : Q (.inl (some (.int (nI (q + m))))) (Z (reI I x q m) J n w)) : Cn g (d + 0) mX12_keepsRow [.ref 534, .int (nI q), .ref x, .int mi, .int 0] (Z I J n w) Q := by
  subst hmi
  show Rn g (d + 0) mX12_keepsRow 0 [.ref 534, .int (nI q), .ref x, .int (nI m), .int 0, .retAddr 0] [] [] (Z I J n w) Q
  refine m_ic (pc := 0) (v := 0) dX12_keepsRow_0 rfl ?_
  refine s_istore (pc := 1) (i := 5) dX12_keepsRow_1 (Nat.le_of_ble_eq_true rfl) ?_
  dsimp only [List.set, List.filter]
  have h := rr_lp (g := g) (d := d) hx hmn hn3 hqm hne hq m 0 (by omega)
  rw [re_0] at h; exact h
theorem c_keepA {v : Nat} (hv : v < 3) (h31 : I 534 31 = nI ww) (hq : ∀ I', (∀ y j, (y ≠ 559 ∨ j < 2143 * v ∨ 2143 * v + 2143 ≤ j) → I' y j = I y j) → (∀ j, j < 126 → I' 559 (2143 * v + j) = I 549 j) → (∀ j, j < 2016 → I' 559 (2143 * v + 126 + j) = I 551 j) → I' 559 (2143 * v + 2142) = nI ww → Q (.inl none) (Z I' J n w)) : Cn g (d + 1) mX12_keepsAll [.ref 534, .int (nI v), .int 1] (Z I J n w) Q := by
  show Rn g (d + 1) mX12_keepsAll 0 [.ref 534, .int (nI v), .int 1, .retAddr 0] [] [] (Z I J n w) Q
  refine s_aload_n (pc := 0) (i := 0) dX12_keepsAll_0 rfl rfl ?_
  refine m_si (pc := 1) (v := 2143) dX12_keepsAll_1 rfl ?_
  refine s_iload_n (pc := 4) (i := 1) dX12_keepsAll_4 rfl rfl ?_
  refine s_imul (pc := 5) dX12_keepsAll_5 ?_
  refine m_nm (v' := nI (2143 * v)) (pk_mul 2143 v) ?_
  refine s_aload_n (pc := 6) (i := 0) dX12_keepsAll_6 rfl rfl ?_
  refine m_gr (pc := 7) dX12_keepsAll_7 ff_X12_59 rfl o_534 r_534_36 ?_
  refine m_bi (pc := 10) (v := 126) dX12_keepsAll_10 rfl ?_
  refine s_iload_n (pc := 12) (i := 2) dX12_keepsAll_12 rfl rfl ?_
  refine m_v4 (pc := 13) dX12_keepsAll_13 lk_X12_462 ok_X12_keepsRow (rcO o_534 (by decide) rfl) rfl rfl (c_keep1 (q := 2143 * v) (m := 126) rfl a_549 (by decide) (by decide) (by omega) (by decide) (kt_s ?_))
  refine s_istore_n (pc := 16) (i := 3) dX12_keepsAll_16 rfl (Nat.le_of_ble_eq_true rfl) ?_
  dsimp only [List.set, List.filter]
  refine s_aload_n (pc := 17) (i := 0) dX12_keepsAll_17 rfl rfl ?_
  refine s_iload_n (pc := 18) (i := 3) dX12_keepsAll_18 rfl rfl ?_
  refine s_aload_n (pc := 19) (i := 0) dX12_keepsAll_19 rfl rfl ?_
  refine m_gr (pc := 20) dX12_keepsAll_20 ff_X12_65 rfl o_534 r_534_38 ?_
  refine m_si (pc := 23) (v := 2016) dX12_keepsAll_23 rfl ?_
  refine s_iload_n (pc := 26) (i := 2) dX12_keepsAll_26 rfl rfl ?_
  refine m_v4 (pc := 27) dX12_keepsAll_27 lk_X12_462 ok_X12_keepsRow (rcO o_534 (by decide) rfl) rfl rfl (c_keep1 (q := 2143 * v + 126) (m := 2016) rfl a_551 (by decide) (by decide) (by omega) (by decide) (kt_s ?_))
  refine s_istore_n (pc := 30) (i := 3) dX12_keepsAll_30 rfl (Nat.le_of_ble_eq_true rfl) ?_
  dsimp only [List.set, List.filter]
  refine s_iload_n (pc := 31) (i := 2) dX12_keepsAll_31 rfl rfl ?_
  refine s_ifeq (pc := 32) (tgt := 48) dX12_keepsAll_32 rfl (fun h32 => absurd h32 (by decide)) (fun h32 => ?_)
  refine s_aload_n (pc := 35) (i := 0) dX12_keepsAll_35 rfl rfl ?_
  refine m_gr (pc := 36) dX12_keepsAll_36 ff_X12_90 rfl o_534 r_534_49 ?_
  refine s_iload_n (pc := 39) (i := 3) dX12_keepsAll_39 rfl rfl ?_
  refine s_aload_n (pc := 40) (i := 0) dX12_keepsAll_40 rfl rfl ?_
  refine m_gi (pc := 41) dX12_keepsAll_41 ff_X12_173 rfl o_534 ?_
  refine m_nm (v' := nI ww) (by rw [im_o (by omega), im_o (by omega)]; exact h31) ?_
  refine m_is (pc := 44) dX12_keepsAll_44 a_559 (vp_in_nI (n := 2143 * v + 126 + 2016) (by omega) (by decide)) ?_
  rw [nI_clamp (n := 2143 * v + 126 + 2016) (by omega)]
  refine s_goto (pc := 45) (tgt := 58) dX12_keepsAll_45 rfl ?_
  refine s_return (pc := 58) dX12_keepsAll_58 rfl ?_
  refine hq _ (fun y j z => by rw [up_n3 (by omega), im_o (by omega), im_o (by omega)]) (fun j hj => ?_) (fun j hj => ?_) (by rw [show 2143 * v + 2142 = 2143 * v + 126 + 2016 by omega]; exact up_s)
  · rw [up_k (by omega), im_o (by omega), im_in hj]
  · rw [up_k (by omega), im_in hj, im_o (by omega)]
theorem c_keepB {v : Nat} (hv : v < 3) (h31 : I 559 (2143 * v + 2142) = nI ww) (hq : ∀ I', (∀ y j, (y ≠ 534 ∨ j ≠ 31) → y ≠ 549 → y ≠ 551 → I' y j = I y j) → (∀ j, j < 126 → I' 549 j = I 559 (2143 * v + j)) → (∀ j, j < 2016 → I' 551 j = I 559 (2143 * v + 126 + j)) → I' 534 31 = nI ww → Q (.inl none) (Z I' J n w)) : Cn g (d + 1) mX12_keepsAll [.ref 534, .int (nI v), .int 0] (Z I J n w) Q := by
  show Rn g (d + 1) mX12_keepsAll 0 [.ref 534, .int (nI v), .int 0, .retAddr 0] [] [] (Z I J n w) Q
  refine s_aload_n (pc := 0) (i := 0) dX12_keepsAll_0 rfl rfl ?_
  refine m_si (pc := 1) (v := 2143) dX12_keepsAll_1 rfl ?_
  refine s_iload_n (pc := 4) (i := 1) dX12_keepsAll_4 rfl rfl ?_
  refine s_imul (pc := 5) dX12_keepsAll_5 ?_
  refine m_nm (v' := nI (2143 * v)) (pk_mul 2143 v) ?_
  refine s_aload_n (pc := 6) (i := 0) dX12_keepsAll_6 rfl rfl ?_
  refine m_gr (pc := 7) dX12_keepsAll_7 ff_X12_59 rfl o_534 r_534_36 ?_
  refine m_bi (pc := 10) (v := 126) dX12_keepsAll_10 rfl ?_
  refine s_iload_n (pc := 12) (i := 2) dX12_keepsAll_12 rfl rfl ?_
  refine m_v4 (pc := 13) dX12_keepsAll_13 lk_X12_462 ok_X12_keepsRow (rcO o_534 (by decide) rfl) rfl rfl (c_keep0 (q := 2143 * v) (m := 126) rfl a_549 (by decide) (by decide) (by omega) (by decide) (kt_s ?_))
  refine s_istore_n (pc := 16) (i := 3) dX12_keepsAll_16 rfl (Nat.le_of_ble_eq_true rfl) ?_
  dsimp only [List.set, List.filter]
  refine s_aload_n (pc := 17) (i := 0) dX12_keepsAll_17 rfl rfl ?_
  refine s_iload_n (pc := 18) (i := 3) dX12_keepsAll_18 rfl rfl ?_
  refine s_aload_n (pc := 19) (i := 0) dX12_keepsAll_19 rfl rfl ?_
  refine m_gr (pc := 20) dX12_keepsAll_20 ff_X12_65 rfl o_534 r_534_38 ?_
  refine m_si (pc := 23) (v := 2016) dX12_keepsAll_23 rfl ?_
  refine s_iload_n (pc := 26) (i := 2) dX12_keepsAll_26 rfl rfl ?_
  refine m_v4 (pc := 27) dX12_keepsAll_27 lk_X12_462 ok_X12_keepsRow (rcO o_534 (by decide) rfl) rfl rfl (c_keep0 (q := 2143 * v + 126) (m := 2016) rfl a_551 (by decide) (by decide) (by omega) (by decide) (kt_s ?_))
  refine s_istore_n (pc := 30) (i := 3) dX12_keepsAll_30 rfl (Nat.le_of_ble_eq_true rfl) ?_
  dsimp only [List.set, List.filter]
  refine s_iload_n (pc := 31) (i := 2) dX12_keepsAll_31 rfl rfl ?_
  refine s_ifeq (pc := 32) (tgt := 48) dX12_keepsAll_32 rfl (fun h32 => ?_) (fun h32 => absurd h32 (by decide))
  refine s_aload_n (pc := 48) (i := 0) dX12_keepsAll_48 rfl rfl ?_
  refine s_aload_n (pc := 49) (i := 0) dX12_keepsAll_49 rfl rfl ?_
  refine m_gr (pc := 50) dX12_keepsAll_50 ff_X12_90 rfl o_534 r_534_49 ?_
  refine s_iload_n (pc := 53) (i := 3) dX12_keepsAll_53 rfl rfl ?_
  refine m_ia (pc := 54) dX12_keepsAll_54 a_559 (vp_in_nI (n := 2143 * v + 126 + 2016) (by omega) (by decide)) ?_
  refine m_nm (v' := nI ww) (rdI (j := 2143 * v + 126 + 2016) (by rw [re_o (by decide), re_o (by decide), show 2143 * v + 126 + 2016 = 2143 * v + 2142 by omega]; exact h31) (by omega)) ?_
  refine m_pi (pc := 55) dX12_keepsAll_55 ff_X12_173 rfl rfl o_534 ?_
  refine s_return (pc := 58) dX12_keepsAll_58 rfl ?_
  refine hq _ (fun y j z1 z2 z3 => by rw [up_n3 z1, re_o z3, re_o z2]) (fun j hj => ?_) (fun j hj => ?_) up_s
  · rw [up_a (by decide), re_o (by decide), re_in hj]
  · rw [up_a (by decide), re_in hj, re_o (by decide)]
theorem c_X12_image (h50 : I 534 50 = nI mm) (hm3 : mm ≤ 3) (h31 : I 534 31 = nI ww) (h0 : mm = 3 → Q (.inl (some (.int (-1)))) (Z (up I 534 0 0) J n w)) (h1 : ∀ I', mm < 3 → (∀ y j, (y ≠ 559 ∨ j < 2143 * mm ∨ 2143 * mm + 2143 ≤ j) → (y ≠ 534 ∨ (j ≠ 0 ∧ j ≠ 50)) → I' y j = I y j) → I' 534 0 = 0 → I' 534 50 = nI (mm + 1) → (∀ j, j < 126 → I' 559 (2143 * mm + j) = I 549 j) → (∀ j, j < 2016 → I' 559 (2143 * mm + 126 + j) = I 551 j) → I' 559 (2143 * mm + 2142) = nI ww → Q (.inl (some (.int (nI (mm + 1))))) (Z I' J n w)) : Cn g (d + 2) mX12_image [.ref 534] (Z I J n w) Q := by
  show Rn g (d + 2) mX12_image 0 [.ref 534] [] [] (Z I J n w) Q
  refine s_aload_n (pc := 0) (i := 0) dX12_image_0 rfl rfl ?_
  refine m_ic (pc := 1) (v := 0) dX12_image_1 rfl ?_
  refine m_pi (pc := 2) dX12_image_2 ff_X12_3 rfl rfl o_534 ?_
  refine s_aload_n (pc := 5) (i := 0) dX12_image_5 rfl rfl ?_
  refine m_gi (pc := 6) dX12_image_6 ff_X12_176 rfl o_534 ?_
  refine m_nm (v' := nI mm) ((up_k (by decide)).trans h50) ?_
  refine m_ic (pc := 9) (v := 3) dX12_image_9 rfl ?_
  refine s_icne (pc := 10) (tgt := 15) dX12_image_10 rfl (fun h10 => ?_) (fun h10 => ?_)
  · have h10 : ¬ mm = 3 := fun z => h10 ((nI_eq (a := mm) (b := 3) (by omega) (by omega)).mpr z)
    refine s_aload_n (pc := 15) (i := 0) dX12_image_15 rfl rfl ?_
    refine s_aload_n (pc := 16) (i := 0) dX12_image_16 rfl rfl ?_
    refine m_gi (pc := 17) dX12_image_17 ff_X12_176 rfl o_534 ?_
    refine m_nm (v' := nI mm) ((up_k (by decide)).trans h50) ?_
    refine m_ic (pc := 20) (v := 1) dX12_image_20 rfl ?_
    refine m_v2 (pc := 21) dX12_image_21 lk_X12_466 ok_X12_keepsAll (rcO o_534 (by decide) rfl) rfl rfl (c_keepA (by omega) ((up_k (by decide)).trans h31) (fun I1 f1 a1 b1 c1 => kt_v ?_))
    refine s_aload_n (pc := 24) (i := 0) dX12_image_24 rfl rfl ?_
    refine s_dup (pc := 25) dX12_image_25 rfl ?_
    refine m_gi (pc := 26) dX12_image_26 ff_X12_176 rfl o_534 ?_
    refine m_nm (v' := nI mm) ((f1 534 50 (by omega)).trans ((up_k (by decide)).trans h50)) ?_
    refine m_ic (pc := 29) (v := 1) dX12_image_29 rfl ?_
    refine s_iadd (pc := 30) dX12_image_30 ?_
    refine m_nm (v' := nI (mm + 1)) (nI_add mm 1) ?_
    refine m_pi (pc := 31) dX12_image_31 ff_X12_176 rfl rfl o_534 ?_
    refine s_aload_n (pc := 34) (i := 0) dX12_image_34 rfl rfl ?_
    refine m_gi (pc := 35) dX12_image_35 ff_X12_176 rfl o_534 ?_
    refine m_nm (v' := nI (mm + 1)) (up_s) ?_
    refine s_ireturn (pc := 38) dX12_image_38 rfl rfl ?_
    exact h1 _ (by omega) (fun y j z1 z2 => by rw [up_n3 (by omega), f1 y j z1, up_n3 (by omega)]) (by rw [up_k (by decide), f1 534 0 (by omega), up_s]) up_s (fun j hj => by rw [up_a (by decide), a1 j hj, up_a (by decide)]) (fun j hj => by rw [up_a (by decide), b1 j hj, up_a (by decide)]) (by rw [up_a (by decide)]; exact c1)
  · have h10 : mm = 3 := (nI_eq (a := mm) (b := 3) (by omega) (by omega)).mp h10
    refine m_ic (pc := 13) (v := -1) dX12_image_13 rfl ?_
    refine s_ireturn (pc := 14) dX12_image_14 rfl rfl ?_
    exact h0 h10
theorem c_X12_restore (h50 : I 534 50 = nI mm) (hm3 : mm ≤ 3) (hwk : ∀ v, v < mm → ∃ ww, ww ≤ 16 ∧ I 559 (2143 * v + 2142) = nI ww) (h0 : mm = 0 → Q (.inl (some (.int (-1)))) (Z (up I 534 0 0) J n w)) (h1 : ∀ v ww I', mm = v + 1 → ww ≤ 16 → I 559 (2143 * v + 2142) = nI ww → (∀ y j, (y ≠ 534 ∨ (j ≠ 0 ∧ j ≠ 31 ∧ j ≠ 32 ∧ j ≠ 50)) → y ≠ 549 → y ≠ 551 → I' y j = I y j) → I' 534 0 = 0 → I' 534 50 = nI v → I' 534 31 = nI ww → I' 534 32 = 0 → (∀ j, j < 126 → I' 549 j = I 559 (2143 * v + j)) → (∀ j, j < 2016 → I' 551 j = I 559 (2143 * v + 126 + j)) → Q (.inl (some (.int (nI v)))) (Z I' J n w)) : Cn g (d + 2) mX12_restore [.ref 534] (Z I J n w) Q := by
  show Rn g (d + 2) mX12_restore 0 [.ref 534] [] [] (Z I J n w) Q
  refine s_aload_n (pc := 0) (i := 0) dX12_restore_0 rfl rfl ?_
  refine m_ic (pc := 1) (v := 0) dX12_restore_1 rfl ?_
  refine m_pi (pc := 2) dX12_restore_2 ff_X12_3 rfl rfl o_534 ?_
  refine s_aload_n (pc := 5) (i := 0) dX12_restore_5 rfl rfl ?_
  refine m_gi (pc := 6) dX12_restore_6 ff_X12_176 rfl o_534 ?_
  refine m_nm (v' := nI mm) ((up_k (by decide)).trans h50) ?_
  refine s_ifne (pc := 9) (tgt := 14) dX12_restore_9 rfl (fun h9 => ?_) (fun h9 => ?_)
  · have h9 : ¬ mm = 0 := fun z => h9 ((nI_eq (a := mm) (b := 0) (by omega) (by omega)).mpr z)
    obtain ⟨v, ev⟩ : ∃ v, mm = v + 1 := ⟨mm - 1, by omega⟩
    subst ev
    obtain ⟨ww, hw, hw2⟩ := hwk v (by omega)
    refine s_aload_n (pc := 14) (i := 0) dX12_restore_14 rfl rfl ?_
    refine s_dup (pc := 15) dX12_restore_15 rfl ?_
    refine m_gi (pc := 16) dX12_restore_16 ff_X12_176 rfl o_534 ?_
    refine m_nm (v' := nI (v + 1)) ((up_k (by decide)).trans h50) ?_
    refine m_ic (pc := 19) (v := 1) dX12_restore_19 rfl ?_
    refine s_isub (pc := 20) dX12_restore_20 ?_
    refine m_nm (v' := nI v) (nI_pred v) ?_
    refine m_pi (pc := 21) dX12_restore_21 ff_X12_176 rfl rfl o_534 ?_
    refine s_aload_n (pc := 24) (i := 0) dX12_restore_24 rfl rfl ?_
    refine s_aload_n (pc := 25) (i := 0) dX12_restore_25 rfl rfl ?_
    refine m_gi (pc := 26) dX12_restore_26 ff_X12_176 rfl o_534 ?_
    refine m_nm (v' := nI v) (up_s) ?_
    refine m_ic (pc := 29) (v := 0) dX12_restore_29 rfl ?_
    refine m_v2 (pc := 30) dX12_restore_30 lk_X12_466 ok_X12_keepsAll (rcO o_534 (by decide) rfl) rfl rfl (c_keepB (by omega) ((up_a (by decide)).trans ((up_a (by decide)).trans hw2)) (fun I1 f1 a1 b1 c1 => kt_v ?_))
    refine s_aload_n (pc := 33) (i := 0) dX12_restore_33 rfl rfl ?_
    refine m_ic (pc := 34) (v := 0) dX12_restore_34 rfl ?_
    refine m_pi (pc := 35) dX12_restore_35 ff_X12_179 rfl rfl o_534 ?_
    refine s_aload_n (pc := 38) (i := 0) dX12_restore_38 rfl rfl ?_
    refine m_gi (pc := 39) dX12_restore_39 ff_X12_176 rfl o_534 ?_
    refine m_nm (v' := nI v) (by rw [up_k (by decide), f1 534 50 (by omega) (by decide) (by decide), up_s]) ?_
    refine s_ireturn (pc := 42) dX12_restore_42 rfl rfl ?_
    exact h1 v ww _ rfl hw hw2 (fun y j z1 z2 z3 => by rw [up_n3 (by omega), f1 y j (by omega) z2 z3, up_n3 (by omega), up_n3 (by omega)]) (by rw [up_k (by decide), f1 534 0 (by omega) (by decide) (by decide), up_k (by decide), up_s]) (by rw [up_k (by decide), f1 534 50 (by omega) (by decide) (by decide), up_s]) (by rw [up_k (by decide)]; exact c1) up_s (fun j hj => by rw [up_a (by decide), a1 j hj, up_a (by decide), up_a (by decide)]) (fun j hj => by rw [up_a (by decide), b1 j hj, up_a (by decide), up_a (by decide)])
  · have h9 : mm = 0 := (nI_eq (a := mm) (b := 0) (by omega) (by omega)).mp h9
    refine m_ic (pc := 12) (v := -1) dX12_restore_12 rfl ?_
    refine s_ireturn (pc := 13) dX12_restore_13 rfl rfl ?_
    exact h0 h9
theorem c_X11_fault {x : Int32} (h : I 2 7 = x) (hq : Q (.inl (some (.int x))) (Z I J n w)) : Cn g (d + 0) mX11_fault [.ref 1] (Z I J n w) Q := by
  show Rn g (d + 0) mX11_fault 0 [.ref 1] [] [] (Z I J n w) Q
  refine s_aload_n (pc := 0) (i := 0) dX11_fault_0 rfl rfl ?_
  refine m_gr (pc := 1) dX11_fault_1 ff_X11_10 rfl o_1 r_1_0 ?_
  refine m_gi (pc := 4) dX11_fault_4 ff_X11_175 rfl o_2 ?_
  refine m_nm (v' := x) (h) ?_
  refine s_ireturn (pc := 7) dX11_fault_7 rfl rfl ?_
  exact hq
theorem c_X12_fault {x : Int32} (h : I 534 8 = x) (hq : Q (.inl (some (.int x))) (Z (up I 534 0 0) J n w)) : Cn g (d + 0) mX12_fault [.ref 534] (Z I J n w) Q := by
  show Rn g (d + 0) mX12_fault 0 [.ref 534] [] [] (Z I J n w) Q
  refine s_aload_n (pc := 0) (i := 0) dX12_fault_0 rfl rfl ?_
  refine m_ic (pc := 1) (v := 0) dX12_fault_1 rfl ?_
  refine m_pi (pc := 2) dX12_fault_2 ff_X12_3 rfl rfl o_534 ?_
  refine s_aload_n (pc := 5) (i := 0) dX12_fault_5 rfl rfl ?_
  refine m_gi (pc := 6) dX12_fault_6 ff_X12_17 rfl o_534 ?_
  refine m_nm (v' := x) ((up_k (by decide)).trans h) ?_
  refine s_ireturn (pc := 9) dX12_fault_9 rfl rfl ?_
  exact hq
theorem c_X12_thrown {x : Int32} (h : I 534 0 = x) (hq : Q (.inl (some (.int x))) (Z I J n w)) : Cn g (d + 0) mX12_thrown [.ref 534] (Z I J n w) Q := by
  show Rn g (d + 0) mX12_thrown 0 [.ref 534] [] [] (Z I J n w) Q
  refine s_aload_n (pc := 0) (i := 0) dX12_thrown_0 rfl rfl ?_
  refine m_gi (pc := 1) dX12_thrown_1 ff_X12_3 rfl o_534 ?_
  refine m_nm (v' := x) (h) ?_
  refine s_ireturn (pc := 4) dX12_thrown_4 rfl rfl ?_
  exact hq
def vSta (I : Nat → Nat → Int32) (a b i j : Nat) (x : Int32) : Int32 := if x = 0 then I a i else if x = 1 then I b j else -1
theorem look_n {x : Int32} (h0 : ¬ x = 0) (h1 : ¬ x = 1) : ¬ x.toInt = 0 ∧ ¬ x.toInt = 1 := ⟨fun z => h0 ((fa_eq x 0).mpr z), fun z => h1 ((fa_eq x 1).mpr z)⟩
end S
