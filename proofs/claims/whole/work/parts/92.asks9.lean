section S
variable {g : aG} {d : Nat} {I : Nat → Nat → Int32} {J : Nat → Nat → Int64} {n w : Nat} {Q : aO → aS → Prop}
variable {σ : aS} {S : sD} {D : cD} {cs : List Nat} {b c k v : Nat}
/-- how strong a set is -/
def stg (D : cD) (v : Nat) : Nat := sms v (cS D) (cb D)
theorem stg_le (hk : cOk D) : stg D v ≤ 693 := by
  have h1 := sms_le (v := v) (f := cS D) (M := 99) (cb D) (fun i hi => (hk.2.2.2.1 i hi).2.1)
  have h2 := hk.1
  unfold stg; omega
theorem sms_ge {f : Nat → Nat} : ∀ m, v.testBit b = true → b < m → f b ≤ sms v f m
  | 0, _, h => absurd h (Nat.not_lt_zero _)
  | m + 1, h, h2 => by
    rw [sms_1]
    by_cases e : b = m
    · subst e; rw [if_pos h]; omega
    · have := sms_ge (f := f) m h (by omega); omega
theorem sms_w {f : Nat → Nat} {u : Nat} (hu : ∀ j, u.testBit j = (v.testBit j && !decide (j = b))) (hb : v.testBit b = true) : ∀ m, sms u f m + (if b < m then f b else 0) = sms v f m
  | 0 => rfl
  | m + 1 => by
    have ih := sms_w (f := f) hu hb m
    rw [sms_1, sms_1, hu m]
    by_cases e : m = b
    · subst e
      rw [if_neg (by omega)] at ih
      rw [if_pos (show m < m + 1 by omega), if_pos hb, if_neg (by simp)]; omega
    · have e2 : (v.testBit m && !decide (m = b)) = v.testBit m := by simp [e]
      rw [e2]
      by_cases z : b < m
      · rw [if_pos z] at ih; rw [if_pos (show b < m + 1 by omega)]; omega
      · rw [if_neg z] at ih; rw [if_neg (show ¬ b < m + 1 by omega)]; omega
theorem wo_b {s i : Nat} (hs : s < 4096) : ∃ u, u < 4096 ∧ nI s &&& (nI (2 ^ i) ^^^ -1) = nI u ∧ ∀ j, u.testBit j = (s.testBit j && !decide (j = i)) := by
  obtain ⟨u, hu, e⟩ := wb_of32 (nI s &&& (nI (2 ^ i) ^^^ -1))
  have hb : ∀ j, u.testBit j = (s.testBit j && !decide (j = i)) := fun j => by
    by_cases h : j < 32
    · have h1 := congrArg (fun y : Int32 => bt y j) e
      simp only [b_and, b_xor, b_m1 j h, bt_nI, Nat.testBit_two_pow, h, decide_true, Bool.true_and, Bool.xor_true] at h1
      rw [← h1, decide_eq_decide.mpr (eq_comm (a := i) (b := j))]
    · rw [Nat.testBit_lt_two_pow (Nat.lt_of_lt_of_le hu (Nat.pow_le_pow_right (by decide) (by omega))), Nat.testBit_lt_two_pow (Nat.lt_of_lt_of_le hs (Nat.le_trans (by decide) (Nat.pow_le_pow_right (n := 2) (i := 32) (by decide) (by omega))))]; rfl
  refine ⟨u, Nat.lt_pow_two_of_testBit (n := 12) u (fun j hj => ?_), e, hb⟩
  rw [hb j, Nat.testBit_lt_two_pow (Nat.lt_of_lt_of_le hs (Nat.pow_le_pow_right (n := 2) (i := 12) (by decide) (by omega)))]; rfl
theorem bc_nn {q : Nat → Bool} {i : Nat} (h : q i = false) : bc q (i + 1) = bc q i := by rw [bc, h]; rfl
theorem bc_yy {q : Nat → Bool} {i : Nat} (h : q i = true) : bc q (i + 1) = bc q i + 1 := by rw [bc, h]; rfl
theorem bc_up {q : Nat → Bool} {m : Nat} : ∀ f, (∀ i, m ≤ i → i < m + f → q i = false) → bc q (m + f) = bc q m
  | 0, _ => rfl
  | f + 1, h => by rw [← Nat.add_assoc, bc_nn (h (m + f) (by omega) (by omega)), bc_up f (fun i h1 h2 => h i h1 (by omega))]
/-- nobody fallen in it -/
def fre (S : sD) (s : Nat) : Bool := decide (nI s &&& nI (bs (sF S) 7) = 0)
def eac (D : cD) (s q : Nat) : Nat → Bool
  | 0 => true
  | m + 1 => eac D s q m && (!(s.testBit m) || decide (stg D s < q + cS D m))
theorem eac_1 {s q m : Nat} : eac D s q (m + 1) = (eac D s q m && (!(s.testBit m) || decide (stg D s < q + cS D m))) := rfl
theorem eac_f {s q i : Nat} (h1 : s.testBit i = true) (h2 : ¬ stg D s < q + cS D i) : ∀ m, i < m → eac D s q m = false
  | 0, h => absurd h (Nat.not_lt_zero _)
  | m + 1, h => by
    rw [eac_1]
    by_cases e : i = m
    · subst e; rw [h1, decide_eq_false h2]; simp
    · rw [eac_f h1 h2 m (by omega)]; rfl
def qA (D : cD) (S : sD) (q e s : Nat) : Bool := fre S s && (decide (q ≤ stg D s) && (decide (e = 0) || eac D s q (cb D)))
def stn (D : cD) (S : sD) : Nat := bs (fun b => !(sF S b)) (cb D)
theorem fre_b {s : Nat} (h : fre S s = true) {i : Nat} (hi : i < 7) (hs : s.testBit i = true) : sF S i = false := by
  have h1 := congrArg (fun y : Int32 => bt y i) (of_decide_eq_true h)
  simp only [b_and, bt_nI, b_0, bt_bs _ (show 7 ≤ 32 by decide)] at h1
  rw [hs] at h1
  have h32 : i < 32 := by omega
  simpa [hi, h32] using h1
theorem fre_m {s : Nat} (h7 : cb D ≤ 7) (hs : s < 2 ^ cb D) : nI s &&& (nI (stn D S) ^^^ -1) = 0 ↔ fre S s = true := by
  have hz : ∀ i, cb D ≤ i → s.testBit i = false := fun i hi => Nat.testBit_lt_two_pow (Nat.lt_of_lt_of_le hs (Nat.pow_le_pow_right (by decide) hi))
  constructor
  · intro z
    refine decide_eq_true (b_ext (fun i hi => ?_))
    have h1 := congrArg (fun y : Int32 => bt y i) z
    simp only [b_and, b_xor, b_m1 i hi, bt_nI, b_0, stn, bt_bs _ (show cb D ≤ 32 by omega)] at h1
    rw [b_and, b_0, bt_nI, bt_bs _ (by decide)]
    by_cases hc : i < cb D
    · have h7' : i < 7 := by omega
      simp only [hi, hc, h7', decide_true, Bool.true_and, Bool.xor_true, Bool.not_not] at h1 ⊢
      exact h1
    · rw [hz i (by omega)]; simp
  · intro z
    refine b_ext (fun i hi => ?_)
    rw [b_and, b_xor, b_m1 i hi, b_0, bt_nI, stn, bt_bs _ (by omega)]
    cases hs2 : s.testBit i with
    | false => simp
    | true =>
      have hc : i < cb D := Nat.not_le.mp (fun y => by rw [hz i y] at hs2; exact absurd hs2 (by decide))
      rw [fre_b z (by omega) hs2]; simp [hc]
theorem fre_le {s : Nat} (h7 : cb D ≤ 7) (hs : s < 2 ^ cb D) (h : fre S s = true) : s ≤ stn D S := by
  have e : s = s &&& stn D S := Nat.eq_of_testBit_eq (fun i => by
    rw [Nat.testBit_and, stn, bs_tb]
    cases hs2 : s.testBit i with
    | false => rfl
    | true =>
      have hc : i < cb D := Nat.not_le.mp (fun y => by rw [Nat.testBit_lt_two_pow (Nat.lt_of_lt_of_le hs (Nat.pow_le_pow_right (by decide) y))] at hs2; exact absurd hs2 (by decide))
      rw [fre_b h (by omega) hs2]; simp [hc])
  rw [e]; exact Nat.and_le_right
theorem stn_lt : stn D S < 2 ^ cb D := bs_lt _ _
theorem qA_end {q e : Nat} (h7 : cb D ≤ 7) : bc (qA D S q e) (2 ^ cb D) = bc (qA D S q e) (stn D S + 1) := by
  have h1 := stn_lt (D := D) (S := S)
  have h := bc_up (q := qA D S q e) (m := stn D S + 1) (2 ^ cb D - (stn D S + 1)) (fun i z1 z2 => by
    unfold qA
    cases e : fre S i with
    | false => rfl
    | true => have := fre_le (S := S) h7 (show i < 2 ^ cb D by omega) e; omega)
  rw [show stn D S + 1 + (2 ^ cb D - (stn D S + 1)) = 2 ^ cb D by omega] at h; exact h
theorem qA_0 {q e : Nat} (hq : 1 ≤ q) : qA D S q e 0 = false := by
  have h : ∀ m, sms 0 (cS D) m = 0 := fun m => by
    induction m with
    | zero => rfl
    | succ m ih => rw [sms_1, ih]; simp
  unfold qA stg
  rw [h, decide_eq_false (show ¬ q ≤ 0 by omega)]; simp
theorem qA_n1 {q e s : Nat} (h : fre S s = false) : qA D S q e s = false := by unfold qA; rw [h]; rfl
theorem qA_n2 {q e s : Nat} (h : stg D s < q) : qA D S q e s = false := by unfold qA; rw [decide_eq_false (show ¬ q ≤ stg D s by omega)]; simp
theorem qA_y {q e s : Nat} {x : Bool} (h : fre S s = true) (h2 : q ≤ stg D s) (h3 : (decide (e = 0) || eac D s q (cb D)) = x) : qA D S q e s = x := by unfold qA; rw [h, decide_eq_true h2, h3]; simp
def flb : Bool → Int32
  | true => 1
  | false => 0
theorem flb_0 : ∀ {x : Bool}, flb x = 0 → x = false
  | false, _ => rfl
  | true, h => absurd h (by decide)
theorem flb_1 : ∀ {x : Bool}, ¬ flb x = 0 → x = true
  | false, h => absurd rfl h
  | true, _ => rfl
theorem sg_lp (hW : Wc I 33 D cs S) (hv : v < 4096) (hq : Q (.inl (some (.int (nI (stg D v))))) (Z I J n w)) : ∀ f i, i + f = cb D → Rn g (d + 0) mX11_strengthOf 4 [.ref 1, .int (nI v), .int (nI (sms v (cS D) i)), .int (nI i)] [] [] (Z I J n w) Q := by
  intro f
  induction f with
  | zero =>
    intro i hi
    have e : cb D = i := by omega
    subst e
    have hb7 := hW.2.1.1
    have hc12 := hW.2.1.2.1
    refine s_iload_n (pc := 4) (i := 3) dX11_strengthOf_4 rfl rfl ?_
    refine s_aload_n (pc := 5) (i := 0) dX11_strengthOf_5 rfl rfl ?_
    refine m_gr (pc := 6) dX11_strengthOf_6 ff_X11_19 rfl o_1 r_1_1 ?_
    refine m_gi (pc := 9) dX11_strengthOf_9 ff_X11_143 rfl o_4 ?_
    refine m_nm (v' := nI (cb D)) (hW.1.1) ?_
    refine s_icge (pc := 12) (tgt := 39) dX11_strengthOf_12 rfl (fun h12 => ?_) (fun h12 => absurd (nI_le (a := cb D) (b := (cb D)) (by omega) (by omega)) h12)
    refine s_iload_n (pc := 39) (i := 2) dX11_strengthOf_39 rfl rfl ?_
    refine s_ireturn (pc := 40) dX11_strengthOf_40 rfl rfl ?_
    exact hq
  | succ f ih =>
    intro i hi
    have hb7 := hW.2.1.1
    have hc12 := hW.2.1.2.1
    refine s_iload_n (pc := 4) (i := 3) dX11_strengthOf_4 rfl rfl ?_
    refine s_aload_n (pc := 5) (i := 0) dX11_strengthOf_5 rfl rfl ?_
    refine m_gr (pc := 6) dX11_strengthOf_6 ff_X11_19 rfl o_1 r_1_1 ?_
    refine m_gi (pc := 9) dX11_strengthOf_9 ff_X11_143 rfl o_4 ?_
    refine m_nm (v' := nI (cb D)) (hW.1.1) ?_
    refine s_icge (pc := 12) (tgt := 39) dX11_strengthOf_12 rfl (fun h12 => absurd h12 (nI_ge (a := i) (b := cb D) (by omega) (by omega))) (fun h12 => ?_)
    refine s_iload_n (pc := 15) (i := 2) dX11_strengthOf_15 rfl rfl ?_
    refine s_iload_n (pc := 16) (i := 1) dX11_strengthOf_16 rfl rfl ?_
    refine s_iload_n (pc := 17) (i := 3) dX11_strengthOf_17 rfl rfl ?_
    refine s_ishr (pc := 18) dX11_strengthOf_18 ?_
    refine m_ic (pc := 19) (v := 1) dX11_strengthOf_19 rfl ?_
    refine s_iand (pc := 20) dX11_strengthOf_20 ?_
    refine m_nm (v' := if v.testBit i = true then 1 else 0) (tb_1 hv (by omega)) ?_
    refine s_aload_n (pc := 21) (i := 0) dX11_strengthOf_21 rfl rfl ?_
    refine m_gr (pc := 22) dX11_strengthOf_22 ff_X11_19 rfl o_1 r_1_1 ?_
    refine m_gr (pc := 25) dX11_strengthOf_25 ff_X11_217 rfl o_4 r_4_0 ?_
    refine s_iload_n (pc := 28) (i := 3) dX11_strengthOf_28 rfl rfl ?_
    refine m_ia (pc := 29) dX11_strengthOf_29 a_5 (vp_in_nI (n := i) (by omega) (by decide)) ?_
    refine m_nm (v' := nI (cS D i)) (rdI (j := i) ((hW.1.2.2.2.1 i (by omega)).1) (by omega)) ?_
    refine s_imul (pc := 30) dX11_strengthOf_30 ?_
    refine m_nm (v' := nI (if v.testBit i = true then cS D i else 0)) (tb_m) ?_
    refine s_iadd (pc := 31) dX11_strengthOf_31 ?_
    refine m_nm (v' := nI (sms v (cS D) (i + 1))) (nI_add _ _) ?_
    refine s_istore_n (pc := 32) (i := 2) dX11_strengthOf_32 rfl (Nat.le_of_ble_eq_true rfl) ?_
    dsimp only [List.set, List.filter]
    refine m_inc (pc := 33) (v := 1) dX11_strengthOf_33 rfl rfl ?_
    dsimp only [List.set, List.filter]
    rw [nI_1]
    refine s_goto (pc := 36) (tgt := 4) dX11_strengthOf_36 rfl ?_
    exact ih (i + 1)  (by omega)
theorem c_X11_strengthOf (hW : Wc I 33 D cs S) (hv : v < 4096) (hq : Q (.inl (some (.int (nI (stg D v))))) (Z I J n w)) : Cn g (d + 0) mX11_strengthOf [.ref 1, .int (nI v)] (Z I J n w) Q := by
  show Rn g (d + 0) mX11_strengthOf 0 [.ref 1, .int (nI v), .retAddr 0, .retAddr 0] [] [] (Z I J n w) Q
  refine m_ic (pc := 0) (v := 0) dX11_strengthOf_0 rfl ?_
  refine s_istore_n (pc := 1) (i := 2) dX11_strengthOf_1 rfl (Nat.le_of_ble_eq_true rfl) ?_
  dsimp only [List.set, List.filter]
  refine m_ic (pc := 2) (v := 0) dX11_strengthOf_2 rfl ?_
  refine s_istore_n (pc := 3) (i := 3) dX11_strengthOf_3 rfl (Nat.le_of_ble_eq_true rfl) ?_
  dsimp only [List.set, List.filter]
  exact sg_lp hW hv hq (cb D) 0 (by omega)
theorem msg_lp (hW : Wm I D cs S) (hv : v < 4096) (hq : Q (.inl (some (.int (nI (stg D v))))) (Z I J n w)) : ∀ f i, i + f = cb D → Rn g (d + 0) mX12_strengthOf 4 [.ref 534, .int (nI v), .int (nI (sms v (cS D) i)), .int (nI i)] [] [] (Z I J n w) Q := by
  intro f
  induction f with
  | zero =>
    intro i hi
    have e : cb D = i := by omega
    subst e
    have hb7 := hW.2.1.1
    have hc12 := hW.2.1.2.1
    refine s_iload_n (pc := 4) (i := 3) dX12_strengthOf_4 rfl rfl ?_
    refine s_aload_n (pc := 5) (i := 0) dX12_strengthOf_5 rfl rfl ?_
    refine m_gi (pc := 6) dX12_strengthOf_6 ff_X12_154 rfl o_534 ?_
    refine m_nm (v' := nI (cb D)) (hW.1.1) ?_
    refine s_icge (pc := 9) (tgt := 35) dX12_strengthOf_9 rfl (fun h9 => ?_) (fun h9 => absurd (nI_le (a := cb D) (b := (cb D)) (by omega) (by omega)) h9)
    refine s_iload_n (pc := 35) (i := 2) dX12_strengthOf_35 rfl rfl ?_
    refine s_ireturn (pc := 36) dX12_strengthOf_36 rfl rfl ?_
    exact hq
  | succ f ih =>
    intro i hi
    have hb7 := hW.2.1.1
    have hc12 := hW.2.1.2.1
    refine s_iload_n (pc := 4) (i := 3) dX12_strengthOf_4 rfl rfl ?_
    refine s_aload_n (pc := 5) (i := 0) dX12_strengthOf_5 rfl rfl ?_
    refine m_gi (pc := 6) dX12_strengthOf_6 ff_X12_154 rfl o_534 ?_
    refine m_nm (v' := nI (cb D)) (hW.1.1) ?_
    refine s_icge (pc := 9) (tgt := 35) dX12_strengthOf_9 rfl (fun h9 => absurd h9 (nI_ge (a := i) (b := cb D) (by omega) (by omega))) (fun h9 => ?_)
    refine s_iload_n (pc := 12) (i := 2) dX12_strengthOf_12 rfl rfl ?_
    refine s_iload_n (pc := 13) (i := 1) dX12_strengthOf_13 rfl rfl ?_
    refine s_iload_n (pc := 14) (i := 3) dX12_strengthOf_14 rfl rfl ?_
    refine s_ishr (pc := 15) dX12_strengthOf_15 ?_
    refine m_ic (pc := 16) (v := 1) dX12_strengthOf_16 rfl ?_
    refine s_iand (pc := 17) dX12_strengthOf_17 ?_
    refine m_nm (v' := if v.testBit i = true then 1 else 0) (tb_1 hv (by omega)) ?_
    refine s_aload_n (pc := 18) (i := 0) dX12_strengthOf_18 rfl rfl ?_
    refine m_gr (pc := 19) dX12_strengthOf_19 ff_X12_29 rfl o_534 r_534_12 ?_
    refine m_ic (pc := 22) (v := 2) dX12_strengthOf_22 rfl ?_
    refine s_iload_n (pc := 23) (i := 3) dX12_strengthOf_23 rfl rfl ?_
    refine s_imul (pc := 24) dX12_strengthOf_24 ?_
    refine m_nm (v' := nI (2 * i)) (pk_mul 2 i) ?_
    refine m_ia (pc := 25) dX12_strengthOf_25 a_539 (vp_in_nI (n := 2 * i) (by omega) (by decide)) ?_
    refine m_nm (v' := nI (cS D i)) (rdI (j := 2 * i) ((hW.1.2.2.2.1 i (by omega)).1) (by omega)) ?_
    refine s_imul (pc := 26) dX12_strengthOf_26 ?_
    refine m_nm (v' := nI (if v.testBit i = true then cS D i else 0)) (tb_m) ?_
    refine s_iadd (pc := 27) dX12_strengthOf_27 ?_
    refine m_nm (v' := nI (sms v (cS D) (i + 1))) (nI_add _ _) ?_
    refine s_istore_n (pc := 28) (i := 2) dX12_strengthOf_28 rfl (Nat.le_of_ble_eq_true rfl) ?_
    dsimp only [List.set, List.filter]
    refine m_inc (pc := 29) (v := 1) dX12_strengthOf_29 rfl rfl ?_
    dsimp only [List.set, List.filter]
    rw [nI_1]
    refine s_goto (pc := 32) (tgt := 4) dX12_strengthOf_32 rfl ?_
    exact ih (i + 1)  (by omega)
theorem c_X12_strengthOf (hW : Wm I D cs S) (hv : v < 4096) (hq : Q (.inl (some (.int (nI (stg D v))))) (Z I J n w)) : Cn g (d + 0) mX12_strengthOf [.ref 534, .int (nI v)] (Z I J n w) Q := by
  show Rn g (d + 0) mX12_strengthOf 0 [.ref 534, .int (nI v), .retAddr 0, .retAddr 0] [] [] (Z I J n w) Q
  refine m_ic (pc := 0) (v := 0) dX12_strengthOf_0 rfl ?_
  refine s_istore_n (pc := 1) (i := 2) dX12_strengthOf_1 rfl (Nat.le_of_ble_eq_true rfl) ?_
  dsimp only [List.set, List.filter]
  refine m_ic (pc := 2) (v := 0) dX12_strengthOf_2 rfl ?_
  refine s_istore_n (pc := 3) (i := 3) dX12_strengthOf_3 rfl (Nat.le_of_ble_eq_true rfl) ?_
  dsimp only [List.set, List.filter]
  exact msg_lp hW hv hq (cb D) 0 (by omega)
theorem ne_lp {s q : Nat} (hW : Wc I 33 D cs S) (hs : s < 4096) (hq9 : q ≤ 693) (h1 : eac D s q (cb D) = true → Q (.inl (some (.int 1))) (Z I J n w)) (h0 : eac D s q (cb D) = false → Q (.inl (some (.int 0))) (Z I J n w)) : ∀ f i, i + f = cb D → eac D s q i = true → Rn g (d + 1) mX11_needsEach 9 [.ref 1, .int (nI s), .int (nI q), .int (nI (stg D s)), .int (nI i)] [] [] (Z I J n w) Q := by
  intro f
  induction f with
  | zero =>
    intro i hi hM
    have e : cb D = i := by omega
    subst e
    have hb7 := hW.2.1.1
    have hc12 := hW.2.1.2.1
    refine s_iload (pc := 9) (i := 4) dX11_needsEach_9 rfl ?_
    refine s_aload_n (pc := 11) (i := 0) dX11_needsEach_11 rfl rfl ?_
    refine m_gr (pc := 12) dX11_needsEach_12 ff_X11_19 rfl o_1 r_1_1 ?_
    refine m_gi (pc := 15) dX11_needsEach_15 ff_X11_143 rfl o_4 ?_
    refine m_nm (v' := nI (cb D)) (hW.1.1) ?_
    refine s_icge (pc := 18) (tgt := 55) dX11_needsEach_18 rfl (fun h18 => ?_) (fun h18 => absurd (nI_le (a := cb D) (b := (cb D)) (by omega) (by omega)) h18)
    refine m_ic (pc := 55) (v := 1) dX11_needsEach_55 rfl ?_
    refine s_ireturn (pc := 56) dX11_needsEach_56 rfl rfl ?_
    exact h1 hM
  | succ f ih =>
    intro i hi hM
    have hb7 := hW.2.1.1
    have hc12 := hW.2.1.2.1
    have hS := stg_le (v := s) hW.2.1
    refine s_iload (pc := 9) (i := 4) dX11_needsEach_9 rfl ?_
    refine s_aload_n (pc := 11) (i := 0) dX11_needsEach_11 rfl rfl ?_
    refine m_gr (pc := 12) dX11_needsEach_12 ff_X11_19 rfl o_1 r_1_1 ?_
    refine m_gi (pc := 15) dX11_needsEach_15 ff_X11_143 rfl o_4 ?_
    refine m_nm (v' := nI (cb D)) (hW.1.1) ?_
    refine s_icge (pc := 18) (tgt := 55) dX11_needsEach_18 rfl (fun h18 => absurd h18 (nI_ge (a := i) (b := cb D) (by omega) (by omega))) (fun h18 => ?_)
    refine s_iload_n (pc := 21) (i := 1) dX11_needsEach_21 rfl rfl ?_
    refine s_iload (pc := 22) (i := 4) dX11_needsEach_22 rfl ?_
    refine s_ishr (pc := 24) dX11_needsEach_24 ?_
    refine m_ic (pc := 25) (v := 1) dX11_needsEach_25 rfl ?_
    refine s_iand (pc := 26) dX11_needsEach_26 ?_
    refine m_nm (v' := if s.testBit i = true then 1 else 0) (tb_1 hs (by omega)) ?_
    refine m_ic (pc := 27) (v := 1) dX11_needsEach_27 rfl ?_
    refine s_icne (pc := 28) (tgt := 49) dX11_needsEach_28 rfl (fun h28 => ?_) (fun h28 => ?_)
    · have e : s.testBit i = false := ts_nt (fun z => h28 (if_pos z))
      refine m_inc (pc := 49) (v := 1) dX11_needsEach_49 rfl rfl ?_
      dsimp only [List.set, List.filter]
      rw [nI_1]
      refine s_goto (pc := 52) (tgt := 9) dX11_needsEach_52 rfl ?_
      have E : eac D s q (i + 1) = true := by rw [eac_1, hM, e]; rfl
      exact ih (i + 1) (by omega) E
    · have e : s.testBit i = true := ts_nf (fun z => by rw [if_neg (by rw [z]; decide)] at h28; exact absurd h28 (by decide))
      have hge : cS D i ≤ stg D s := sms_ge (f := cS D) (cb D) e (by omega)
      refine s_iload_n (pc := 31) (i := 3) dX11_needsEach_31 rfl rfl ?_
      refine s_aload_n (pc := 32) (i := 0) dX11_needsEach_32 rfl rfl ?_
      refine m_gr (pc := 33) dX11_needsEach_33 ff_X11_19 rfl o_1 r_1_1 ?_
      refine m_gr (pc := 36) dX11_needsEach_36 ff_X11_217 rfl o_4 r_4_0 ?_
      refine s_iload (pc := 39) (i := 4) dX11_needsEach_39 rfl ?_
      refine m_ia (pc := 41) dX11_needsEach_41 a_5 (vp_in_nI (n := i) (by omega) (by decide)) ?_
      refine m_nm (v' := nI (cS D i)) (rdI (j := i) ((hW.1.2.2.2.1 i (by omega)).1) (by omega)) ?_
      refine s_isub (pc := 42) dX11_needsEach_42 ?_
      refine m_nm (v' := nI (stg D s - cS D i)) (pk_sub hge) ?_
      refine s_iload_n (pc := 43) (i := 2) dX11_needsEach_43 rfl rfl ?_
      refine s_iclt (pc := 44) (tgt := 49) dX11_needsEach_44 rfl (fun h44 => ?_) (fun h44 => ?_)
      · have h44 : (stg D s - cS D i) < q := (nI_ltI (a := stg D s - cS D i) (b := q) (by omega) (by omega)).mp h44
        refine m_inc (pc := 49) (v := 1) dX11_needsEach_49 rfl rfl ?_
        dsimp only [List.set, List.filter]
        rw [nI_1]
        refine s_goto (pc := 52) (tgt := 9) dX11_needsEach_52 rfl ?_
        have E : eac D s q (i + 1) = true := by rw [eac_1, hM, e, decide_eq_true (show stg D s < q + cS D i by omega)]; rfl
        exact ih (i + 1) (by omega) E
      · have h44 : ¬ (stg D s - cS D i) < q := fun z => h44 ((nI_ltI (a := stg D s - cS D i) (b := q) (by omega) (by omega)).mpr z)
        refine m_ic (pc := 47) (v := 0) dX11_needsEach_47 rfl ?_
        refine s_ireturn (pc := 48) dX11_needsEach_48 rfl rfl ?_
        exact h0 (eac_f e (by omega) (cb D) (by omega))
theorem c_X11_needsEach {s q : Nat} (hW : Wc I 33 D cs S) (hs : s < 4096) (hq9 : q ≤ 693) (h1 : eac D s q (cb D) = true → Q (.inl (some (.int 1))) (Z I J n w)) (h0 : eac D s q (cb D) = false → Q (.inl (some (.int 0))) (Z I J n w)) : Cn g (d + 1) mX11_needsEach [.ref 1, .int (nI s), .int (nI q)] (Z I J n w) Q := by
  show Rn g (d + 1) mX11_needsEach 0 [.ref 1, .int (nI s), .int (nI q), .retAddr 0, .retAddr 0] [] [] (Z I J n w) Q
  refine s_aload_n (pc := 0) (i := 0) dX11_needsEach_0 rfl rfl ?_
  refine s_iload_n (pc := 1) (i := 1) dX11_needsEach_1 rfl rfl ?_
  refine m_v1 (pc := 2) dX11_needsEach_2 lk_X11_343 ok_X11_strengthOf (rcO o_1 (by decide) rfl) rfl rfl (c_X11_strengthOf hW hs (kt_s ?_))
  refine s_istore_n (pc := 5) (i := 3) dX11_needsEach_5 rfl (Nat.le_of_ble_eq_true rfl) ?_
  dsimp only [List.set, List.filter]
  refine m_ic (pc := 6) (v := 0) dX11_needsEach_6 rfl ?_
  refine s_istore (pc := 7) (i := 4) dX11_needsEach_7 (Nat.le_of_ble_eq_true rfl) ?_
  dsimp only [List.set, List.filter]
  exact ne_lp hW hs hq9 h1 h0 (cb D) 0 (by omega) rfl
theorem quo_lp {q e : Nat} (hW : Wc I 33 D cs S) (hq1 : 1 ≤ q) (hq9 : q ≤ 693) (he : e < 2) (hq : Q (.inl (some (.int (nI (bc (qA D S q e) (2 ^ cb D)))))) (Z I J n w)) : ∀ f i (v5 : Value), i + f = 2 ^ cb D → Rn g (d + 8) mX11_quorum 20 [.ref 1, .int (nI q), .int (nI e), .int (nI (bc (qA D S q e) i)), .int (nI i), v5] [] [] (Z I J n w) Q := by
  intro f
  induction f with
  | zero =>
    intro i v5 hi
    have e : 2 ^ cb D = i := by omega
    subst e
    have hb7 := hW.2.1.1
    have hc12 := hW.2.1.2.1
    have p12 := p12 (m := cb D) (by omega)
    refine s_iload (pc := 20) (i := 4) dX11_quorum_20 rfl ?_
    refine m_ic (pc := 22) (v := 1) dX11_quorum_22 rfl ?_
    refine s_aload_n (pc := 23) (i := 0) dX11_quorum_23 rfl rfl ?_
    refine m_gr (pc := 24) dX11_quorum_24 ff_X11_19 rfl o_1 r_1_1 ?_
    refine m_gi (pc := 27) dX11_quorum_27 ff_X11_143 rfl o_4 ?_
    refine m_nm (v' := nI (cb D)) (hW.1.1) ?_
    refine s_ishl (pc := 30) dX11_quorum_30 ?_
    refine m_nm (v' := nI (2 ^ cb D)) (sh_1 (by omega)) ?_
    refine s_icge (pc := 31) (tgt := 92) dX11_quorum_31 rfl (fun h31 => ?_) (fun h31 => absurd (nI_le (a := 2 ^ cb D) (b := (2 ^ cb D)) (by omega) (by omega)) h31)
    refine s_iload_n (pc := 92) (i := 3) dX11_quorum_92 rfl rfl ?_
    refine s_ireturn (pc := 93) dX11_quorum_93 rfl rfl ?_
    exact hq
  | succ f ih =>
    intro i v5 hi
    have hb7 := hW.2.1.1
    have hc12 := hW.2.1.2.1
    have p12 := p12 (m := cb D) (by omega)
    have hS := stg_le (v := i) hW.2.1
    have hbc := bc_le (qA D S q e) i
    refine s_iload (pc := 20) (i := 4) dX11_quorum_20 rfl ?_
    refine m_ic (pc := 22) (v := 1) dX11_quorum_22 rfl ?_
    refine s_aload_n (pc := 23) (i := 0) dX11_quorum_23 rfl rfl ?_
    refine m_gr (pc := 24) dX11_quorum_24 ff_X11_19 rfl o_1 r_1_1 ?_
    refine m_gi (pc := 27) dX11_quorum_27 ff_X11_143 rfl o_4 ?_
    refine m_nm (v' := nI (cb D)) (hW.1.1) ?_
    refine s_ishl (pc := 30) dX11_quorum_30 ?_
    refine m_nm (v' := nI (2 ^ cb D)) (sh_1 (by omega)) ?_
    refine s_icge (pc := 31) (tgt := 92) dX11_quorum_31 rfl (fun h31 => absurd h31 (nI_ge (a := i) (b := 2 ^ cb D) (by omega) (by omega))) (fun h31 => ?_)
    refine s_iload (pc := 34) (i := 4) dX11_quorum_34 rfl ?_
    refine s_aload_n (pc := 36) (i := 0) dX11_quorum_36 rfl rfl ?_
    refine m_gr (pc := 37) dX11_quorum_37 ff_X11_73 rfl o_1 r_1_10 ?_
    refine m_gi (pc := 40) dX11_quorum_40 ff_X11_198 rfl o_33 ?_
    refine m_nm (v' := nI (bs (sF S) 7)) (hW.2.2.2.2.1.2.2.2.1) ?_
    refine s_iand (pc := 43) dX11_quorum_43 ?_
    refine s_ifne (pc := 44) (tgt := 61) dX11_quorum_44 rfl (fun h44 => ?_) (fun h44 => ?_)
    · have f0 : fre S i = false := decide_eq_false h44
      refine m_ic (pc := 61) (v := 0) dX11_quorum_61 rfl ?_
      refine s_istore (pc := 62) (i := 5) dX11_quorum_62 (Nat.le_of_ble_eq_true rfl) ?_
      dsimp only [List.set, List.filter]
      refine s_iload (pc := 64) (i := 5) dX11_quorum_64 rfl ?_
      refine s_ifeq (pc := 66) (tgt := 86) dX11_quorum_66 rfl (fun h66 => ?_) (fun h66 => absurd h66 (by decide))
      refine m_inc (pc := 86) (v := 1) dX11_quorum_86 rfl rfl ?_
      dsimp only [List.set, List.filter]
      rw [nI_1]
      refine s_goto (pc := 89) (tgt := 20) dX11_quorum_89 rfl ?_
      have E : qA D S q e i = false := qA_n1 f0
      have h := ih (i + 1) (.int 0) (by omega)
      rw [bc_nn E] at h; exact h
    · have f1 : fre S i = true := decide_eq_true h44
      refine s_aload_n (pc := 47) (i := 0) dX11_quorum_47 rfl rfl ?_
      refine s_iload (pc := 48) (i := 4) dX11_quorum_48 rfl ?_
      refine m_v1 (pc := 50) dX11_quorum_50 lk_X11_343 ok_X11_strengthOf (rcO o_1 (by decide) rfl) rfl rfl (c_X11_strengthOf hW (by omega) (kt_s ?_))
      refine s_iload_n (pc := 53) (i := 1) dX11_quorum_53 rfl rfl ?_
      refine s_iclt (pc := 54) (tgt := 61) dX11_quorum_54 rfl (fun h54 => ?_) (fun h54 => ?_)
      · have h54 : (stg D i) < q := (nI_ltI (a := stg D i) (b := q) (by omega) (by omega)).mp h54
        refine m_ic (pc := 61) (v := 0) dX11_quorum_61 rfl ?_
        refine s_istore (pc := 62) (i := 5) dX11_quorum_62 (Nat.le_of_ble_eq_true rfl) ?_
        dsimp only [List.set, List.filter]
        refine s_iload (pc := 64) (i := 5) dX11_quorum_64 rfl ?_
        refine s_ifeq (pc := 66) (tgt := 86) dX11_quorum_66 rfl (fun h66 => ?_) (fun h66 => absurd h66 (by decide))
        refine m_inc (pc := 86) (v := 1) dX11_quorum_86 rfl rfl ?_
        dsimp only [List.set, List.filter]
        rw [nI_1]
        refine s_goto (pc := 89) (tgt := 20) dX11_quorum_89 rfl ?_
        have E : qA D S q e i = false := qA_n2 (by omega)
        have h := ih (i + 1) (.int 0) (by omega)
        rw [bc_nn E] at h; exact h
      · have h54 : ¬ (stg D i) < q := fun z => h54 ((nI_ltI (a := stg D i) (b := q) (by omega) (by omega)).mpr z)
        refine m_ic (pc := 57) (v := 1) dX11_quorum_57 rfl ?_
        refine s_goto (pc := 58) (tgt := 62) dX11_quorum_58 rfl ?_
        refine s_istore (pc := 62) (i := 5) dX11_quorum_62 (Nat.le_of_ble_eq_true rfl) ?_
        dsimp only [List.set, List.filter]
        refine s_iload (pc := 64) (i := 5) dX11_quorum_64 rfl ?_
        refine s_ifeq (pc := 66) (tgt := 86) dX11_quorum_66 rfl (fun h66 => absurd h66 (by decide)) (fun h66 => ?_)
        refine s_iload_n (pc := 69) (i := 2) dX11_quorum_69 rfl rfl ?_
        refine s_ifeq (pc := 70) (tgt := 83) dX11_quorum_70 rfl (fun h70 => ?_) (fun h70 => ?_)
        · have h70 : e = 0 := (nI_eq (a := e) (b := 0) (by omega) (by omega)).mp h70
          refine m_inc (pc := 83) (v := 1) dX11_quorum_83 rfl rfl ?_
          dsimp only [List.set, List.filter]
          rw [nI_1]
          refine m_inc (pc := 86) (v := 1) dX11_quorum_86 rfl rfl ?_
          dsimp only [List.set, List.filter]
          rw [nI_1]
          refine s_goto (pc := 89) (tgt := 20) dX11_quorum_89 rfl ?_
          have E : qA D S q e i = true := qA_y f1 (by omega) (by rw [decide_eq_true h70]; rfl)
          have h := ih (i + 1) (.int 1) (by omega)
          rw [bc_yy E] at h; exact h
        · have h70 : ¬ e = 0 := fun z => h70 ((nI_eq (a := e) (b := 0) (by omega) (by omega)).mpr z)
          refine s_aload_n (pc := 73) (i := 0) dX11_quorum_73 rfl rfl ?_
          refine s_iload (pc := 74) (i := 4) dX11_quorum_74 rfl ?_
          refine s_iload_n (pc := 76) (i := 1) dX11_quorum_76 rfl rfl ?_
          refine m_v2 (pc := 77) dX11_quorum_77 lk_X11_346 ok_X11_needsEach (rcO o_1 (by decide) rfl) rfl rfl (c_X11_needsEach hW (by omega) hq9 (fun z => kt_s ?_) (fun z => kt_s ?_))
          · refine s_ifeq (pc := 80) (tgt := 86) dX11_quorum_80 rfl (fun h80 => absurd h80 (by decide)) (fun h80 => ?_)
            refine m_inc (pc := 83) (v := 1) dX11_quorum_83 rfl rfl ?_
            dsimp only [List.set, List.filter]
            rw [nI_1]
            refine m_inc (pc := 86) (v := 1) dX11_quorum_86 rfl rfl ?_
            dsimp only [List.set, List.filter]
            rw [nI_1]
            refine s_goto (pc := 89) (tgt := 20) dX11_quorum_89 rfl ?_
            have E : qA D S q e i = true := qA_y f1 (by omega) (by rw [z, Bool.or_true])
            have h := ih (i + 1) (.int 1) (by omega)
            rw [bc_yy E] at h; exact h
          · refine s_ifeq (pc := 80) (tgt := 86) dX11_quorum_80 rfl (fun h80 => ?_) (fun h80 => absurd h80 (by decide))
            refine m_inc (pc := 86) (v := 1) dX11_quorum_86 rfl rfl ?_
            dsimp only [List.set, List.filter]
            rw [nI_1]
            refine s_goto (pc := 89) (tgt := 20) dX11_quorum_89 rfl ?_
            have E : qA D S q e i = false := qA_y f1 (by omega) (by rw [z, decide_eq_false h70]; rfl)
            have h := ih (i + 1) (.int 1) (by omega)
            rw [bc_nn E] at h; exact h
theorem c_X11_quorum (hW : Wc I 33 D cs S) (hn : n + 1 ≤ 600000 ∧ w + 6 ≤ 7000000) {x y : Int32} (r0 : ¬ iv 1 (694) x → Q (.inr 1) (Z (up I 1 18 (I 1 18 + 1)) J (n + 1) (w + 6))) (r1 : iv 1 (694) x → ¬ iv 0 (2) y → Q (.inr 1) (Z (up I 1 18 (I 1 18 + 1)) J (n + 1) (w + 6))) (hg : ∀ q, ∀ e, x = nI q → 1 ≤ q → q < 694 → y = nI e → e < 2 → ∀ I', kc I I' → Q (.inl (some (.int (nI (bc (qA D S q e) (2 ^ cb D)))))) (Z I' J n w)) : Cn g (d + 8) mX11_quorum [.ref 1, .int x, .int y] (Z I J n w) Q := by
  have hb7 := hW.2.1.1
  have hc12 := hW.2.1.2.1
  show Rn g (d + 8) mX11_quorum 0 [.ref 1, .int x, .int y, .retAddr 0, .retAddr 0, .retAddr 0] [] [] (Z I J n w) Q
  refine s_aload_n (pc := 0) (i := 0) dX11_quorum_0 rfl rfl ?_
  refine s_iload_n (pc := 1) (i := 1) dX11_quorum_1 rfl rfl ?_
  refine m_ic (pc := 2) (v := 1) dX11_quorum_2 rfl ?_
  refine m_si (pc := 3) (v := 693) dX11_quorum_3 rfl ?_
  refine m_v3 (pc := 6) dX11_quorum_6 lk_X11_267 ok_X11_needRange (rcO o_1 (by decide) rfl) rfl rfl (c_nr (lo := 1) (m := 694) rfl rfl (by omega) hn (fun q eq lq hq => kt_v ?_) (fun z => kt_x ?_))
  · subst eq
    refine s_aload_n (pc := 9) (i := 0) dX11_quorum_9 rfl rfl ?_
    refine s_iload_n (pc := 10) (i := 2) dX11_quorum_10 rfl rfl ?_
    refine m_ic (pc := 11) (v := 2) dX11_quorum_11 rfl ?_
    refine m_v2 (pc := 12) dX11_quorum_12 lk_X11_181 ok_X11_needWhat (rcO o_1 (by decide) rfl) rfl rfl (c_nw (m := 2) rfl (by decide) hn (fun e ee he => kt_v ?_) (fun z => kt_x ?_))
    · subst ee
      refine m_ic (pc := 15) (v := 0) dX11_quorum_15 rfl ?_
      refine s_istore_n (pc := 16) (i := 3) dX11_quorum_16 rfl (Nat.le_of_ble_eq_true rfl) ?_
      dsimp only [List.set, List.filter]
      refine m_ic (pc := 17) (v := 1) dX11_quorum_17 rfl ?_
      refine s_istore (pc := 18) (i := 4) dX11_quorum_18 (Nat.le_of_ble_eq_true rfl) ?_
      dsimp only [List.set, List.filter]
      have p1 := Nat.one_le_two_pow (n := cb D)
      have E : bc (qA D S q e) 1 = 0 := (bc_nn (qA_0 lq))
      have h := fun v5 : Value => quo_lp (g := g) (d := d) (I := I) hW lq (by omega) he (hg q e rfl lq hq rfl he I kc_r) (2 ^ cb D - 1) 1 v5 (by omega)
      simp only [E] at h; exact h _
    · exact r1 ⟨q, rfl, lq, hq⟩ z
  · exact r0  z
theorem c_X12_standing (hW : Wm I D cs S) (hq : Q (.inl (some (.int (nI (stn D S))))) (Z I J n w)) : Cn g (d + 1) mX12_standing [.ref 534] (Z I J n w) Q := by
  have hb7 := hW.2.1.1
  have E : nI (bs (fun _ => true) (cb D)) &&& (nI (bs (sF S) 7) ^^^ -1) = nI (stn D S) := b_ext (fun i hi => by
    rw [b_and, b_xor, b_m1 i hi, stn, bt_bs _ (by omega), bt_bs _ (by omega), bt_bs _ (by omega)]
    by_cases hc : i < cb D
    · have : i < 7 := by omega
      simp [hc, this]
    · simp [hc])
  show Rn g (d + 1) mX12_standing 0 [.ref 534] [] [] (Z I J n w) Q
  refine m_ic (pc := 0) (v := 1) dX12_standing_0 rfl ?_
  refine s_aload_n (pc := 1) (i := 0) dX12_standing_1 rfl rfl ?_
  refine m_gi (pc := 2) dX12_standing_2 ff_X12_154 rfl o_534 ?_
  refine m_nm (v' := nI (cb D)) (hW.1.1) ?_
  refine s_ishl (pc := 5) dX12_standing_5 ?_
  refine m_ic (pc := 6) (v := 1) dX12_standing_6 rfl ?_
  refine s_isub (pc := 7) dX12_standing_7 ?_
  refine m_nm (v' := nI (bs (fun _ => true) (cb D))) (ones_bs (by omega)) ?_
  refine s_aload_n (pc := 8) (i := 0) dX12_standing_8 rfl rfl ?_
  refine m_bi (pc := 9) (v := 91) dX12_standing_9 rfl ?_
  refine m_v1 (pc := 11) dX12_standing_11 lk_X12_370 ok_X12_bitsOf (rcO o_534 (by decide) rfl) rfl rfl (c_X12_bitsOf hW (kt_s ?_))
  refine m_ic (pc := 14) (v := -1) dX12_standing_14 rfl ?_
  refine s_ixor (pc := 15) dX12_standing_15 ?_
  refine s_iand (pc := 16) dX12_standing_16 ?_
  refine m_nm (v' := nI (stn D S)) (E) ?_
  refine s_ireturn (pc := 17) dX12_standing_17 rfl rfl ?_
  exact hq
theorem mqi_lp {q e s : Nat} {a b0 : Int32} (hW : Wm I D cs S) (hs : s < 4096) (hq9 : q ≤ 693) (hq : Rn g (d + 2) mX12_quorum 150 [.ref 534, .int (nI q), .int (nI e), .int (nI (stn D S)), .int a, .int b0, .int (nI s), .int (flb (eac D s q (cb D))), .int (nI (cb D))] [] [] (Z I J n w) Q) : ∀ f i, i + f = cb D → Rn g (d + 2) mX12_quorum 96 [.ref 534, .int (nI q), .int (nI e), .int (nI (stn D S)), .int a, .int b0, .int (nI s), .int (flb (eac D s q i)), .int (nI i)] [] [] (Z I J n w) Q := by
  intro f
  induction f with
  | zero =>
    intro i hi
    have e : cb D = i := by omega
    subst e
    have hb7 := hW.2.1.1
    have hc12 := hW.2.1.2.1
    refine s_iload (pc := 96) (i := 8) dX12_quorum_96 rfl ?_
    refine s_aload_n (pc := 98) (i := 0) dX12_quorum_98 rfl rfl ?_
    refine m_gi (pc := 99) dX12_quorum_99 ff_X12_154 rfl o_534 ?_
    refine m_nm (v' := nI (cb D)) (hW.1.1) ?_
    refine s_icge (pc := 102) (tgt := 150) dX12_quorum_102 rfl (fun h102 => ?_) (fun h102 => absurd (nI_le (a := cb D) (b := (cb D)) (by omega) (by omega)) h102)
    exact hq
  | succ f ih =>
    intro i hi
    have hb7 := hW.2.1.1
    have hc12 := hW.2.1.2.1
    refine s_iload (pc := 96) (i := 8) dX12_quorum_96 rfl ?_
    refine s_aload_n (pc := 98) (i := 0) dX12_quorum_98 rfl rfl ?_
    refine m_gi (pc := 99) dX12_quorum_99 ff_X12_154 rfl o_534 ?_
    refine m_nm (v' := nI (cb D)) (hW.1.1) ?_
    refine s_icge (pc := 102) (tgt := 150) dX12_quorum_102 rfl (fun h102 => absurd h102 (nI_ge (a := i) (b := cb D) (by omega) (by omega))) (fun h102 => ?_)
    refine s_iload (pc := 105) (i := 7) dX12_quorum_105 rfl ?_
    refine s_ifeq (pc := 107) (tgt := 141) dX12_quorum_107 rfl (fun h107 => ?_) (fun h107 => ?_)
    · have e0 := flb_0 h107
      refine m_ic (pc := 141) (v := 0) dX12_quorum_141 rfl ?_
      refine s_istore (pc := 142) (i := 7) dX12_quorum_142 (Nat.le_of_ble_eq_true rfl) ?_
      dsimp only [List.set, List.filter]
      refine m_inc (pc := 144) (v := 1) dX12_quorum_144 rfl rfl ?_
      dsimp only [List.set, List.filter]
      rw [nI_1]
      refine s_goto (pc := 147) (tgt := 96) dX12_quorum_147 rfl ?_
      have E : eac D s q (i + 1) = false := by rw [eac_1, e0]; rfl
      have h := ih (i + 1) (by omega)
      rw [E] at h; exact h
    · have e1 := flb_1 h107
      refine s_iload (pc := 110) (i := 6) dX12_quorum_110 rfl ?_
      refine s_iload (pc := 112) (i := 8) dX12_quorum_112 rfl ?_
      refine s_ishr (pc := 114) dX12_quorum_114 ?_
      refine m_ic (pc := 115) (v := 1) dX12_quorum_115 rfl ?_
      refine s_iand (pc := 116) dX12_quorum_116 ?_
      refine m_nm (v' := if s.testBit i = true then 1 else 0) (tb_1 hs (by omega)) ?_
      refine s_ifeq (pc := 117) (tgt := 137) dX12_quorum_117 rfl (fun h117 => ?_) (fun h117 => ?_)
      · have e : s.testBit i = false := ts_nt (fun z => by rw [if_pos z] at h117; exact absurd h117 (by decide))
        refine m_ic (pc := 137) (v := 1) dX12_quorum_137 rfl ?_
        refine s_goto (pc := 138) (tgt := 142) dX12_quorum_138 rfl ?_
        refine s_istore (pc := 142) (i := 7) dX12_quorum_142 (Nat.le_of_ble_eq_true rfl) ?_
        dsimp only [List.set, List.filter]
        refine m_inc (pc := 144) (v := 1) dX12_quorum_144 rfl rfl ?_
        dsimp only [List.set, List.filter]
        rw [nI_1]
        refine s_goto (pc := 147) (tgt := 96) dX12_quorum_147 rfl ?_
        have E : eac D s q (i + 1) = true := by rw [eac_1, e1, e]; rfl
        have h := ih (i + 1) (by omega)
        rw [E] at h; exact h
      · have e : s.testBit i = true := ts_nf (fun z => h117 (by rw [if_neg (by rw [z]; decide)]))
        obtain ⟨u, hu, eu, hub⟩ := wo_b (s := s) (i := i) hs
        have hsm := sms_w (f := cS D) hub e (cb D)
        rw [if_pos (by omega)] at hsm
        have hsm : stg D u + cS D i = stg D s := hsm
        have hS := stg_le (v := u) hW.2.1
        refine s_aload_n (pc := 120) (i := 0) dX12_quorum_120 rfl rfl ?_
        refine s_iload (pc := 121) (i := 6) dX12_quorum_121 rfl ?_
        refine m_ic (pc := 123) (v := 1) dX12_quorum_123 rfl ?_
        refine s_iload (pc := 124) (i := 8) dX12_quorum_124 rfl ?_
        refine s_ishl (pc := 126) dX12_quorum_126 ?_
        refine m_nm (v' := nI (2 ^ i)) (sh_1 (by omega)) ?_
        refine m_ic (pc := 127) (v := -1) dX12_quorum_127 rfl ?_
        refine s_ixor (pc := 128) dX12_quorum_128 ?_
        refine s_iand (pc := 129) dX12_quorum_129 ?_
        refine m_nm (v' := nI u) (eu) ?_
        refine m_v1 (pc := 130) dX12_quorum_130 lk_X12_428 ok_X12_strengthOf (rcO o_534 (by decide) rfl) rfl rfl (c_X12_strengthOf hW hu (kt_s ?_))
        refine s_iload_n (pc := 133) (i := 1) dX12_quorum_133 rfl rfl ?_
        refine s_icge (pc := 134) (tgt := 141) dX12_quorum_134 rfl (fun h134 => ?_) (fun h134 => ?_)
        · have h134 : q ≤ (stg D u) := (nI_leI (a := q) (b := stg D u) (by omega) (by omega)).mp h134
          refine m_ic (pc := 141) (v := 0) dX12_quorum_141 rfl ?_
          refine s_istore (pc := 142) (i := 7) dX12_quorum_142 (Nat.le_of_ble_eq_true rfl) ?_
          dsimp only [List.set, List.filter]
          refine m_inc (pc := 144) (v := 1) dX12_quorum_144 rfl rfl ?_
          dsimp only [List.set, List.filter]
          rw [nI_1]
          refine s_goto (pc := 147) (tgt := 96) dX12_quorum_147 rfl ?_
          have E : eac D s q (i + 1) = false := eac_f e (by omega) _ (by omega)
          have h := ih (i + 1) (by omega)
          rw [E] at h; exact h
        · have h134 : ¬ q ≤ (stg D u) := fun z => h134 ((nI_leI (a := q) (b := stg D u) (by omega) (by omega)).mpr z)
          refine m_ic (pc := 137) (v := 1) dX12_quorum_137 rfl ?_
          refine s_goto (pc := 138) (tgt := 142) dX12_quorum_138 rfl ?_
          refine s_istore (pc := 142) (i := 7) dX12_quorum_142 (Nat.le_of_ble_eq_true rfl) ?_
          dsimp only [List.set, List.filter]
          refine m_inc (pc := 144) (v := 1) dX12_quorum_144 rfl rfl ?_
          dsimp only [List.set, List.filter]
          rw [nI_1]
          refine s_goto (pc := 147) (tgt := 96) dX12_quorum_147 rfl ?_
          have E : eac D s q (i + 1) = true := by rw [eac_1, e1, e, decide_eq_true (show stg D s < q + cS D i by omega)]; rfl
          have h := ih (i + 1) (by omega)
          rw [E] at h; exact h
theorem mqu_lp {q e : Nat} (hW : Wm I D cs S) (hq1 : 1 ≤ q) (hq9 : q ≤ 693) (he : e < 2) (hq : Q (.inl (some (.int (nI (bc (qA D S q e) (2 ^ cb D)))))) (Z I J n w)) : ∀ f i (v7 : Value) (v8 : Value), i + f = stn D S + 1 → Rn g (d + 2) mX12_quorum 59 [.ref 534, .int (nI q), .int (nI e), .int (nI (stn D S)), .int (nI (bc (qA D S q 0) i)), .int (nI (bc (qA D S q 1) i)), .int (nI i), v7, v8] [] [] (Z I J n w) Q := by
  intro f
  induction f with
  | zero =>
    intro i v7 v8 hi
    have e : stn D S + 1 = i := by omega
    subst e
    have hb7 := hW.2.1.1
    have hc12 := hW.2.1.2.1
    have p12 := p12 (m := cb D) (by omega)
    have hst := stn_lt (D := D) (S := S)
    refine s_iload (pc := 59) (i := 6) dX12_quorum_59 rfl ?_
    refine s_iload_n (pc := 61) (i := 3) dX12_quorum_61 rfl rfl ?_
    refine s_icgt (pc := 62) (tgt := 171) dX12_quorum_62 rfl (fun h62 => ?_) (fun h62 => absurd (nI_lt (a := stn D S) (b := (stn D S + 1)) (by omega) (by omega)) h62)
    refine s_iload_n (pc := 171) (i := 2) dX12_quorum_171 rfl rfl ?_
    refine s_ifne (pc := 172) (tgt := 180) dX12_quorum_172 rfl (fun h172 => ?_) (fun h172 => ?_)
    · have h172 : ¬ e = 0 := fun z => h172 ((nI_eq (a := e) (b := 0) (by omega) (by omega)).mpr z)
      refine s_iload (pc := 180) (i := 5) dX12_quorum_180 rfl ?_
      refine s_ireturn (pc := 182) dX12_quorum_182 rfl rfl ?_
      have z : e = 1 := by omega
      subst z
      rw [qA_end hb7] at hq; exact hq
    · have h172 : e = 0 := (nI_eq (a := e) (b := 0) (by omega) (by omega)).mp h172
      refine s_iload (pc := 175) (i := 4) dX12_quorum_175 rfl ?_
      refine s_goto (pc := 177) (tgt := 182) dX12_quorum_177 rfl ?_
      refine s_ireturn (pc := 182) dX12_quorum_182 rfl rfl ?_
      subst h172
      rw [qA_end hb7] at hq; exact hq
  | succ f ih =>
    intro i v7 v8 hi
    have hb7 := hW.2.1.1
    have hc12 := hW.2.1.2.1
    have p12 := p12 (m := cb D) (by omega)
    have hst := stn_lt (D := D) (S := S)
    have hS := stg_le (v := i) hW.2.1
    have hbc := bc_le (qA D S q 0) i
    have hbd := bc_le (qA D S q 1) i
    refine s_iload (pc := 59) (i := 6) dX12_quorum_59 rfl ?_
    refine s_iload_n (pc := 61) (i := 3) dX12_quorum_61 rfl rfl ?_
    refine s_icgt (pc := 62) (tgt := 171) dX12_quorum_62 rfl (fun h62 => absurd h62 (nI_nlt (a := stn D S) (b := i) (by omega) (by omega))) (fun h62 => ?_)
    refine s_iload (pc := 65) (i := 6) dX12_quorum_65 rfl ?_
    refine s_iload_n (pc := 67) (i := 3) dX12_quorum_67 rfl rfl ?_
    refine m_ic (pc := 68) (v := -1) dX12_quorum_68 rfl ?_
    refine s_ixor (pc := 69) dX12_quorum_69 ?_
    refine s_iand (pc := 70) dX12_quorum_70 ?_
    refine s_ifne (pc := 71) (tgt := 165) dX12_quorum_71 rfl (fun h71 => ?_) (fun h71 => ?_)
    · have f0 : fre S i = false := ts_nt (fun z => h71 ((fre_m hb7 (by omega)).mpr z))
      refine m_inc (pc := 165) (v := 1) dX12_quorum_165 rfl rfl ?_
      dsimp only [List.set, List.filter]
      rw [nI_1]
      refine s_goto (pc := 168) (tgt := 59) dX12_quorum_168 rfl ?_
      have E0 : qA D S q 0 i = false := qA_n1 f0
      have E1 : qA D S q 1 i = false := qA_n1 f0
      have h := ih (i + 1) v7 v8 (by omega)
      rw [bc_nn E0, bc_nn E1] at h; exact h
    · have f1 : fre S i = true := (fre_m hb7 (by omega)).mp h71
      refine s_aload_n (pc := 74) (i := 0) dX12_quorum_74 rfl rfl ?_
      refine s_iload (pc := 75) (i := 6) dX12_quorum_75 rfl ?_
      refine m_v1 (pc := 77) dX12_quorum_77 lk_X12_428 ok_X12_strengthOf (rcO o_534 (by decide) rfl) rfl rfl (c_X12_strengthOf hW (by omega) (kt_s ?_))
      refine s_iload_n (pc := 80) (i := 1) dX12_quorum_80 rfl rfl ?_
      refine s_icge (pc := 81) (tgt := 87) dX12_quorum_81 rfl (fun h81 => ?_) (fun h81 => ?_)
      · have h81 : q ≤ (stg D i) := (nI_leI (a := q) (b := stg D i) (by omega) (by omega)).mp h81
        refine m_inc (pc := 87) (v := 1) dX12_quorum_87 rfl rfl ?_
        dsimp only [List.set, List.filter]
        rw [nI_1]
        refine m_ic (pc := 90) (v := 1) dX12_quorum_90 rfl ?_
        refine s_istore (pc := 91) (i := 7) dX12_quorum_91 (Nat.le_of_ble_eq_true rfl) ?_
        dsimp only [List.set, List.filter]
        refine m_ic (pc := 93) (v := 0) dX12_quorum_93 rfl ?_
        refine s_istore (pc := 94) (i := 8) dX12_quorum_94 (Nat.le_of_ble_eq_true rfl) ?_
        dsimp only [List.set, List.filter]
        refine mqi_lp (e := e) hW (by omega) hq9 ?_ (cb D) 0 (by omega)
        refine s_iload (pc := 150) (i := 5) dX12_quorum_150 rfl ?_
        refine s_iload (pc := 152) (i := 7) dX12_quorum_152 rfl ?_
        refine s_ifeq (pc := 154) (tgt := 161) dX12_quorum_154 rfl (fun h154 => ?_) (fun h154 => ?_)
        · have e0 := flb_0 h154
          refine m_ic (pc := 161) (v := 0) dX12_quorum_161 rfl ?_
          refine s_iadd (pc := 162) dX12_quorum_162 ?_
          refine m_nm (v' := nI ((bc (qA D S q 1) i) + 0)) (nI_add (bc (qA D S q 1) i) 0) ?_
          refine s_istore (pc := 163) (i := 5) dX12_quorum_163 (Nat.le_of_ble_eq_true rfl) ?_
          dsimp only [List.set, List.filter]
          refine m_inc (pc := 165) (v := 1) dX12_quorum_165 rfl rfl ?_
          dsimp only [List.set, List.filter]
          rw [nI_1]
          refine s_goto (pc := 168) (tgt := 59) dX12_quorum_168 rfl ?_
          have E0 : qA D S q 0 i = true := qA_y f1 (by omega) rfl
          have E1 : qA D S q 1 i = false := qA_y f1 (by omega) (by rw [e0]; rfl)
          have h := ih (i + 1) (.int (flb (eac D i q (cb D)))) (.int (nI (cb D))) (by omega)
          rw [bc_yy E0, bc_nn E1] at h; exact h
        · have e1 := flb_1 h154
          refine m_ic (pc := 157) (v := 1) dX12_quorum_157 rfl ?_
          refine s_goto (pc := 158) (tgt := 162) dX12_quorum_158 rfl ?_
          refine s_iadd (pc := 162) dX12_quorum_162 ?_
          refine m_nm (v' := nI (bc (qA D S q 1) i + 1)) (nI_add _ _) ?_
          refine s_istore (pc := 163) (i := 5) dX12_quorum_163 (Nat.le_of_ble_eq_true rfl) ?_
          dsimp only [List.set, List.filter]
          refine m_inc (pc := 165) (v := 1) dX12_quorum_165 rfl rfl ?_
          dsimp only [List.set, List.filter]
          rw [nI_1]
          refine s_goto (pc := 168) (tgt := 59) dX12_quorum_168 rfl ?_
          have E0 : qA D S q 0 i = true := qA_y f1 (by omega) rfl
          have E1 : qA D S q 1 i = true := qA_y f1 (by omega) (by rw [e1]; rfl)
          have h := ih (i + 1) (.int (flb (eac D i q (cb D)))) (.int (nI (cb D))) (by omega)
          rw [bc_yy E0, bc_yy E1] at h; exact h
      · have h81 : ¬ q ≤ (stg D i) := fun z => h81 ((nI_leI (a := q) (b := stg D i) (by omega) (by omega)).mpr z)
        refine s_goto (pc := 84) (tgt := 165) dX12_quorum_84 rfl ?_
        refine m_inc (pc := 165) (v := 1) dX12_quorum_165 rfl rfl ?_
        dsimp only [List.set, List.filter]
        rw [nI_1]
        refine s_goto (pc := 168) (tgt := 59) dX12_quorum_168 rfl ?_
        have E0 : qA D S q 0 i = false := qA_n2 (by omega)
        have E1 : qA D S q 1 i = false := qA_n2 (by omega)
        have h := ih (i + 1) v7 v8 (by omega)
        rw [bc_nn E0, bc_nn E1] at h; exact h
theorem c_X12_quorum (hW : Wn I D cs S) {x y : Int32} (r0 : ¬ iv 1 (694) x → Q (.inl (some (.int 0))) (Z (thr I 1 1) J n w)) (r1 : iv 1 (694) x → ¬ iv 0 (2) y → Q (.inl (some (.int 0))) (Z (thr I 1 1) J n w)) (hg : ∀ q, ∀ e, x = nI q → 1 ≤ q → q < 694 → y = nI e → e < 2 → ∀ I', km I I' → I' 534 0 = 0 → Q (.inl (some (.int (nI (bc (qA D S q e) (2 ^ cb D)))))) (Z I' J n w)) : Cn g (d + 2) mX12_quorum [.ref 534, .int x, .int y] (Z I J n w) Q := by
  have hb7 := hW.2.1.1
  have hc12 := hW.2.1.2.1
  show Rn g (d + 2) mX12_quorum 0 [.ref 534, .int x, .int y, .retAddr 0, .retAddr 0, .retAddr 0, .retAddr 0, .retAddr 0, .retAddr 0] [] [] (Z I J n w) Q
  refine s_aload_n (pc := 0) (i := 0) dX12_quorum_0 rfl rfl ?_
  refine m_ic (pc := 1) (v := 0) dX12_quorum_1 rfl ?_
  refine m_pi (pc := 2) dX12_quorum_2 ff_X12_3 rfl rfl o_534 ?_
  refine s_aload_n (pc := 5) (i := 0) dX12_quorum_5 rfl rfl ?_
  refine s_iload_n (pc := 6) (i := 1) dX12_quorum_6 rfl rfl ?_
  refine m_ic (pc := 7) (v := 1) dX12_quorum_7 rfl ?_
  refine m_si (pc := 8) (v := 693) dX12_quorum_8 rfl ?_
  refine m_s3 (pc := 11) dX12_quorum_11 lk_X12_373 ok_X12_within rfl rfl (c_win (lo := 1) (m := 694) rfl rfl (by omega) (fun q eq lq hq => kt_s ?_) (fun z => kt_s ?_))
  · subst eq
    refine s_ifeq (pc := 14) (tgt := 30) dX12_quorum_14 rfl (fun h14 => absurd h14 (by decide)) (fun h14 => ?_)
    refine s_iload_n (pc := 17) (i := 2) dX12_quorum_17 rfl rfl ?_
    refine m_ic (pc := 18) (v := 0) dX12_quorum_18 rfl ?_
    refine m_ic (pc := 19) (v := 1) dX12_quorum_19 rfl ?_
    refine m_s3 (pc := 20) dX12_quorum_20 lk_X12_373 ok_X12_within rfl rfl (c_win (lo := 0) (m := 2) rfl rfl (by omega) (fun e ee le he => kt_s ?_) (fun z => kt_s ?_))
    · subst ee
      refine s_ifeq (pc := 23) (tgt := 30) dX12_quorum_23 rfl (fun h23 => absurd h23 (by decide)) (fun h23 => ?_)
      refine m_ic (pc := 26) (v := 1) dX12_quorum_26 rfl ?_
      refine s_goto (pc := 27) (tgt := 31) dX12_quorum_27 rfl ?_
      refine m_ic (pc := 31) (v := 1) dX12_quorum_31 rfl ?_
      refine m_ic (pc := 32) (v := 1) dX12_quorum_32 rfl ?_
      refine m_v3 (pc := 33) dX12_quorum_33 lk_X12_192 ok_X12_may (rcO o_534 (by decide) rfl) rfl rfl (c_may1 (k := 1) (by decide) rfl up_s (by decide) (kt_s ?_))
      · refine s_ifne (pc := 36) (tgt := 41) dX12_quorum_36 rfl (fun h36 => ?_) (fun h36 => absurd h36 (by decide))
        refine s_aload_n (pc := 41) (i := 0) dX12_quorum_41 rfl rfl ?_
        refine m_v0 (pc := 42) dX12_quorum_42 lk_X12_310 ok_X12_take (rcO o_534 (by decide) rfl) rfl rfl (c_X12_take (kt_v ?_))
        have hM := tk_W hW
        have hK := tk_k (I := I)
        have h00 := tk_0 (I := I)
        obtain ⟨I1, e1⟩ : ∃ z, z = cpI (up I 534 0 0) 549 550 126 := ⟨_, rfl⟩
        rw [← e1] at hM hK h00 ⊢
        refine s_aload_n (pc := 45) (i := 0) dX12_quorum_45 rfl rfl ?_
        refine m_v0 (pc := 46) dX12_quorum_46 lk_X12_425 ok_X12_standing (rcO o_534 (by decide) rfl) rfl rfl (c_X12_standing hM (kt_s ?_))
        refine s_istore_n (pc := 49) (i := 3) dX12_quorum_49 rfl (Nat.le_of_ble_eq_true rfl) ?_
        dsimp only [List.set, List.filter]
        refine m_ic (pc := 50) (v := 0) dX12_quorum_50 rfl ?_
        refine s_istore (pc := 51) (i := 4) dX12_quorum_51 (Nat.le_of_ble_eq_true rfl) ?_
        dsimp only [List.set, List.filter]
        refine m_ic (pc := 53) (v := 0) dX12_quorum_53 rfl ?_
        refine s_istore (pc := 54) (i := 5) dX12_quorum_54 (Nat.le_of_ble_eq_true rfl) ?_
        dsimp only [List.set, List.filter]
        refine m_ic (pc := 56) (v := 0) dX12_quorum_56 rfl ?_
        refine s_istore (pc := 57) (i := 6) dX12_quorum_57 (Nat.le_of_ble_eq_true rfl) ?_
        dsimp only [List.set, List.filter]
        exact mqu_lp hM lq (by omega) he (hg q e rfl lq hq rfl he _ hK h00) (stn D S + 1) 0 _ _ (by omega)
    · refine s_ifeq (pc := 23) (tgt := 30) dX12_quorum_23 rfl (fun h23 => ?_) (fun h23 => absurd h23 (by decide))
      refine m_ic (pc := 30) (v := 0) dX12_quorum_30 rfl ?_
      refine m_ic (pc := 31) (v := 1) dX12_quorum_31 rfl ?_
      refine m_ic (pc := 32) (v := 1) dX12_quorum_32 rfl ?_
      refine m_v3 (pc := 33) dX12_quorum_33 lk_X12_192 ok_X12_may (rcO o_534 (by decide) rfl) rfl rfl (c_may0 (k := 1) (by decide) rfl up_s (by decide) (kt_s ?_))
      · refine s_ifne (pc := 36) (tgt := 41) dX12_quorum_36 rfl (fun h36 => absurd h36 (by decide)) (fun h36 => ?_)
        refine m_ic (pc := 39) (v := 0) dX12_quorum_39 rfl ?_
        refine s_ireturn (pc := 40) dX12_quorum_40 rfl rfl ?_
        rw [thr_0]
        exact r1 ⟨q, rfl, lq, hq⟩ z
  · refine s_ifeq (pc := 14) (tgt := 30) dX12_quorum_14 rfl (fun h14 => ?_) (fun h14 => absurd h14 (by decide))
    refine m_ic (pc := 30) (v := 0) dX12_quorum_30 rfl ?_
    refine m_ic (pc := 31) (v := 1) dX12_quorum_31 rfl ?_
    refine m_ic (pc := 32) (v := 1) dX12_quorum_32 rfl ?_
    refine m_v3 (pc := 33) dX12_quorum_33 lk_X12_192 ok_X12_may (rcO o_534 (by decide) rfl) rfl rfl (c_may0 (k := 1) (by decide) rfl up_s (by decide) (kt_s ?_))
    · refine s_ifne (pc := 36) (tgt := 41) dX12_quorum_36 rfl (fun h36 => absurd h36 (by decide)) (fun h36 => ?_)
      refine m_ic (pc := 39) (v := 0) dX12_quorum_39 rfl ?_
      refine s_ireturn (pc := 40) dX12_quorum_40 rfl rfl ?_
      rw [thr_0]
      exact r0  z
end S
