section S
variable {g : aG} {d : Nat} {I : Nat → Nat → Int32} {J : Nat → Nat → Int64} {n w : Nat} {Q : aO → aS → Prop}
variable {σ : aS} {S : sD} {D : cD} {cs : List Nat} {a b c k v : Nat}
theorem m_nl {y : aM} {pc : Nat} {l : List Value} {ll : List (Nat × Int64)} {st : List Value} {v v' : Int64} (h : v = v') (kk : Rn g d y pc l ll (.long v' :: st) σ Q) : Rn g d y pc l ll (.long v :: st) σ Q := by rw [h]; exact kk
def chs (n : Nat) : Nat → Nat
  | 0 => 1
  | i + 1 => chs n i * (n - i) / (i + 1)
theorem chs_le : ∀ n, n < 13 → ∀ i, i < 14 → chs n i ≤ 924 := by decide +kernel
theorem chs_b {n i : Nat} (hn : n < 13) (hi : i < 14) : chs n i * (n - i) < 2 ^ 63 := Nat.lt_of_le_of_lt (Nat.mul_le_mul (chs_le n hn i hi) (show n - i ≤ 12 by omega)) (by decide)
theorem lN_n0 {n : Nat} (h0 : 0 < n) (h : n < 2 ^ 63) : ¬ lN n = 0 := fun z => absurd ((pk_lEQ (a := n) (b := 0) h (by decide)).mp z) (by omega)
theorem pow_lp {m : Nat} (ha : a < 20) (hm : m < 20) (hq : Q (.inl (some (.long (lN (a ^ m))))) (Z I J n w)) : ∀ f i, i + f = m → Rn g (d + 0) mX11_power 5 [.int (nI a), .int (nI m), .retAddr 0, .retAddr 0, .int (nI i)] [(2, lN (a ^ i))] [] (Z I J n w) Q := by
  intro f
  induction f with
  | zero =>
    intro i hi
    have e : m = i := by omega
    subst e
    refine s_iload (pc := 5) (i := 4) dX11_power_5 rfl ?_
    refine s_iload_n (pc := 7) (i := 1) dX11_power_7 rfl rfl ?_
    refine s_icge (pc := 8) (tgt := 22) dX11_power_8 rfl (fun h8 => ?_) (fun h8 => absurd (nI_le (a := m) (b := m) (by omega) (by omega)) h8)
    refine s_lload_n (pc := 22) (i := 2) dX11_power_22 rfl (List.Mem.head _) ?_
    refine s_lreturn (pc := 23) dX11_power_23 rfl ?_
    exact hq
  | succ f ih =>
    intro i hi
    refine s_iload (pc := 5) (i := 4) dX11_power_5 rfl ?_
    refine s_iload_n (pc := 7) (i := 1) dX11_power_7 rfl rfl ?_
    refine s_icge (pc := 8) (tgt := 22) dX11_power_8 rfl (fun h8 => absurd h8 (nI_ge (a := i) (b := m) (by omega) (by omega))) (fun h8 => ?_)
    refine s_lload_n (pc := 11) (i := 2) dX11_power_11 rfl (List.Mem.head _) ?_
    refine s_iload_n (pc := 12) (i := 0) dX11_power_12 rfl rfl ?_
    refine s_i2l (pc := 13) dX11_power_13 ?_
    refine m_nl (v' := lN a) (nI_l (by omega)) ?_
    refine s_lmul (pc := 14) dX11_power_14 ?_
    refine m_nl (v' := lN (a ^ (i + 1))) (lN_mul _ _) ?_
    refine s_lstore_n (pc := 15) (i := 2) dX11_power_15 rfl (Nat.le_of_ble_eq_true rfl) ?_
    dsimp only [List.set, List.filter]
    refine m_inc (pc := 16) (v := 1) dX11_power_16 rfl rfl ?_
    dsimp only [List.set, List.filter]
    rw [nI_1]
    refine s_goto (pc := 19) (tgt := 5) dX11_power_19 rfl ?_
    exact ih (i + 1)  (by omega)
theorem c_X11_power {m : Nat} (ha : a < 20) (hm : m < 20) (hq : Q (.inl (some (.long (lN (a ^ m))))) (Z I J n w)) : Cn g (d + 0) mX11_power [.int (nI a), .int (nI m)] (Z I J n w) Q := by
  show Rn g (d + 0) mX11_power 0 [.int (nI a), .int (nI m), .retAddr 0, .retAddr 0, .retAddr 0] [] [] (Z I J n w) Q
  refine m_lc (pc := 0) (v := 1) dX11_power_0 rfl ?_
  refine s_lstore_n (pc := 1) (i := 2) dX11_power_1 rfl (Nat.le_of_ble_eq_true rfl) ?_
  dsimp only [List.set, List.filter]
  refine m_ic (pc := 2) (v := 0) dX11_power_2 rfl ?_
  refine s_istore (pc := 3) (i := 4) dX11_power_3 (Nat.le_of_ble_eq_true rfl) ?_
  dsimp only [List.set, List.filter]
  exact pow_lp ha hm hq m 0 (by omega)
theorem cho_lp {m : Nat} (ha : a < 13) (hm : m ≤ a) (hq : Q (.inl (some (.long (lN (chs a m))))) (Z I J n w)) : ∀ f i, i + f = m → Rn g (d + 0) mX11_choices 5 [.int (nI a), .int (nI m), .retAddr 0, .retAddr 0, .int (nI i)] [(2, lN (chs a i))] [] (Z I J n w) Q := by
  intro f
  induction f with
  | zero =>
    intro i hi
    have e : m = i := by omega
    subst e
    refine s_iload (pc := 5) (i := 4) dX11_choices_5 rfl ?_
    refine s_iload_n (pc := 7) (i := 1) dX11_choices_7 rfl rfl ?_
    refine s_icge (pc := 8) (tgt := 31) dX11_choices_8 rfl (fun h8 => ?_) (fun h8 => absurd (nI_le (a := m) (b := m) (by omega) (by omega)) h8)
    refine s_lload_n (pc := 31) (i := 2) dX11_choices_31 rfl (List.Mem.head _) ?_
    refine s_lreturn (pc := 32) dX11_choices_32 rfl ?_
    exact hq
  | succ f ih =>
    intro i hi
    refine s_iload (pc := 5) (i := 4) dX11_choices_5 rfl ?_
    refine s_iload_n (pc := 7) (i := 1) dX11_choices_7 rfl rfl ?_
    refine s_icge (pc := 8) (tgt := 31) dX11_choices_8 rfl (fun h8 => absurd h8 (nI_ge (a := i) (b := m) (by omega) (by omega))) (fun h8 => ?_)
    refine s_lload_n (pc := 11) (i := 2) dX11_choices_11 rfl (List.Mem.head _) ?_
    refine s_iload_n (pc := 12) (i := 0) dX11_choices_12 rfl rfl ?_
    refine s_iload (pc := 13) (i := 4) dX11_choices_13 rfl ?_
    refine s_isub (pc := 15) dX11_choices_15 ?_
    refine m_nm (v' := nI (a - i)) (pk_sub (by omega)) ?_
    refine s_i2l (pc := 16) dX11_choices_16 ?_
    refine m_nl (v' := lN (a - i)) (nI_l (by omega)) ?_
    refine s_lmul (pc := 17) dX11_choices_17 ?_
    refine m_nl (v' := lN (chs a i * (a - i))) (lN_mul _ _) ?_
    refine s_iload (pc := 18) (i := 4) dX11_choices_18 rfl ?_
    refine m_ic (pc := 20) (v := 1) dX11_choices_20 rfl ?_
    refine s_iadd (pc := 21) dX11_choices_21 ?_
    refine m_nm (v' := nI (i + 1)) (nI_add i 1) ?_
    refine s_i2l (pc := 22) dX11_choices_22 ?_
    refine m_nl (v' := lN (i + 1)) (nI_l (by omega)) ?_
    refine s_ldiv (pc := 23) dX11_choices_23 (lN_n0 (n := i + 1) (by omega) (by omega)) ?_
    refine m_nl (v' := lN (chs a (i + 1))) (pk_lDiv (chs_b ha (by omega)) (by omega) (by omega)) ?_
    refine s_lstore_n (pc := 24) (i := 2) dX11_choices_24 rfl (Nat.le_of_ble_eq_true rfl) ?_
    dsimp only [List.set, List.filter]
    refine m_inc (pc := 25) (v := 1) dX11_choices_25 rfl rfl ?_
    dsimp only [List.set, List.filter]
    rw [nI_1]
    refine s_goto (pc := 28) (tgt := 5) dX11_choices_28 rfl ?_
    exact ih (i + 1)  (by omega)
theorem c_X11_choices {m : Nat} (ha : a < 13) (hm : m ≤ a) (hq : Q (.inl (some (.long (lN (chs a m))))) (Z I J n w)) : Cn g (d + 0) mX11_choices [.int (nI a), .int (nI m)] (Z I J n w) Q := by
  show Rn g (d + 0) mX11_choices 0 [.int (nI a), .int (nI m), .retAddr 0, .retAddr 0, .retAddr 0] [] [] (Z I J n w) Q
  refine m_lc (pc := 0) (v := 1) dX11_choices_0 rfl ?_
  refine s_lstore_n (pc := 1) (i := 2) dX11_choices_1 rfl (Nat.le_of_ble_eq_true rfl) ?_
  dsimp only [List.set, List.filter]
  refine m_ic (pc := 2) (v := 0) dX11_choices_2 rfl ?_
  refine s_istore (pc := 3) (i := 4) dX11_choices_3 (Nat.le_of_ble_eq_true rfl) ?_
  dsimp only [List.set, List.filter]
  exact cho_lp ha hm hq m 0 (by omega)
def trm (n q j : Nat) : Nat := chs n j * q ^ j * (16 - q) ^ (n - j)
def lsS (n q k : Nat) (i : Nat) : Nat := fb_sm (fun j => if k ≤ j then trm n q j else 0) i
theorem lsS_1 {n q k i : Nat} (h : k ≤ i) : lsS n q k (i + 1) = lsS n q k i + trm n q i := by show lsS n q k i + (if k ≤ i then trm n q i else 0) = _; rw [if_pos h]
theorem lsS_0 {n q k : Nat} : ∀ i, i ≤ k → lsS n q k i = 0
  | 0, _ => rfl
  | i + 1, h => by show lsS n q k i + (if k ≤ i then trm n q i else 0) = _; rw [if_neg (by omega), lsS_0 i (by omega)]
def lsA (n q k : Nat) : Nat := lsS n q k (max k (n + 1))
theorem trm_le {n q j : Nat} (hn : n < 13) (hq : q ≤ 16) (hj : j ≤ n) : trm n q j ≤ 924 * 16 ^ 12 := by
  have h1 : q ^ j * (16 - q) ^ (n - j) ≤ 16 ^ 12 := by
    have e : 16 ^ j * 16 ^ (n - j) = 16 ^ n := by rw [← Nat.pow_add]; congr 1; omega
    refine Nat.le_trans (Nat.mul_le_mul (Nat.pow_le_pow_left hq j) (Nat.pow_le_pow_left (Nat.sub_le 16 q) (n - j))) ?_
    rw [e]; exact Nat.pow_le_pow_right (by decide) (by omega)
  unfold trm
  rw [Nat.mul_assoc]; exact Nat.mul_le_mul (chs_le n hn j (by omega)) h1
theorem lsS_le {n q k M : Nat} (hT : ∀ j, j ≤ n → trm n q j ≤ M) : ∀ i, i ≤ n + 1 → lsS n q k i ≤ i * M
  | 0, _ => Nat.zero_le _
  | i + 1, h => by
    have h1 := lsS_le (k := k) hT i (by omega)
    have h2 := hT i (by omega)
    have h3 : lsS n q k (i + 1) = lsS n q k i + (if k ≤ i then trm n q i else 0) := rfl
    rw [h3, Nat.add_mul, Nat.one_mul]; split <;> omega
theorem lsA_b {n q k : Nat} (hn : n < 13) (hq : q ≤ 16) : lsA n q k < 2 ^ 62 := by
  unfold lsA
  by_cases h : k ≤ n + 1
  · rw [Nat.max_eq_right h]
    exact Nat.lt_of_le_of_lt (lsS_le (fun j hj => trm_le hn hq hj) (n + 1) (Nat.le_refl _)) (Nat.lt_of_le_of_lt (Nat.mul_le_mul (show n + 1 ≤ 13 by omega) (Nat.le_refl _)) (by decide))
  · rw [Nat.max_eq_left (by omega), lsS_0 k (Nat.le_refl _)]; decide
/-- halves as long as both are even -/
def hv2 : Nat → Nat → Nat × Nat
  | 0, s => (s, 1)
  | m + 1, s => if s % 2 = 0 then hv2 m (s / 2) else (s, 2 ^ (m + 1))
def vLs (n k q e : Nat) : Int64 := if e = 0 then lN (hv2 (4 * n) (lsA n q k)).1 else lN (hv2 (4 * n) (lsA n q k)).2
theorem hv_lp {q e : Nat} (he : e < 2) : ∀ m s, m ≤ 60 → s < 2 ^ 63 → Q (.inl (some (.long (if e = 0 then lN (hv2 m s).1 else lN (hv2 m s).2)))) (Z I J n w) → Rn g (d + 8) mX11_lies 87 [.ref 1, .int (nI a), .int (nI k), .int (nI q), .int (nI e), .retAddr 0, .retAddr 0, .retAddr 0, .retAddr 0] [(7, lN (2 ^ m)), (5, lN s)] [] (Z I J n w) Q := by
  intro m
  induction m with
  | zero =>
    intro s hm hs hq
    rw [hv2] at hq
    refine s_lload (pc := 87) (i := 7) dX11_lies_87 (List.Mem.head _) ?_
    refine m_lc (pc := 89) (v := 1) dX11_lies_89 rfl ?_
    refine s_lcmp (pc := 90) dX11_lies_90 ?_
    refine s_ifle (pc := 91) (tgt := 124) dX11_lies_91 rfl (fun h91 => ?_) (fun h91 => absurd ((lg_cmp_le _ _).mpr ((pk_lLE (a := 1) (b := 1) (by decide) (by decide)).mpr (Nat.le_refl _))) h91)
    refine s_iload (pc := 124) (i := 4) dX11_lies_124 rfl ?_
    refine s_ifne (pc := 126) (tgt := 134) dX11_lies_126 rfl (fun h126 => ?_) (fun h126 => ?_)
    · have h126 : ¬ e = 0 := fun z => h126 ((nI_eq (a := e) (b := 0) (by omega) (by omega)).mpr z)
      refine s_lload (pc := 134) (i := 7) dX11_lies_134 (List.Mem.head _) ?_
      refine s_lreturn (pc := 136) dX11_lies_136 rfl ?_
      rw [if_neg h126] at hq; exact hq
    · have h126 : e = 0 := (nI_eq (a := e) (b := 0) (by omega) (by omega)).mp h126
      refine s_lload (pc := 129) (i := 5) dX11_lies_129 (List.Mem.tail _ (List.Mem.head _)) ?_
      refine s_goto (pc := 131) (tgt := 136) dX11_lies_131 rfl ?_
      refine s_lreturn (pc := 136) dX11_lies_136 rfl ?_
      rw [if_pos h126] at hq; exact hq
  | succ m ih =>
    intro s hm hs hq
    have hp : 2 ^ (m + 1) < 2 ^ 63 := Nat.pow_lt_pow_right (by decide) (by omega)
    have hp1 : 1 < 2 ^ (m + 1) := Nat.one_lt_two_pow (by omega)
    rw [hv2] at hq
    by_cases hE : s % 2 = 0
    · rw [if_pos hE] at hq
      refine s_lload (pc := 87) (i := 7) dX11_lies_87 (List.Mem.head _) ?_
      refine m_lc (pc := 89) (v := 1) dX11_lies_89 rfl ?_
      refine s_lcmp (pc := 90) dX11_lies_90 ?_
      refine s_ifle (pc := 91) (tgt := 124) dX11_lies_91 rfl (fun h91 => absurd h91 (fun z => absurd ((pk_lLE (b := 1) hp (by decide)).mp ((lg_cmp_le _ _).mp z)) (by omega))) (fun h91 => ?_)
      refine s_lload (pc := 94) (i := 5) dX11_lies_94 (List.Mem.tail _ (List.Mem.head _)) ?_
      refine s_ldc2 (pc := 96) dX11_lies_96 ct_X11_357 ?_
      refine s_lrem (pc := 99) dX11_lies_99 (by decide) ?_
      refine m_nl (v' := lN (s % 2)) (pk_lRem (b := 2) hs (by decide) (by decide)) ?_
      refine m_lc (pc := 100) (v := 0) dX11_lies_100 rfl ?_
      refine s_lcmp (pc := 101) dX11_lies_101 ?_
      refine s_ifne (pc := 102) (tgt := 124) dX11_lies_102 rfl (fun h102 => absurd ((lg_cmp_eq _ _).mpr (by rw [hE]; rfl)) h102) (fun h102 => ?_)
      refine s_lload (pc := 105) (i := 5) dX11_lies_105 (List.Mem.tail _ (List.Mem.head _)) ?_
      refine s_ldc2 (pc := 107) dX11_lies_107 ct_X11_357 ?_
      refine s_ldiv (pc := 110) dX11_lies_110 (by decide) ?_
      refine m_nl (v' := lN (s / 2)) (pk_lDiv (b := 2) hs (by decide) (by decide)) ?_
      refine s_lstore (pc := 111) (i := 5) dX11_lies_111 (Nat.le_of_ble_eq_true rfl) ?_
      dsimp only [List.set, List.filter]
      refine s_lload (pc := 113) (i := 7) dX11_lies_113 (List.Mem.tail _ (List.Mem.head _)) ?_
      refine s_ldc2 (pc := 115) dX11_lies_115 ct_X11_357 ?_
      refine s_ldiv (pc := 118) dX11_lies_118 (by decide) ?_
      refine m_nl (v' := lN (2 ^ m)) ((pk_lDiv (b := 2) hp (by decide) (by decide)).trans (by rw [Nat.pow_succ, Nat.mul_div_cancel _ (by decide)])) ?_
      refine s_lstore (pc := 119) (i := 7) dX11_lies_119 (Nat.le_of_ble_eq_true rfl) ?_
      dsimp only [List.set, List.filter]
      refine s_goto (pc := 121) (tgt := 87) dX11_lies_121 rfl ?_
      exact ih (s / 2) (by omega) (by omega) hq
    · rw [if_neg hE] at hq
      refine s_lload (pc := 87) (i := 7) dX11_lies_87 (List.Mem.head _) ?_
      refine m_lc (pc := 89) (v := 1) dX11_lies_89 rfl ?_
      refine s_lcmp (pc := 90) dX11_lies_90 ?_
      refine s_ifle (pc := 91) (tgt := 124) dX11_lies_91 rfl (fun h91 => absurd h91 (fun z => absurd ((pk_lLE (b := 1) hp (by decide)).mp ((lg_cmp_le _ _).mp z)) (by omega))) (fun h91 => ?_)
      refine s_lload (pc := 94) (i := 5) dX11_lies_94 (List.Mem.tail _ (List.Mem.head _)) ?_
      refine s_ldc2 (pc := 96) dX11_lies_96 ct_X11_357 ?_
      refine s_lrem (pc := 99) dX11_lies_99 (by decide) ?_
      refine m_nl (v' := lN (s % 2)) (pk_lRem (b := 2) hs (by decide) (by decide)) ?_
      refine m_lc (pc := 100) (v := 0) dX11_lies_100 rfl ?_
      refine s_lcmp (pc := 101) dX11_lies_101 ?_
      refine s_ifne (pc := 102) (tgt := 124) dX11_lies_102 rfl (fun h102 => ?_) (fun h102 => absurd h102 (fun z => hE ((pk_lEQ (a := s % 2) (b := 0) (by omega) (by decide)).mp ((lg_cmp_eq _ _).mp z))))
      refine s_iload (pc := 124) (i := 4) dX11_lies_124 rfl ?_
      refine s_ifne (pc := 126) (tgt := 134) dX11_lies_126 rfl (fun h126 => ?_) (fun h126 => ?_)
      · have h126 : ¬ e = 0 := fun z => h126 ((nI_eq (a := e) (b := 0) (by omega) (by omega)).mpr z)
        refine s_lload (pc := 134) (i := 7) dX11_lies_134 (List.Mem.head _) ?_
        refine s_lreturn (pc := 136) dX11_lies_136 rfl ?_
        rw [if_neg h126] at hq; exact hq
      · have h126 : e = 0 := (nI_eq (a := e) (b := 0) (by omega) (by omega)).mp h126
        refine s_lload (pc := 129) (i := 5) dX11_lies_129 (List.Mem.tail _ (List.Mem.head _)) ?_
        refine s_goto (pc := 131) (tgt := 136) dX11_lies_131 rfl ?_
        refine s_lreturn (pc := 136) dX11_lies_136 rfl ?_
        rw [if_pos h126] at hq; exact hq
theorem lsi_lp {q e : Nat} (ha : a < 13) (hk : k < 14) (hq16 : q < 17) (he : e < 2) (hq : Q (.inl (some (.long (vLs a k q e)))) (Z I J n w)) : ∀ f i, i + f = max k (a + 1) → k ≤ i → Rn g (d + 8) mX11_lies 37 [.ref 1, .int (nI a), .int (nI k), .int (nI q), .int (nI e), .retAddr 0, .retAddr 0, .int (nI i), .retAddr 0] [(5, lN (lsS a q k i))] [] (Z I J n w) Q := by
  intro f
  induction f with
  | zero =>
    intro i hi hM
    have e : max k (a + 1) = i := by omega
    subst e
    refine s_iload (pc := 37) (i := 7) dX11_lies_37 rfl ?_
    refine s_iload_n (pc := 39) (i := 1) dX11_lies_39 rfl rfl ?_
    refine s_icgt (pc := 40) (tgt := 79) dX11_lies_40 rfl (fun h40 => ?_) (fun h40 => absurd (nI_lt (a := a) (b := (max k (a + 1))) (by omega) (by omega)) h40)
    refine m_bi (pc := 79) (v := 16) dX11_lies_79 rfl ?_
    refine s_iload_n (pc := 81) (i := 1) dX11_lies_81 rfl rfl ?_
    refine m_s2 (pc := 82) dX11_lies_82 lk_X11_354 ok_X11_power rfl rfl (c_X11_power (a := 16) (by decide) (by omega) (kt_s ?_))
    refine m_nl (v' := lN (2 ^ (4 * a))) (by rw [Nat.pow_mul]) ?_
    refine s_lstore (pc := 85) (i := 7) dX11_lies_85 (Nat.le_of_ble_eq_true rfl) ?_
    dsimp only [List.set, List.filter]
    exact hv_lp he (4 * a) (lsA a q k) (by omega) (Nat.lt_trans (lsA_b ha (by omega)) (by decide)) hq
  | succ f ih =>
    intro i hi hM
    refine s_iload (pc := 37) (i := 7) dX11_lies_37 rfl ?_
    refine s_iload_n (pc := 39) (i := 1) dX11_lies_39 rfl rfl ?_
    refine s_icgt (pc := 40) (tgt := 79) dX11_lies_40 rfl (fun h40 => absurd h40 (nI_nlt (a := a) (b := i) (by omega) (by omega))) (fun h40 => ?_)
    refine s_lload (pc := 43) (i := 5) dX11_lies_43 (List.Mem.head _) ?_
    refine s_iload_n (pc := 45) (i := 1) dX11_lies_45 rfl rfl ?_
    refine s_iload (pc := 46) (i := 7) dX11_lies_46 rfl ?_
    refine m_s2 (pc := 48) dX11_lies_48 lk_X11_350 ok_X11_choices rfl rfl (c_X11_choices ha (by omega) (kt_s ?_))
    refine s_iload_n (pc := 51) (i := 3) dX11_lies_51 rfl rfl ?_
    refine s_iload (pc := 52) (i := 7) dX11_lies_52 rfl ?_
    refine m_s2 (pc := 54) dX11_lies_54 lk_X11_354 ok_X11_power rfl rfl (c_X11_power (by omega) (by omega) (kt_s ?_))
    refine s_lmul (pc := 57) dX11_lies_57 ?_
    refine m_nl (v' := lN (chs a i * q ^ i)) (lN_mul _ _) ?_
    refine m_bi (pc := 58) (v := 16) dX11_lies_58 rfl ?_
    refine s_iload_n (pc := 60) (i := 3) dX11_lies_60 rfl rfl ?_
    refine s_isub (pc := 61) dX11_lies_61 ?_
    refine m_nm (v' := nI (16 - q)) (pk_sub (a := 16) (b := q) (by omega)) ?_
    refine s_iload_n (pc := 62) (i := 1) dX11_lies_62 rfl rfl ?_
    refine s_iload (pc := 63) (i := 7) dX11_lies_63 rfl ?_
    refine s_isub (pc := 65) dX11_lies_65 ?_
    refine m_nm (v' := nI (a - i)) (pk_sub (by omega)) ?_
    refine m_s2 (pc := 66) dX11_lies_66 lk_X11_354 ok_X11_power rfl rfl (c_X11_power (by omega) (by omega) (kt_s ?_))
    refine s_lmul (pc := 69) dX11_lies_69 ?_
    refine m_nl (v' := lN (trm a q i)) (lN_mul _ _) ?_
    refine s_ladd (pc := 70) dX11_lies_70 ?_
    refine m_nl (v' := lN (lsS a q k (i + 1))) ((lN_add _ _).trans (by rw [lsS_1 hM])) ?_
    refine s_lstore (pc := 71) (i := 5) dX11_lies_71 (Nat.le_of_ble_eq_true rfl) ?_
    dsimp only [List.set, List.filter]
    refine m_inc (pc := 73) (v := 1) dX11_lies_73 rfl rfl ?_
    dsimp only [List.set, List.filter]
    rw [nI_1]
    refine s_goto (pc := 76) (tgt := 37) dX11_lies_76 rfl ?_
    exact ih (i + 1) (by omega) (by omega)
theorem c_X11_lies (hW : Wc I 33 D cs S) (hn : n + 1 ≤ 600000 ∧ w + 6 ≤ 7000000) {x y z u : Int32} (r0 : ¬ iv 0 (13) x → Q (.inr 1) (Z (up I 1 18 (I 1 18 + 1)) J (n + 1) (w + 6))) (r1 : iv 0 (13) x → ¬ iv 0 (14) y → Q (.inr 1) (Z (up I 1 18 (I 1 18 + 1)) J (n + 1) (w + 6))) (r2 : iv 0 (13) x → iv 0 (14) y → ¬ iv 0 (17) z → Q (.inr 1) (Z (up I 1 18 (I 1 18 + 1)) J (n + 1) (w + 6))) (r3 : iv 0 (13) x → iv 0 (14) y → iv 0 (17) z → ¬ iv 0 (2) u → Q (.inr 1) (Z (up I 1 18 (I 1 18 + 1)) J (n + 1) (w + 6))) (hg : ∀ a, ∀ k, ∀ q, ∀ e, x = nI a → a < 13 → y = nI k → k < 14 → z = nI q → q < 17 → u = nI e → e < 2 → ∀ I', kc I I' → Q (.inl (some (.long (vLs a k q e)))) (Z I' J n w)) : Cn g (d + 8) mX11_lies [.ref 1, .int x, .int y, .int z, .int u] (Z I J n w) Q := by
  have hb7 := hW.2.1.1
  have hc12 := hW.2.1.2.1
  show Rn g (d + 8) mX11_lies 0 [.ref 1, .int x, .int y, .int z, .int u, .retAddr 0, .retAddr 0, .retAddr 0, .retAddr 0] [] [] (Z I J n w) Q
  refine s_aload_n (pc := 0) (i := 0) dX11_lies_0 rfl rfl ?_
  refine s_iload_n (pc := 1) (i := 1) dX11_lies_1 rfl rfl ?_
  refine m_ic (pc := 2) (v := 0) dX11_lies_2 rfl ?_
  refine m_bi (pc := 3) (v := 12) dX11_lies_3 rfl ?_
  refine m_v3 (pc := 5) dX11_lies_5 lk_X11_267 ok_X11_needRange (rcO o_1 (by decide) rfl) rfl rfl (c_nr (lo := 0) (m := 13) rfl rfl (by omega) hn (fun a ea la ha => kt_v ?_) (fun z => kt_x ?_))
  · subst ea
    refine s_aload_n (pc := 8) (i := 0) dX11_lies_8 rfl rfl ?_
    refine s_iload_n (pc := 9) (i := 2) dX11_lies_9 rfl rfl ?_
    refine m_ic (pc := 10) (v := 0) dX11_lies_10 rfl ?_
    refine m_bi (pc := 11) (v := 13) dX11_lies_11 rfl ?_
    refine m_v3 (pc := 13) dX11_lies_13 lk_X11_267 ok_X11_needRange (rcO o_1 (by decide) rfl) rfl rfl (c_nr (lo := 0) (m := 14) rfl rfl (by omega) hn (fun k ek lk hk => kt_v ?_) (fun z => kt_x ?_))
    · subst ek
      refine s_aload_n (pc := 16) (i := 0) dX11_lies_16 rfl rfl ?_
      refine s_iload_n (pc := 17) (i := 3) dX11_lies_17 rfl rfl ?_
      refine m_ic (pc := 18) (v := 0) dX11_lies_18 rfl ?_
      refine m_bi (pc := 19) (v := 16) dX11_lies_19 rfl ?_
      refine m_v3 (pc := 21) dX11_lies_21 lk_X11_267 ok_X11_needRange (rcO o_1 (by decide) rfl) rfl rfl (c_nr (lo := 0) (m := 17) rfl rfl (by omega) hn (fun q eq lq hq => kt_v ?_) (fun z => kt_x ?_))
      · subst eq
        refine s_aload_n (pc := 24) (i := 0) dX11_lies_24 rfl rfl ?_
        refine s_iload (pc := 25) (i := 4) dX11_lies_25 rfl ?_
        refine m_ic (pc := 27) (v := 2) dX11_lies_27 rfl ?_
        refine m_v2 (pc := 28) dX11_lies_28 lk_X11_181 ok_X11_needWhat (rcO o_1 (by decide) rfl) rfl rfl (c_nw (m := 2) rfl (by decide) hn (fun e ee he => kt_v ?_) (fun z => kt_x ?_))
        · subst ee
          refine m_lc (pc := 31) (v := 0) dX11_lies_31 rfl ?_
          refine s_lstore (pc := 32) (i := 5) dX11_lies_32 (Nat.le_of_ble_eq_true rfl) ?_
          dsimp only [List.set, List.filter]
          refine s_iload_n (pc := 34) (i := 2) dX11_lies_34 rfl rfl ?_
          refine s_istore (pc := 35) (i := 7) dX11_lies_35 (Nat.le_of_ble_eq_true rfl) ?_
          dsimp only [List.set, List.filter]
          have h := lsi_lp (g := g) (d := d) (I := I) (J := J) (n := n) (w := w) ha hk hq he (hg a k q e rfl ha rfl hk rfl hq rfl he I kc_r) (max k (a + 1) - k) k (by omega) (Nat.le_refl _)
          rw [lsS_0 k (Nat.le_refl _)] at h; exact h
        · exact r3 ⟨a, rfl, Nat.zero_le _, ha⟩ ⟨k, rfl, Nat.zero_le _, hk⟩ ⟨q, rfl, Nat.zero_le _, hq⟩ z
      · exact r2 ⟨a, rfl, Nat.zero_le _, ha⟩ ⟨k, rfl, Nat.zero_le _, hk⟩ z
    · exact r1 ⟨a, rfl, Nat.zero_le _, ha⟩ z
  · exact r0  z
end S
