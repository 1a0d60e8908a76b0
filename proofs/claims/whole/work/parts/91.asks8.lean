section S
variable {g : aG} {d : Nat} {I : Nat → Nat → Int32} {J : Nat → Nat → Int64} {n w : Nat} {Q : aO → aS → Prop}
variable {σ : aS} {S : sD} {D : cD} {cs : List Nat} {b c k v : Nat}
theorem nb_iv {x : Int32} {m : Nat} (hm : m ≤ 12) : x &&& (nI (bs (fun _ => true) m) ^^^ -1) = 0 ↔ iv 0 (2 ^ m) x := by
  obtain ⟨v, hv, e⟩ := wb_of32 x
  subst e
  have hb : ∀ i, i < 32 → bt (nI v &&& (nI (bs (fun _ => true) m) ^^^ -1)) i = (v.testBit i && !decide (i < m)) := fun i hi => by
    rw [b_and, b_xor, b_m1 i hi, bt_nI, bt_bs _ (by omega)]
    simp [hi]
  have hp : 2 ^ m ≤ 2 ^ 12 := Nat.pow_le_pow_right (by decide) hm
  constructor
  · intro z
    refine ⟨v, rfl, Nat.zero_le _, Nat.lt_pow_two_of_testBit v (fun i hi => ?_)⟩
    by_cases h32 : i < 32
    · have h1 := hb i h32
      rw [z, b_0] at h1
      cases h2 : v.testBit i with
      | false => rfl
      | true => rw [h2] at h1; simp at h1; omega
    · exact Nat.testBit_lt_two_pow (Nat.lt_of_lt_of_le hv (Nat.pow_le_pow_right (by decide) (by omega)))
  · rintro ⟨u, e, _, hu⟩
    have e2 : v = u := by
      have h1 : (nI v).toBitVec.toNat = (nI u).toBitVec.toNat := congrArg (fun y : Int32 => y.toBitVec.toNat) e
      rw [pk_tn hv, pk_tn (by omega)] at h1; exact h1
    subst e2
    refine b_ext (fun i hi => ?_)
    rw [hb i hi, b_0]
    by_cases z : i < m
    · simp [z]
    · rw [Nat.testBit_lt_two_pow (Nat.lt_of_lt_of_le hu (Nat.pow_le_pow_right (by decide) (by omega)))]; rfl
theorem c_nbits {x y : Int32} {m : Nat} (hy : y = nI (bs (fun _ => true) m)) (hm : m ≤ 12) (hn : n + 1 ≤ 600000 ∧ w + 6 ≤ 7000000) (hg : ∀ v, x = nI v → v < 2 ^ m → Q (.inl none) (Z I J n w)) (hb : ¬ iv 0 (2 ^ m) x → Q (.inr 1) (Z (up I 1 18 (I 1 18 + 1)) J (n + 1) (w + 6))) : Cn g (d + 6) mX11_needBits [.ref 1, .int x, .int y] (Z I J n w) Q :=
  c_X11_needBits hn (fun z => by rw [hy, nb_iv hm] at z; obtain ⟨v, e, _, h⟩ := z; exact hg v e h) (fun z => hb (fun u => z (by rw [hy, nb_iv hm]; exact u)))
theorem p12 {m : Nat} (hm : m ≤ 12) : 2 ^ m ≤ 4096 := Nat.pow_le_pow_right (by decide) hm
theorem tb_1 {i : Nat} (hv : v < 4096) (hi : i < 32) : (nI v >>> (nI i &&& 31)) &&& 1 = if v.testBit i = true then 1 else 0 := bit_nI (by omega) hi
theorem tb_m {i u : Nat} : (if v.testBit i = true then (1 : Int32) else 0) * nI u = nI (if v.testBit i = true then u else 0) := by
  split
  · rw [show (1 : Int32) = nI 1 from rfl, pk_mul, Nat.one_mul]
  · rw [show (0 : Int32) = nI 0 from rfl, pk_mul, Nat.zero_mul]
/-- sums over those in a set -/
def sms (v : Nat) (f : Nat → Nat) (m : Nat) : Nat := fb_sm (fun b => if v.testBit b = true then f b else 0) m
theorem sms_1 {f : Nat → Nat} {i : Nat} : sms v f (i + 1) = sms v f i + (if v.testBit i = true then f i else 0) := rfl
theorem sms_le {f : Nat → Nat} {M : Nat} : ∀ m, (∀ i, i < m → f i ≤ M) → sms v f m ≤ m * M
  | 0, _ => Nat.zero_le _
  | m + 1, h => by
    have h1 := sms_le m (fun i hi => h i (by omega))
    have h2 := h m (by omega)
    rw [sms_1, Nat.add_mul, Nat.one_mul]
    split <;> omega
theorem sms_c {f f' : Nat → Nat} : ∀ m, (∀ i, i < m → f i = f' i) → sms v f m = sms v f' m
  | 0, _ => rfl
  | m + 1, h => by rw [sms_1, sms_1, sms_c m (fun i hi => h i (by omega)), h m (by omega)]
theorem sms_mono {f f' : Nat → Nat} : ∀ m, (∀ i, i < m → f i ≤ f' i) → sms v f m ≤ sms v f' m
  | 0, _ => Nat.le_refl _
  | m + 1, h => by
    have h1 := sms_mono m (fun i hi => h i (by omega))
    have h2 := h m (by omega)
    rw [sms_1, sms_1]; split <;> omega
/-- how much balm a bound takes -/
def gvn (D : cD) (S : sD) (v x : Nat) : Nat := sms v (fun b => min (sT S b) x) (cb D)
theorem gvn_le (h : sOk D S) (hk : cOk D) {x : Nat} : gvn D S v x ≤ 1890 := by
  have h1 := sms_le (v := v) (f := fun b => min (sT S b) x) (M := 270) (cb D) (fun i _ => Nat.le_trans (Nat.min_le_left _ _) (h.1 i).1)
  have h2 := hk.1
  unfold gvn; omega
theorem gvn_mono {x y : Nat} (h : x ≤ y) : gvn D S v x ≤ gvn D S v y := sms_mono _ (fun i _ => by omega)
theorem gvn_0 : gvn D S v 0 = 0 := by
  have h : ∀ m, sms v (fun b => min (sT S b) 0) m = 0 := fun m => by
    induction m with
    | zero => rfl
    | succ m ih => rw [sms_1, ih]; simp
  exact h _
/-- the greatest bound below M that the balm suffices for -/
def gbn (D : cD) (S : sD) (v k : Nat) : Nat → Nat
  | 0 => 0
  | M + 1 => if gvn D S v (M + 1) ≤ k then M + 1 else gbn D S v k M
theorem gbn_le : ∀ M, gbn D S v k M ≤ M
  | 0 => Nat.le_refl _
  | M + 1 => by
    rw [gbn]; split
    · exact Nat.le_refl _
    · exact Nat.le_succ_of_le (gbn_le M)
theorem gbn_ok : ∀ M, gvn D S v (gbn D S v k M) ≤ k
  | 0 => by rw [gbn, gvn_0]; exact Nat.zero_le _
  | M + 1 => by
    rw [gbn]; split
    · assumption
    · exact gbn_ok M
theorem gbn_no : ∀ M y, gbn D S v k M < y → y ≤ M → k < gvn D S v y
  | 0, y, h, h2 => by omega
  | M + 1, y, h, h2 => by
    rw [gbn] at h
    split at h
    · omega
    · rename_i z
      by_cases e : y = M + 1
      · subst e; omega
      · exact gbn_no M y h (by omega)
theorem gbn_min {T M : Nat} (h : T ≤ M) : gbn D S v k T = min T (gbn D S v k M) := by
  have a1 := gbn_le (D := D) (S := S) (v := v) (k := k) T
  have a2 := gbn_ok (D := D) (S := S) (v := v) (k := k) T
  have b1 := gbn_le (D := D) (S := S) (v := v) (k := k) M
  have b2 := gbn_ok (D := D) (S := S) (v := v) (k := k) M
  by_cases z : gbn D S v k M ≤ T
  · rw [Nat.min_eq_right z]
    by_cases y : gbn D S v k M < gbn D S v k T
    · have := gbn_no M _ y (by omega); omega
    · by_cases y2 : gbn D S v k T < gbn D S v k M
      · have := gbn_no T _ y2 z; omega
      · omega
  · rw [Nat.min_eq_left (by omega)]
    by_cases y : gbn D S v k T < T
    · have h1 := gbn_no T T y (Nat.le_refl _)
      have h2 := gvn_mono (D := D) (S := S) (v := v) (x := T) (y := gbn D S v k M) (by omega)
      omega
    · omega
def vBlm (D : cD) (S : sD) (b v k : Nat) : Int32 := if v.testBit b = true then nI (gbn D S v k (sT S b)) else 0
theorem min_d {a b : Nat} (ha : a < 2 ^ 20) (hb : b < 2 ^ 20) : (if nI b < nI a then nI b else nI a) = nI (min a b) := by
  by_cases h : b < a
  · rw [if_pos (nI_lt h (by omega)), Nat.min_eq_right (by omega)]
  · rw [if_neg (nI_nlt (by omega) (by omega)), Nat.min_eq_left (by omega)]
theorem bg_lp {y : Nat} (hW : Wc I 33 D cs S) (hv : v < 4096) (hy : y ≤ 1000) (hq : Q (.inl (some (.int (nI (gvn D S v y))))) (Z I J n w)) : ∀ f i, i + f = cb D → Rn g (d + 1) mX11_balmGiven 5 [.ref 1, .int (nI v), .int (nI y), .int (nI (sms v (fun b => min (sT S b) y) i)), .int (nI i)] [] [] (Z I J n w) Q := by
  intro f
  induction f with
  | zero =>
    intro i hi
    have e : cb D = i := by omega
    subst e
    have hb7 := hW.2.1.1
    have hc12 := hW.2.1.2.1
    refine s_iload (pc := 5) (i := 4) dX11_balmGiven_5 rfl ?_
    refine s_aload_n (pc := 7) (i := 0) dX11_balmGiven_7 rfl rfl ?_
    refine m_gr (pc := 8) dX11_balmGiven_8 ff_X11_19 rfl o_1 r_1_1 ?_
    refine m_gi (pc := 11) dX11_balmGiven_11 ff_X11_143 rfl o_4 ?_
    refine m_nm (v' := nI (cb D)) (hW.1.1) ?_
    refine s_icge (pc := 14) (tgt := 47) dX11_balmGiven_14 rfl (fun h14 => ?_) (fun h14 => absurd (nI_le (a := cb D) (b := (cb D)) (by omega) (by omega)) h14)
    refine s_iload_n (pc := 47) (i := 3) dX11_balmGiven_47 rfl rfl ?_
    refine s_ireturn (pc := 48) dX11_balmGiven_48 rfl rfl ?_
    exact hq
  | succ f ih =>
    intro i hi
    have hb7 := hW.2.1.1
    have hc12 := hW.2.1.2.1
    refine s_iload (pc := 5) (i := 4) dX11_balmGiven_5 rfl ?_
    refine s_aload_n (pc := 7) (i := 0) dX11_balmGiven_7 rfl rfl ?_
    refine m_gr (pc := 8) dX11_balmGiven_8 ff_X11_19 rfl o_1 r_1_1 ?_
    refine m_gi (pc := 11) dX11_balmGiven_11 ff_X11_143 rfl o_4 ?_
    refine m_nm (v' := nI (cb D)) (hW.1.1) ?_
    refine s_icge (pc := 14) (tgt := 47) dX11_balmGiven_14 rfl (fun h14 => absurd h14 (nI_ge (a := i) (b := cb D) (by omega) (by omega))) (fun h14 => ?_)
    have hT := (hW.2.2.2.2.2.1 i).1
    refine s_iload_n (pc := 17) (i := 3) dX11_balmGiven_17 rfl rfl ?_
    refine s_iload_n (pc := 18) (i := 1) dX11_balmGiven_18 rfl rfl ?_
    refine s_iload (pc := 19) (i := 4) dX11_balmGiven_19 rfl ?_
    refine s_ishr (pc := 21) dX11_balmGiven_21 ?_
    refine m_ic (pc := 22) (v := 1) dX11_balmGiven_22 rfl ?_
    refine s_iand (pc := 23) dX11_balmGiven_23 ?_
    refine m_nm (v' := if v.testBit i = true then 1 else 0) (tb_1 hv (by omega)) ?_
    refine s_aload_n (pc := 24) (i := 0) dX11_balmGiven_24 rfl rfl ?_
    refine m_gr (pc := 25) dX11_balmGiven_25 ff_X11_73 rfl o_1 r_1_10 ?_
    refine m_gr (pc := 28) dX11_balmGiven_28 ff_X11_224 rfl o_33 r_33_0 ?_
    refine s_iload (pc := 31) (i := 4) dX11_balmGiven_31 rfl ?_
    refine m_ia (pc := 33) dX11_balmGiven_33 a_34 (vp_in_nI (n := i) (by omega) (by decide)) ?_
    refine m_nm (v' := nI (sT S i)) (rdI (j := i) ((hW.2.2.2.2.1.1 i (by omega)).1) (by omega)) ?_
    refine s_iload_n (pc := 34) (i := 2) dX11_balmGiven_34 rfl rfl ?_
    refine m_min (pc := 35) dX11_balmGiven_35 ml_X11_383 (Nat.le_of_ble_eq_true rfl) ?_
    refine m_nm (v' := nI (min (sT S i) y)) (min_d (by omega) (by omega)) ?_
    refine s_imul (pc := 38) dX11_balmGiven_38 ?_
    refine m_nm (v' := nI (if v.testBit i = true then min (sT S i) y else 0)) (tb_m) ?_
    refine s_iadd (pc := 39) dX11_balmGiven_39 ?_
    refine m_nm (v' := nI (sms v (fun b => min (sT S b) y) (i + 1))) (nI_add _ _) ?_
    refine s_istore_n (pc := 40) (i := 3) dX11_balmGiven_40 rfl (Nat.le_of_ble_eq_true rfl) ?_
    dsimp only [List.set, List.filter]
    refine m_inc (pc := 41) (v := 1) dX11_balmGiven_41 rfl rfl ?_
    dsimp only [List.set, List.filter]
    rw [nI_1]
    refine s_goto (pc := 44) (tgt := 5) dX11_balmGiven_44 rfl ?_
    exact ih (i + 1)  (by omega)
theorem c_X11_balmGiven {y : Nat} (hW : Wc I 33 D cs S) (hv : v < 4096) (hy : y ≤ 1000) (hq : Q (.inl (some (.int (nI (gvn D S v y))))) (Z I J n w)) : Cn g (d + 1) mX11_balmGiven [.ref 1, .int (nI v), .int (nI y)] (Z I J n w) Q := by
  show Rn g (d + 1) mX11_balmGiven 0 [.ref 1, .int (nI v), .int (nI y), .retAddr 0, .retAddr 0] [] [] (Z I J n w) Q
  refine m_ic (pc := 0) (v := 0) dX11_balmGiven_0 rfl ?_
  refine s_istore_n (pc := 1) (i := 3) dX11_balmGiven_1 rfl (Nat.le_of_ble_eq_true rfl) ?_
  dsimp only [List.set, List.filter]
  refine m_ic (pc := 2) (v := 0) dX11_balmGiven_2 rfl ?_
  refine s_istore (pc := 3) (i := 4) dX11_balmGiven_3 (Nat.le_of_ble_eq_true rfl) ?_
  dsimp only [List.set, List.filter]
  exact bg_lp hW hv hy hq (cb D) 0 (by omega)
theorem gbn_T {y T : Nat} (h1 : y ≤ T) (h2 : gvn D S v y ≤ k) (h3 : y = T ∨ k < gvn D S v (y + 1)) : gbn D S v k T = y := by
  have a1 := gbn_le (D := D) (S := S) (v := v) (k := k) T
  have a2 := gbn_ok (D := D) (S := S) (v := v) (k := k) T
  by_cases z : gbn D S v k T < y
  · have := gbn_no T y z h1; omega
  · rcases h3 with h3 | h3
    · omega
    · by_cases z2 : y < gbn D S v k T
      · have := gvn_mono (D := D) (S := S) (v := v) (x := y + 1) (y := gbn D S v k T) (by omega); omega
      · omega
theorem bal_lp (hW : Wc I 33 D cs S) (hb : b < cb D) (hv : v < 4096) (hk : k < 10000) (hq : Q (.inl (some (.int (nI (gbn D S v k (sT S b)))))) (Z I J n w)) : ∀ f i, i + f = sT S b → gvn D S v i ≤ k → Rn g (d + 8) mX11_balm 39 [.ref 1, .int (nI b), .int (nI v), .int (nI k), .int (nI i)] [] [] (Z I J n w) Q := by
  have hb7 := hW.2.1.1
  have hT := (hW.2.2.2.2.2.1 b).1
  intro f
  induction f with
  | zero =>
    intro i hi hG
    rw [gbn_T (y := i) (by omega) hG (Or.inl (by omega))] at hq
    refine s_iload (pc := 39) (i := 4) dX11_balm_39 rfl ?_
    refine s_aload_n (pc := 41) (i := 0) dX11_balm_41 rfl rfl ?_
    refine m_gr (pc := 42) dX11_balm_42 ff_X11_73 rfl o_1 r_1_10 ?_
    refine m_gr (pc := 45) dX11_balm_45 ff_X11_224 rfl o_33 r_33_0 ?_
    refine s_iload_n (pc := 48) (i := 1) dX11_balm_48 rfl rfl ?_
    refine m_ia (pc := 49) dX11_balm_49 a_34 (vp_in_nI (n := b) (by omega) (by decide)) ?_
    refine m_nm (v' := nI (sT S b)) (rdI (j := b) ((hW.2.2.2.2.1.1 b (by omega)).1) (by omega)) ?_
    refine s_icge (pc := 50) (tgt := 72) dX11_balm_50 rfl (fun h50 => ?_) (fun h50 => absurd (nI_le (a := sT S b) (b := i) (by omega) (by omega)) h50)
    refine s_iload (pc := 72) (i := 4) dX11_balm_72 rfl ?_
    refine s_ireturn (pc := 74) dX11_balm_74 rfl rfl ?_
    exact hq
  | succ f ih =>
    intro i hi hG
    have hG2 := gvn_le (D := D) (S := S) (v := v) hW.2.2.2.2.2 hW.2.1 (x := i + 1)
    refine s_iload (pc := 39) (i := 4) dX11_balm_39 rfl ?_
    refine s_aload_n (pc := 41) (i := 0) dX11_balm_41 rfl rfl ?_
    refine m_gr (pc := 42) dX11_balm_42 ff_X11_73 rfl o_1 r_1_10 ?_
    refine m_gr (pc := 45) dX11_balm_45 ff_X11_224 rfl o_33 r_33_0 ?_
    refine s_iload_n (pc := 48) (i := 1) dX11_balm_48 rfl rfl ?_
    refine m_ia (pc := 49) dX11_balm_49 a_34 (vp_in_nI (n := b) (by omega) (by decide)) ?_
    refine m_nm (v' := nI (sT S b)) (rdI (j := b) ((hW.2.2.2.2.1.1 b (by omega)).1) (by omega)) ?_
    refine s_icge (pc := 50) (tgt := 72) dX11_balm_50 rfl (fun h50 => absurd h50 (nI_ge (a := i) (b := sT S b) (by omega) (by omega))) (fun h50 => ?_)
    refine s_aload_n (pc := 53) (i := 0) dX11_balm_53 rfl rfl ?_
    refine s_iload_n (pc := 54) (i := 2) dX11_balm_54 rfl rfl ?_
    refine s_iload (pc := 55) (i := 4) dX11_balm_55 rfl ?_
    refine m_ic (pc := 57) (v := 1) dX11_balm_57 rfl ?_
    refine s_iadd (pc := 58) dX11_balm_58 ?_
    refine m_nm (v' := nI (i + 1)) (nI_add i 1) ?_
    refine m_v2 (pc := 59) dX11_balm_59 lk_X11_367 ok_X11_balmGiven (rcO o_1 (by decide) rfl) rfl rfl (c_X11_balmGiven hW hv (by omega) (kt_s ?_))
    refine s_iload_n (pc := 62) (i := 3) dX11_balm_62 rfl rfl ?_
    refine s_icgt (pc := 63) (tgt := 72) dX11_balm_63 rfl (fun h63 => ?_) (fun h63 => ?_)
    · have h63 : k < (gvn D S v (i + 1)) := (nI_ltI (a := k) (b := gvn D S v (i + 1)) (by omega) (by omega)).mp h63
      refine s_iload (pc := 72) (i := 4) dX11_balm_72 rfl ?_
      refine s_ireturn (pc := 74) dX11_balm_74 rfl rfl ?_
      rw [gbn_T (y := i) (by omega) hG (Or.inr h63)] at hq; exact hq
    · have h63 : ¬ k < (gvn D S v (i + 1)) := fun z => h63 ((nI_ltI (a := k) (b := gvn D S v (i + 1)) (by omega) (by omega)).mpr z)
      refine m_inc (pc := 66) (v := 1) dX11_balm_66 rfl rfl ?_
      dsimp only [List.set, List.filter]
      rw [nI_1]
      refine s_goto (pc := 69) (tgt := 39) dX11_balm_69 rfl ?_
      exact ih (i + 1) (by omega) (by omega)
theorem c_X11_balm (hW : Wc I 33 D cs S) (hn : n + 1 ≤ 600000 ∧ w + 6 ≤ 7000000) {x y z : Int32} (r0 : ¬ iv 0 (cb D) x → Q (.inr 0) (Z (up I 1 17 (I 1 17 + 1)) J (n + 1) (w + 6))) (r1 : iv 0 (cb D) x → ¬ iv 0 (2 ^ cb D) y → Q (.inr 1) (Z (up I 1 18 (I 1 18 + 1)) J (n + 1) (w + 6))) (r2 : iv 0 (cb D) x → iv 0 (2 ^ cb D) y → ¬ iv 0 (10000) z → Q (.inr 1) (Z (up I 1 18 (I 1 18 + 1)) J (n + 1) (w + 6))) (hg : ∀ b, ∀ v, ∀ k, x = nI b → b < cb D → y = nI v → v < 2 ^ cb D → z = nI k → k < 10000 → ∀ I', kc I I' → Q (.inl (some (.int (vBlm D S b v k)))) (Z I' J n w)) : Cn g (d + 8) mX11_balm [.ref 1, .int x, .int y, .int z] (Z I J n w) Q := by
  have hb7 := hW.2.1.1
  have hc12 := hW.2.1.2.1
  show Rn g (d + 8) mX11_balm 0 [.ref 1, .int x, .int y, .int z, .retAddr 0] [] [] (Z I J n w) Q
  refine s_aload_n (pc := 0) (i := 0) dX11_balm_0 rfl rfl ?_
  refine s_iload_n (pc := 1) (i := 1) dX11_balm_1 rfl rfl ?_
  refine m_v1 (pc := 2) dX11_balm_2 lk_X11_214 ok_X11_needBack (rcO o_1 (by decide) rfl) rfl rfl (c_nb hW.1 hW.2.1 hn (fun b eb hb => kt_v ?_) (fun z => kt_x ?_))
  · subst eb
    refine s_aload_n (pc := 5) (i := 0) dX11_balm_5 rfl rfl ?_
    refine s_iload_n (pc := 6) (i := 2) dX11_balm_6 rfl rfl ?_
    refine s_aload_n (pc := 7) (i := 0) dX11_balm_7 rfl rfl ?_
    refine m_gr (pc := 8) dX11_balm_8 ff_X11_19 rfl o_1 r_1_1 ?_
    refine m_v0 (pc := 11) dX11_balm_11 lk_X11_306 ok_X1_backBits (rcO o_4 (by decide) rfl) rfl rfl (c_X1_backBits hW.1 hW.2.1 (kt_s ?_))
    refine m_v2 (pc := 14) dX11_balm_14 lk_X11_317 ok_X11_needBits (rcO o_1 (by decide) rfl) rfl rfl (c_nbits (m := cb D) rfl (by omega) hn (fun v ev hv => kt_v ?_) (fun z => kt_x ?_))
    · subst ev
      have p12 := p12 (m := cb D) (by omega)
      refine s_aload_n (pc := 17) (i := 0) dX11_balm_17 rfl rfl ?_
      refine s_iload_n (pc := 18) (i := 3) dX11_balm_18 rfl rfl ?_
      refine m_ic (pc := 19) (v := 0) dX11_balm_19 rfl ?_
      refine m_si (pc := 20) (v := 9999) dX11_balm_20 rfl ?_
      refine m_v3 (pc := 23) dX11_balm_23 lk_X11_267 ok_X11_needRange (rcO o_1 (by decide) rfl) rfl rfl (c_nr (lo := 0) (m := 10000) rfl rfl (by omega) hn (fun k ek lk hk => kt_v ?_) (fun z => kt_x ?_))
      · subst ek
        refine s_iload_n (pc := 26) (i := 2) dX11_balm_26 rfl rfl ?_
        refine s_iload_n (pc := 27) (i := 1) dX11_balm_27 rfl rfl ?_
        refine s_ishr (pc := 28) dX11_balm_28 ?_
        refine m_ic (pc := 29) (v := 1) dX11_balm_29 rfl ?_
        refine s_iand (pc := 30) dX11_balm_30 ?_
        refine m_nm (v' := if v.testBit b = true then 1 else 0) (tb_1 (by omega) (by omega)) ?_
        refine s_ifne (pc := 31) (tgt := 36) dX11_balm_31 rfl (fun h31 => ?_) (fun h31 => ?_)
        · have e : v.testBit b = true := ts_nf (fun z => h31 (by rw [if_neg (by rw [z]; decide)]))
          refine m_ic (pc := 36) (v := 0) dX11_balm_36 rfl ?_
          refine s_istore (pc := 37) (i := 4) dX11_balm_37 (Nat.le_of_ble_eq_true rfl) ?_
          dsimp only [List.set, List.filter]
          have E : vBlm D S b v k = nI (gbn D S v k (sT S b)) := if_pos e
          exact bal_lp hW hb (by omega) hk (by have h := hg b v k rfl hb rfl hv rfl hk I kc_r; rw [E] at h; exact h) (sT S b) 0 (by omega) (by rw [gvn_0]; exact Nat.zero_le _)
        · have e : v.testBit b = false := ts_nt (fun z => by rw [if_pos z] at h31; exact absurd h31 (by decide))
          refine m_ic (pc := 34) (v := 0) dX11_balm_34 rfl ?_
          refine s_ireturn (pc := 35) dX11_balm_35 rfl rfl ?_
          have E : vBlm D S b v k = 0 := if_neg (by rw [e]; decide)
          have h := hg b v k rfl hb rfl hv rfl hk I kc_r
          rw [E] at h; exact h
      · exact r2 ⟨b, rfl, Nat.zero_le _, hb⟩ ⟨v, rfl, Nat.zero_le _, hv⟩ z
    · exact r1 ⟨b, rfl, Nat.zero_le _, hb⟩ z
  · exact r0  z
theorem c_X12_bounded {y : Nat} (hS : Sm (I 549) S) (hb : b < 7) (hT : sT S b ≤ 270) (hy : y ≤ 1000) (hq : Q (.inl (some (.int (nI (min (sT S b) y))))) (Z I J n w)) : Cn g (d + 0) mX12_bounded [.ref 534, .int (nI b), .int (nI y)] (Z I J n w) Q := by
  show Rn g (d + 0) mX12_bounded 0 [.ref 534, .int (nI b), .int (nI y)] [] [] (Z I J n w) Q
  refine s_aload_n (pc := 0) (i := 0) dX12_bounded_0 rfl rfl ?_
  refine m_gr (pc := 1) dX12_bounded_1 ff_X12_59 rfl o_534 r_534_36 ?_
  refine m_bi (pc := 4) (v := 84) dX12_bounded_4 rfl ?_
  refine s_iload_n (pc := 6) (i := 1) dX12_bounded_6 rfl rfl ?_
  refine s_iadd (pc := 7) dX12_bounded_7 ?_
  refine m_nm (v' := nI (84 + b)) (nI_add 84 b) ?_
  refine m_ia (pc := 8) dX12_bounded_8 a_549 (vp_in_nI (n := 84 + b) (by omega) (by decide)) ?_
  refine m_nm (v' := nI (sT S b)) (rdI (j := 84 + b) ((hS.1 b hb).1) (by omega)) ?_
  refine s_iload_n (pc := 9) (i := 2) dX12_bounded_9 rfl rfl ?_
  refine s_icge (pc := 10) (tgt := 25) dX12_bounded_10 rfl (fun h10 => ?_) (fun h10 => ?_)
  · have h10 : y ≤ (sT S b) := (nI_leI (a := y) (b := sT S b) (by omega) (by omega)).mp h10
    refine s_iload_n (pc := 25) (i := 2) dX12_bounded_25 rfl rfl ?_
    refine s_ireturn (pc := 26) dX12_bounded_26 rfl rfl ?_
    rw [Nat.min_eq_right h10] at hq; exact hq
  · have h10 : ¬ y ≤ (sT S b) := fun z => h10 ((nI_leI (a := y) (b := sT S b) (by omega) (by omega)).mpr z)
    refine s_aload_n (pc := 13) (i := 0) dX12_bounded_13 rfl rfl ?_
    refine m_gr (pc := 14) dX12_bounded_14 ff_X12_59 rfl o_534 r_534_36 ?_
    refine m_bi (pc := 17) (v := 84) dX12_bounded_17 rfl ?_
    refine s_iload_n (pc := 19) (i := 1) dX12_bounded_19 rfl rfl ?_
    refine s_iadd (pc := 20) dX12_bounded_20 ?_
    refine m_nm (v' := nI (84 + b)) (nI_add 84 b) ?_
    refine m_ia (pc := 21) dX12_bounded_21 a_549 (vp_in_nI (n := 84 + b) (by omega) (by decide)) ?_
    refine m_nm (v' := nI (sT S b)) (rdI (j := 84 + b) ((hS.1 b hb).1) (by omega)) ?_
    refine s_goto (pc := 22) (tgt := 26) dX12_bounded_22 rfl ?_
    refine s_ireturn (pc := 26) dX12_bounded_26 rfl rfl ?_
    rw [Nat.min_eq_left (by omega)] at hq; exact hq
theorem mbg_lp {y : Nat} (hW : Wn I D cs S) (hv : v < 4096) (hy : y ≤ 1000) (hq : Q (.inl (some (.int (nI (gvn D S v y))))) (Z I J n w)) : ∀ f i, i + f = cb D → Rn g (d + 1) mX12_balmBy 5 [.ref 534, .int (nI v), .int (nI y), .int (nI (sms v (fun b => min (sT S b) y) i)), .int (nI i)] [] [] (Z I J n w) Q := by
  intro f
  induction f with
  | zero =>
    intro i hi
    have e : cb D = i := by omega
    subst e
    have hb7 := hW.2.1.1
    have hc12 := hW.2.1.2.1
    refine s_iload (pc := 5) (i := 4) dX12_balmBy_5 rfl ?_
    refine s_aload_n (pc := 7) (i := 0) dX12_balmBy_7 rfl rfl ?_
    refine m_gi (pc := 8) dX12_balmBy_8 ff_X12_154 rfl o_534 ?_
    refine m_nm (v' := nI (cb D)) (hW.1.1) ?_
    refine s_icge (pc := 11) (tgt := 37) dX12_balmBy_11 rfl (fun h11 => ?_) (fun h11 => absurd (nI_le (a := cb D) (b := (cb D)) (by omega) (by omega)) h11)
    refine s_iload_n (pc := 37) (i := 3) dX12_balmBy_37 rfl rfl ?_
    refine s_ireturn (pc := 38) dX12_balmBy_38 rfl rfl ?_
    exact hq
  | succ f ih =>
    intro i hi
    have hb7 := hW.2.1.1
    have hc12 := hW.2.1.2.1
    refine s_iload (pc := 5) (i := 4) dX12_balmBy_5 rfl ?_
    refine s_aload_n (pc := 7) (i := 0) dX12_balmBy_7 rfl rfl ?_
    refine m_gi (pc := 8) dX12_balmBy_8 ff_X12_154 rfl o_534 ?_
    refine m_nm (v' := nI (cb D)) (hW.1.1) ?_
    refine s_icge (pc := 11) (tgt := 37) dX12_balmBy_11 rfl (fun h11 => absurd h11 (nI_ge (a := i) (b := cb D) (by omega) (by omega))) (fun h11 => ?_)
    have hT := (hW.2.2.2.2.2.1 i).1
    refine s_iload_n (pc := 14) (i := 3) dX12_balmBy_14 rfl rfl ?_
    refine s_iload_n (pc := 15) (i := 1) dX12_balmBy_15 rfl rfl ?_
    refine s_iload (pc := 16) (i := 4) dX12_balmBy_16 rfl ?_
    refine s_ishr (pc := 18) dX12_balmBy_18 ?_
    refine m_ic (pc := 19) (v := 1) dX12_balmBy_19 rfl ?_
    refine s_iand (pc := 20) dX12_balmBy_20 ?_
    refine m_nm (v' := if v.testBit i = true then 1 else 0) (tb_1 hv (by omega)) ?_
    refine s_aload_n (pc := 21) (i := 0) dX12_balmBy_21 rfl rfl ?_
    refine s_iload (pc := 22) (i := 4) dX12_balmBy_22 rfl ?_
    refine s_iload_n (pc := 24) (i := 2) dX12_balmBy_24 rfl rfl ?_
    refine m_v2 (pc := 25) dX12_balmBy_25 lk_X12_440 ok_X12_bounded (rcO o_534 (by decide) rfl) rfl rfl (c_X12_bounded hW.2.2.2.2.1 (by omega) hT hy (kt_s ?_))
    refine s_imul (pc := 28) dX12_balmBy_28 ?_
    refine m_nm (v' := nI (if v.testBit i = true then min (sT S i) y else 0)) (tb_m) ?_
    refine s_iadd (pc := 29) dX12_balmBy_29 ?_
    refine m_nm (v' := nI (sms v (fun b => min (sT S b) y) (i + 1))) (nI_add _ _) ?_
    refine s_istore_n (pc := 30) (i := 3) dX12_balmBy_30 rfl (Nat.le_of_ble_eq_true rfl) ?_
    dsimp only [List.set, List.filter]
    refine m_inc (pc := 31) (v := 1) dX12_balmBy_31 rfl rfl ?_
    dsimp only [List.set, List.filter]
    rw [nI_1]
    refine s_goto (pc := 34) (tgt := 5) dX12_balmBy_34 rfl ?_
    exact ih (i + 1)  (by omega)
theorem c_X12_balmBy {y : Nat} (hW : Wn I D cs S) (hv : v < 4096) (hy : y ≤ 1000) (hq : Q (.inl (some (.int (nI (gvn D S v y))))) (Z I J n w)) : Cn g (d + 1) mX12_balmBy [.ref 534, .int (nI v), .int (nI y)] (Z I J n w) Q := by
  show Rn g (d + 1) mX12_balmBy 0 [.ref 534, .int (nI v), .int (nI y), .retAddr 0, .retAddr 0] [] [] (Z I J n w) Q
  refine m_ic (pc := 0) (v := 0) dX12_balmBy_0 rfl ?_
  refine s_istore_n (pc := 1) (i := 3) dX12_balmBy_1 rfl (Nat.le_of_ble_eq_true rfl) ?_
  dsimp only [List.set, List.filter]
  refine m_ic (pc := 2) (v := 0) dX12_balmBy_2 rfl ?_
  refine s_istore (pc := 3) (i := 4) dX12_balmBy_3 (Nat.le_of_ble_eq_true rfl) ?_
  dsimp only [List.set, List.filter]
  exact mbg_lp hW hv hy hq (cb D) 0 (by omega)
theorem mba_lp (hW : Wn I D cs S) (hb : b < cb D) (hv : v < 4096) (hk : k < 10000) (hq : Q (.inl (some (.int (vBlm D S b v k)))) (Z I J n w)) : ∀ y, y ≤ 999 → gbn D S v k 999 = gbn D S v k y → Rn g (d + 3) mX12_balm 60 [.ref 534, .int (nI b), .int (nI v), .int (nI k), .int (nI y)] [] [] (Z I J n w) Q := by
  have hb7 := hW.2.1.1
  have hT := (hW.2.2.2.2.2.1 b).1
  intro y
  induction y with
  | zero =>
    intro hy hY
    have hY : gbn D S v k 999 = 0 := hY
    have hG : gvn D S v 0 ≤ k := by rw [gvn_0]; exact Nat.zero_le _
    have hG2 := gvn_le (D := D) (S := S) (v := v) hW.2.2.2.2.2 hW.2.1 (x := 0)
    refine s_aload_n (pc := 60) (i := 0) dX12_balm_60 rfl rfl ?_
    refine s_iload_n (pc := 61) (i := 2) dX12_balm_61 rfl rfl ?_
    refine s_iload (pc := 62) (i := 4) dX12_balm_62 rfl ?_
    refine m_v2 (pc := 64) dX12_balm_64 lk_X12_443 ok_X12_balmBy (rcO o_534 (by decide) rfl) rfl rfl (c_X12_balmBy hW hv (by omega) (kt_s ?_))
    refine s_iload_n (pc := 67) (i := 3) dX12_balm_67 rfl rfl ?_
    refine s_icle (pc := 68) (tgt := 77) dX12_balm_68 rfl (fun h68 => ?_) (fun h68 => absurd (nI_le (a := gvn D S v 0) (b := k) (by omega) (by omega)) h68)
    refine s_iload_n (pc := 77) (i := 2) dX12_balm_77 rfl rfl ?_
    refine s_iload_n (pc := 78) (i := 1) dX12_balm_78 rfl rfl ?_
    refine s_ishr (pc := 79) dX12_balm_79 ?_
    refine m_ic (pc := 80) (v := 1) dX12_balm_80 rfl ?_
    refine s_iand (pc := 81) dX12_balm_81 ?_
    refine m_nm (v' := if v.testBit b = true then 1 else 0) (tb_1 (by omega) (by omega)) ?_
    refine s_ifne (pc := 82) (tgt := 89) dX12_balm_82 rfl (fun h82 => ?_) (fun h82 => ?_)
    · have e : v.testBit b = true := ts_nf (fun z => h82 (by rw [if_neg (by rw [z]; decide)]))
      refine s_aload_n (pc := 89) (i := 0) dX12_balm_89 rfl rfl ?_
      refine s_iload_n (pc := 90) (i := 1) dX12_balm_90 rfl rfl ?_
      refine s_iload (pc := 91) (i := 4) dX12_balm_91 rfl ?_
      refine m_v2 (pc := 93) dX12_balm_93 lk_X12_440 ok_X12_bounded (rcO o_534 (by decide) rfl) rfl rfl (c_X12_bounded hW.2.2.2.2.1 (by omega) hT (by omega) (kt_s ?_))
      refine s_ireturn (pc := 96) dX12_balm_96 rfl rfl ?_
      have E : vBlm D S b v k = nI (min (sT S b) 0) := by unfold vBlm; rw [if_pos e, gbn_min (M := 999) (by omega), hY]
      rw [E] at hq; exact hq
    · have e : v.testBit b = false := ts_nt (fun z => by rw [if_pos z] at h82; exact absurd h82 (by decide))
      refine m_ic (pc := 85) (v := 0) dX12_balm_85 rfl ?_
      refine s_goto (pc := 86) (tgt := 96) dX12_balm_86 rfl ?_
      refine s_ireturn (pc := 96) dX12_balm_96 rfl rfl ?_
      have E : vBlm D S b v k = 0 := if_neg (by rw [e]; decide)
      rw [E] at hq; exact hq
  | succ y ih =>
    intro hy hY
    have hG2 := gvn_le (D := D) (S := S) (v := v) hW.2.2.2.2.2 hW.2.1 (x := y + 1)
    have hY : gbn D S v k 999 = if gvn D S v (y + 1) ≤ k then y + 1 else gbn D S v k y := hY
    by_cases hG : gvn D S v (y + 1) ≤ k
    · rw [if_pos hG] at hY
      refine s_aload_n (pc := 60) (i := 0) dX12_balm_60 rfl rfl ?_
      refine s_iload_n (pc := 61) (i := 2) dX12_balm_61 rfl rfl ?_
      refine s_iload (pc := 62) (i := 4) dX12_balm_62 rfl ?_
      refine m_v2 (pc := 64) dX12_balm_64 lk_X12_443 ok_X12_balmBy (rcO o_534 (by decide) rfl) rfl rfl (c_X12_balmBy hW hv (by omega) (kt_s ?_))
      refine s_iload_n (pc := 67) (i := 3) dX12_balm_67 rfl rfl ?_
      refine s_icle (pc := 68) (tgt := 77) dX12_balm_68 rfl (fun h68 => ?_) (fun h68 => absurd (nI_le (a := gvn D S v (y + 1)) (b := k) (by omega) (by omega)) h68)
      refine s_iload_n (pc := 77) (i := 2) dX12_balm_77 rfl rfl ?_
      refine s_iload_n (pc := 78) (i := 1) dX12_balm_78 rfl rfl ?_
      refine s_ishr (pc := 79) dX12_balm_79 ?_
      refine m_ic (pc := 80) (v := 1) dX12_balm_80 rfl ?_
      refine s_iand (pc := 81) dX12_balm_81 ?_
      refine m_nm (v' := if v.testBit b = true then 1 else 0) (tb_1 (by omega) (by omega)) ?_
      refine s_ifne (pc := 82) (tgt := 89) dX12_balm_82 rfl (fun h82 => ?_) (fun h82 => ?_)
      · have e : v.testBit b = true := ts_nf (fun z => h82 (by rw [if_neg (by rw [z]; decide)]))
        refine s_aload_n (pc := 89) (i := 0) dX12_balm_89 rfl rfl ?_
        refine s_iload_n (pc := 90) (i := 1) dX12_balm_90 rfl rfl ?_
        refine s_iload (pc := 91) (i := 4) dX12_balm_91 rfl ?_
        refine m_v2 (pc := 93) dX12_balm_93 lk_X12_440 ok_X12_bounded (rcO o_534 (by decide) rfl) rfl rfl (c_X12_bounded hW.2.2.2.2.1 (by omega) hT (by omega) (kt_s ?_))
        refine s_ireturn (pc := 96) dX12_balm_96 rfl rfl ?_
        have E : vBlm D S b v k = nI (min (sT S b) (y + 1)) := by unfold vBlm; rw [if_pos e, gbn_min (M := 999) (by omega), hY]
        rw [E] at hq; exact hq
      · have e : v.testBit b = false := ts_nt (fun z => by rw [if_pos z] at h82; exact absurd h82 (by decide))
        refine m_ic (pc := 85) (v := 0) dX12_balm_85 rfl ?_
        refine s_goto (pc := 86) (tgt := 96) dX12_balm_86 rfl ?_
        refine s_ireturn (pc := 96) dX12_balm_96 rfl rfl ?_
        have E : vBlm D S b v k = 0 := if_neg (by rw [e]; decide)
        rw [E] at hq; exact hq
    · rw [if_neg hG] at hY
      refine s_aload_n (pc := 60) (i := 0) dX12_balm_60 rfl rfl ?_
      refine s_iload_n (pc := 61) (i := 2) dX12_balm_61 rfl rfl ?_
      refine s_iload (pc := 62) (i := 4) dX12_balm_62 rfl ?_
      refine m_v2 (pc := 64) dX12_balm_64 lk_X12_443 ok_X12_balmBy (rcO o_534 (by decide) rfl) rfl rfl (c_X12_balmBy hW hv (by omega) (kt_s ?_))
      refine s_iload_n (pc := 67) (i := 3) dX12_balm_67 rfl rfl ?_
      refine s_icle (pc := 68) (tgt := 77) dX12_balm_68 rfl (fun h68 => absurd h68 (nI_ge (a := k) (b := gvn D S v (y + 1)) (by omega) (by omega))) (fun h68 => ?_)
      refine m_inc (pc := 71) (v := (-1)) dX12_balm_71 rfl rfl ?_
      dsimp only [List.set, List.filter]
      rw [show nI (y + 1) + -1 = nI y from pk_m1 _]
      refine s_goto (pc := 74) (tgt := 60) dX12_balm_74 rfl ?_
      exact ih (by omega) hY
theorem c_X12_balm (hW : Wn I D cs S) {x y z : Int32} (r0 : ¬ iv 0 (cb D) x → Q (.inl (some (.int 0))) (Z (thr I 1 0) J n w)) (r1 : iv 0 (cb D) x → ¬ iv 0 (2 ^ cb D) y → Q (.inl (some (.int 0))) (Z (thr I 2 1) J n w)) (r2 : iv 0 (cb D) x → iv 0 (2 ^ cb D) y → ¬ iv 0 (10000) z → Q (.inl (some (.int 0))) (Z (thr I 2 1) J n w)) (hg : ∀ b, ∀ v, ∀ k, x = nI b → b < cb D → y = nI v → v < 2 ^ cb D → z = nI k → k < 10000 → ∀ I', km I I' → I' 534 0 = 0 → Q (.inl (some (.int (vBlm D S b v k)))) (Z I' J n w)) : Cn g (d + 3) mX12_balm [.ref 534, .int x, .int y, .int z] (Z I J n w) Q := by
  have hb7 := hW.2.1.1
  have hc12 := hW.2.1.2.1
  show Rn g (d + 3) mX12_balm 0 [.ref 534, .int x, .int y, .int z, .retAddr 0] [] [] (Z I J n w) Q
  refine s_aload_n (pc := 0) (i := 0) dX12_balm_0 rfl rfl ?_
  refine m_ic (pc := 1) (v := 0) dX12_balm_1 rfl ?_
  refine m_pi (pc := 2) dX12_balm_2 ff_X12_3 rfl rfl o_534 ?_
  refine s_aload_n (pc := 5) (i := 0) dX12_balm_5 rfl rfl ?_
  refine s_iload_n (pc := 6) (i := 1) dX12_balm_6 rfl rfl ?_
  refine m_ic (pc := 7) (v := 1) dX12_balm_7 rfl ?_
  refine m_v2 (pc := 8) dX12_balm_8 lk_X12_385 ok_X12_isBack (rcO o_534 (by decide) rfl) rfl rfl (c_X12_isBack (D := D) up_s ((up_n3 (by omega)).trans hW.1.1) hW.2.1 (by decide) (fun b eb hb => kt_s ?_) (fun z => kt_s ?_))
  · subst eb
    refine s_ifeq (pc := 11) (tgt := 53) dX12_balm_11 rfl (fun h11 => absurd h11 (by decide)) (fun h11 => ?_)
    refine s_aload_n (pc := 14) (i := 0) dX12_balm_14 rfl rfl ?_
    refine s_iload_n (pc := 15) (i := 2) dX12_balm_15 rfl rfl ?_
    refine s_iflt (pc := 16) (tgt := 44) dX12_balm_16 rfl (fun a1 => ?_) (fun a1 => ?_)
    · skip
      refine m_ic (pc := 44) (v := 0) dX12_balm_44 rfl ?_
      refine m_ic (pc := 45) (v := 2) dX12_balm_45 rfl ?_
      refine m_ic (pc := 46) (v := 1) dX12_balm_46 rfl ?_
      refine m_v3 (pc := 47) dX12_balm_47 lk_X12_192 ok_X12_may (rcO o_534 (by decide) rfl) rfl rfl (c_may0 (k := 1) (by decide) rfl up_s (by decide) (kt_s ?_))
      · refine s_ifne (pc := 50) (tgt := 55) dX12_balm_50 rfl (fun h50 => absurd h50 (by decide)) (fun h50 => ?_)
        refine m_ic (pc := 53) (v := 0) dX12_balm_53 rfl ?_
        refine s_ireturn (pc := 54) dX12_balm_54 rfl rfl ?_
        rw [thr_0]
        exact r1 ⟨b, rfl, Nat.zero_le _, hb⟩ (fun u => by obtain ⟨q, e, _, _⟩ := u; rw [e] at a1; exact nI_pos (by have := p12 (m := cb D) (by omega); omega) a1)
    · skip
      refine s_iload_n (pc := 19) (i := 2) dX12_balm_19 rfl rfl ?_
      refine m_ic (pc := 20) (v := 1) dX12_balm_20 rfl ?_
      refine s_aload_n (pc := 21) (i := 0) dX12_balm_21 rfl rfl ?_
      refine m_gi (pc := 22) dX12_balm_22 ff_X12_154 rfl o_534 ?_
      refine m_nm (v' := nI (cb D)) ((up_k (by decide)).trans hW.1.1) ?_
      refine s_ishl (pc := 25) dX12_balm_25 ?_
      refine m_nm (v' := nI (2 ^ cb D)) (sh_1 (by omega)) ?_
      refine s_icge (pc := 26) (tgt := 44) dX12_balm_26 rfl (fun a2 => ?_) (fun a2 => ?_)
      · skip
        refine m_ic (pc := 44) (v := 0) dX12_balm_44 rfl ?_
        refine m_ic (pc := 45) (v := 2) dX12_balm_45 rfl ?_
        refine m_ic (pc := 46) (v := 1) dX12_balm_46 rfl ?_
        refine m_v3 (pc := 47) dX12_balm_47 lk_X12_192 ok_X12_may (rcO o_534 (by decide) rfl) rfl rfl (c_may0 (k := 1) (by decide) rfl up_s (by decide) (kt_s ?_))
        · refine s_ifne (pc := 50) (tgt := 55) dX12_balm_50 rfl (fun h50 => absurd h50 (by decide)) (fun h50 => ?_)
          refine m_ic (pc := 53) (v := 0) dX12_balm_53 rfl ?_
          refine s_ireturn (pc := 54) dX12_balm_54 rfl rfl ?_
          rw [thr_0]
          exact r1 ⟨b, rfl, Nat.zero_le _, hb⟩ (fun u => by obtain ⟨q, e, _, h⟩ := u; rw [e] at a2; exact absurd a2 (nI_ge h (by have := p12 (m := cb D) (by omega); omega)))
      · obtain ⟨v, hv0, ev⟩ := nI_of a1
        have hv : v < 2 ^ cb D := Nat.not_le.mp (fun z => a2 (by rw [ev]; exact nI_le z (by omega)))
        have p12 := p12 (m := cb D) (by omega)
        subst ev
        refine s_iload_n (pc := 29) (i := 3) dX12_balm_29 rfl rfl ?_
        refine m_ic (pc := 30) (v := 0) dX12_balm_30 rfl ?_
        refine m_si (pc := 31) (v := 9999) dX12_balm_31 rfl ?_
        refine m_s3 (pc := 34) dX12_balm_34 lk_X12_373 ok_X12_within rfl rfl (c_win (lo := 0) (m := 10000) rfl rfl (by decide) (fun k ek lk hk => kt_s ?_) (fun z => kt_s ?_))
        · subst ek
          refine s_ifeq (pc := 37) (tgt := 44) dX12_balm_37 rfl (fun h37 => absurd h37 (by decide)) (fun h37 => ?_)
          refine m_ic (pc := 40) (v := 1) dX12_balm_40 rfl ?_
          refine s_goto (pc := 41) (tgt := 45) dX12_balm_41 rfl ?_
          refine m_ic (pc := 45) (v := 2) dX12_balm_45 rfl ?_
          refine m_ic (pc := 46) (v := 1) dX12_balm_46 rfl ?_
          refine m_v3 (pc := 47) dX12_balm_47 lk_X12_192 ok_X12_may (rcO o_534 (by decide) rfl) rfl rfl (c_may1 (k := 1) (by decide) rfl up_s (by decide) (kt_s ?_))
          · refine s_ifne (pc := 50) (tgt := 55) dX12_balm_50 rfl (fun h50 => ?_) (fun h50 => absurd h50 (by decide))
            refine m_si (pc := 55) (v := 999) dX12_balm_55 rfl ?_
            refine s_istore (pc := 58) (i := 4) dX12_balm_58 (Nat.le_of_ble_eq_true rfl) ?_
            dsimp only [List.set, List.filter]
            exact mba_lp (Wn_0 hW) hb (by omega) hk (hg b v k rfl hb rfl hv rfl hk _ th_k up_s) 999 (by decide) rfl
        · refine s_ifeq (pc := 37) (tgt := 44) dX12_balm_37 rfl (fun h37 => ?_) (fun h37 => absurd h37 (by decide))
          refine m_ic (pc := 44) (v := 0) dX12_balm_44 rfl ?_
          refine m_ic (pc := 45) (v := 2) dX12_balm_45 rfl ?_
          refine m_ic (pc := 46) (v := 1) dX12_balm_46 rfl ?_
          refine m_v3 (pc := 47) dX12_balm_47 lk_X12_192 ok_X12_may (rcO o_534 (by decide) rfl) rfl rfl (c_may0 (k := 1) (by decide) rfl up_s (by decide) (kt_s ?_))
          · refine s_ifne (pc := 50) (tgt := 55) dX12_balm_50 rfl (fun h50 => absurd h50 (by decide)) (fun h50 => ?_)
            refine m_ic (pc := 53) (v := 0) dX12_balm_53 rfl ?_
            refine s_ireturn (pc := 54) dX12_balm_54 rfl rfl ?_
            rw [thr_0]
            exact r2 ⟨b, rfl, Nat.zero_le _, hb⟩ ⟨v, rfl, Nat.zero_le _, hv⟩ (z)
  · refine s_ifeq (pc := 11) (tgt := 53) dX12_balm_11 rfl (fun h11 => ?_) (fun h11 => absurd h11 (by decide))
    refine m_ic (pc := 53) (v := 0) dX12_balm_53 rfl ?_
    refine s_ireturn (pc := 54) dX12_balm_54 rfl rfl ?_
    rw [thr_0]
    exact r0  z
end S
