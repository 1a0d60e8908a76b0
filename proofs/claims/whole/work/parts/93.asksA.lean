section S
variable {g : aG} {d : Nat} {I : Nat → Nat → Int32} {J : Nat → Nat → Int64} {n w : Nat} {Q : aO → aS → Prop}
variable {σ : aS} {S : sD} {D : cD} {cs : List Nat} {b c k v : Nat}
/-- the hours above a bound -/
def hab (D : cD) (v b : Nat) : Nat := sms v (fun c => cH D c * (ck D + cL D c - b)) (cc D)
theorem hab_le (hk : cOk D) : sms v (fun c => cH D c * (ck D + cL D c - b)) (cc D) ≤ 5292 := by
  have h1 := sms_le (v := v) (f := (fun c => cH D c * (ck D + cL D c - b))) (M := 441) (cc D) (fun i hi => by
    have h2 := hk.2.2.2.2 i hi
    have h3 := hk.2.2.1.2
    exact Nat.mul_le_mul (show cH D i ≤ 9 by omega) (show ck D + cL D i - b ≤ 49 by omega))
  have h2 := hk.2.1
  omega
/-- the greatest lie in a set -/
def mxl (D : cD) (v : Nat) : Nat → Nat
  | 0 => 0
  | m + 1 => max (mxl D v m) (if v.testBit m = true then cL D m else 0)
theorem mxl_1 {m : Nat} : mxl D v (m + 1) = max (mxl D v m) (if v.testBit m = true then cL D m else 0) := rfl
theorem mxl_ge {i : Nat} (h : v.testBit i = true) : ∀ m, i < m → cL D i ≤ mxl D v m
  | 0, z => absurd z (Nat.not_lt_zero _)
  | m + 1, z => by
    rw [mxl_1]
    by_cases e : i = m
    · subst e; rw [if_pos h]; exact Nat.le_max_right _ _
    · exact Nat.le_trans (mxl_ge h m (by omega)) (Nat.le_max_left _ _)
theorem mxl_le (hk : cOk D) : ∀ m, m ≤ cc D → mxl D v m ≤ 9
  | 0, _ => Nat.zero_le _
  | m + 1, h => by
    have h1 := mxl_le hk m (by omega)
    have h2 := (hk.2.2.2.2 m (by omega)).2.2
    rw [mxl_1]; split <;> omega
abbrev eaP (D : cD) (v k b : Nat) : Prop := mxl D v (cc D) ≤ b ∧ hab D v b ≤ k
def eaV (D : cD) (v k : Nat) : Nat → Nat → Nat
  | 0, b => b
  | f + 1, b => if eaP D v k b then b else eaV D v k f (b + 1)
def vEas (D : cD) (v k : Nat) : Nat := eaV D v k (ck D + 9) 0
theorem eaV_up {N : Nat} : ∀ m, m ≤ N → (∀ j, j < m → ¬ eaP D v k j) → eaV D v k N 0 = eaV D v k (N - m) m
  | 0, _, _ => rfl
  | m + 1, h, h2 => by
    rw [eaV_up m (by omega) (fun j hj => h2 j (by omega)), show N - m = (N - (m + 1)) + 1 by omega, eaV, if_neg (h2 m (by omega))]
theorem hab_end (hk : cOk D) : hab D v (ck D + 9) = 0 := by
  have h : ∀ m, m ≤ cc D → sms v (fun c => cH D c * (ck D + cL D c - (ck D + 9))) m = 0 := fun m => by
    induction m with
    | zero => intro _; rfl
    | succ m ih =>
      intro hm
      have h2 := (hk.2.2.2.2 m (by omega)).2.2
      rw [sms_1, ih (by omega), show ck D + cL D m - (ck D + 9) = 0 by omega, Nat.mul_zero]; simp
  exact h _ (Nat.le_refl _)
theorem vEas_0 : vEas D 0 k = 0 := by
  have h1 : ∀ m, mxl D 0 m = 0 := fun m => by
    induction m with
    | zero => rfl
    | succ m ih => rw [mxl_1, ih]; simp
  have h2 : ∀ f m, sms 0 f m = 0 := fun f m => by
    induction m with
    | zero => rfl
    | succ m ih => rw [sms_1, ih]; simp
  show eaV D 0 k (ck D + 8 + 1) 0 = 0
  rw [eaV, if_pos ⟨by rw [h1]; exact Nat.le_refl _, by unfold hab; rw [h2]; exact Nat.zero_le _⟩]
theorem nps {a b : Nat} (ha : a < 2 ^ 20) (hb : b < 2 ^ 20) (h : nI a - nI b ≤ 0) : a - b = 0 := by
  by_cases e : b ≤ a
  · rw [pk_sub e] at h; exact Nat.le_zero.mp ((nI_leI (a := a - b) (b := 0) (by omega) (by omega)).mp h)
  · omega
theorem eat_lp (hW : Wc I 33 D cs S) (hv : v < 4096) (hb : b ≤ 60) (hk : k < 10000) (h1 : eaP D v k b → Q (.inl (some (.int 1))) (Z I J n w)) (h0 : ¬ eaP D v k b → Q (.inl (some (.int 0))) (Z I J n w)) : ∀ f i (v6 : Value), i + f = cc D → mxl D v i ≤ b → Rn g (d + 1) mX11_isEasedTo 6 [.ref 1, .int (nI b), .int (nI v), .int (nI k), .int (nI (sms v (fun c => cH D c * (ck D + cL D c - b)) i)), .int (nI i), v6] [] [] (Z I J n w) Q := by
  intro f
  induction f with
  | zero =>
    intro i v6 hi hM
    have e : cc D = i := by omega
    subst e
    have hb7 := hW.2.1.1
    have hc12 := hW.2.1.2.1
    have hk40 := hW.2.1.2.2.1.2
    have hS := hab_le (b := b) (v := v) hW.2.1
    refine s_iload (pc := 6) (i := 5) dX11_isEasedTo_6 rfl ?_
    refine s_aload_n (pc := 8) (i := 0) dX11_isEasedTo_8 rfl rfl ?_
    refine m_gr (pc := 9) dX11_isEasedTo_9 ff_X11_19 rfl o_1 r_1_1 ?_
    refine m_gi (pc := 12) dX11_isEasedTo_12 ff_X11_184 rfl o_4 ?_
    refine m_nm (v' := nI (cc D)) (hW.1.2.1) ?_
    refine s_icge (pc := 15) (tgt := 96) dX11_isEasedTo_15 rfl (fun h15 => ?_) (fun h15 => absurd (nI_le (a := cc D) (b := (cc D)) (by omega) (by omega)) h15)
    refine s_iload (pc := 96) (i := 4) dX11_isEasedTo_96 rfl ?_
    refine s_iload_n (pc := 98) (i := 3) dX11_isEasedTo_98 rfl rfl ?_
    refine s_icgt (pc := 99) (tgt := 106) dX11_isEasedTo_99 rfl (fun h99 => ?_) (fun h99 => ?_)
    · have h99 : k < (sms v (fun c => cH D c * (ck D + cL D c - b)) (cc D)) := (nI_ltI (a := k) (b := sms v (fun c => cH D c * (ck D + cL D c - b)) (cc D)) (by omega) (by omega)).mp h99
      refine m_ic (pc := 106) (v := 0) dX11_isEasedTo_106 rfl ?_
      refine s_ireturn (pc := 107) dX11_isEasedTo_107 rfl rfl ?_
      exact h0 (fun z => absurd z.2 (Nat.not_le.mpr h99))
    · have h99 : ¬ k < (sms v (fun c => cH D c * (ck D + cL D c - b)) (cc D)) := fun z => h99 ((nI_ltI (a := k) (b := sms v (fun c => cH D c * (ck D + cL D c - b)) (cc D)) (by omega) (by omega)).mpr z)
      refine m_ic (pc := 102) (v := 1) dX11_isEasedTo_102 rfl ?_
      refine s_goto (pc := 103) (tgt := 107) dX11_isEasedTo_103 rfl ?_
      refine s_ireturn (pc := 107) dX11_isEasedTo_107 rfl rfl ?_
      exact h1 ⟨hM, Nat.not_lt.mp h99⟩
  | succ f ih =>
    intro i v6 hi hM
    have hb7 := hW.2.1.1
    have hc12 := hW.2.1.2.1
    have hk40 := hW.2.1.2.2.1.2
    have hcL := hW.2.1.2.2.2.2 i (by omega)
    refine s_iload (pc := 6) (i := 5) dX11_isEasedTo_6 rfl ?_
    refine s_aload_n (pc := 8) (i := 0) dX11_isEasedTo_8 rfl rfl ?_
    refine m_gr (pc := 9) dX11_isEasedTo_9 ff_X11_19 rfl o_1 r_1_1 ?_
    refine m_gi (pc := 12) dX11_isEasedTo_12 ff_X11_184 rfl o_4 ?_
    refine m_nm (v' := nI (cc D)) (hW.1.2.1) ?_
    refine s_icge (pc := 15) (tgt := 96) dX11_isEasedTo_15 rfl (fun h15 => absurd h15 (nI_ge (a := i) (b := cc D) (by omega) (by omega))) (fun h15 => ?_)
    refine s_iload_n (pc := 18) (i := 2) dX11_isEasedTo_18 rfl rfl ?_
    refine s_iload (pc := 19) (i := 5) dX11_isEasedTo_19 rfl ?_
    refine s_ishr (pc := 21) dX11_isEasedTo_21 ?_
    refine m_ic (pc := 22) (v := 1) dX11_isEasedTo_22 rfl ?_
    refine s_iand (pc := 23) dX11_isEasedTo_23 ?_
    refine m_nm (v' := if v.testBit i = true then 1 else 0) (tb_1 hv (by omega)) ?_
    refine s_ifne (pc := 24) (tgt := 30) dX11_isEasedTo_24 rfl (fun h24 => ?_) (fun h24 => ?_)
    · have e : v.testBit i = true := ts_nf (fun z => h24 (by rw [if_neg (by rw [z]; decide)]))
      refine s_aload_n (pc := 30) (i := 0) dX11_isEasedTo_30 rfl rfl ?_
      refine m_gr (pc := 31) dX11_isEasedTo_31 ff_X11_19 rfl o_1 r_1_1 ?_
      refine m_gr (pc := 34) dX11_isEasedTo_34 ff_X11_246 rfl o_4 r_4_3 ?_
      refine s_iload (pc := 37) (i := 5) dX11_isEasedTo_37 rfl ?_
      refine m_ia (pc := 39) dX11_isEasedTo_39 a_8 (vp_in_nI (n := i) (by omega) (by decide)) ?_
      refine m_nm (v' := nI (cL D i)) (rdI (j := i) ((hW.1.2.2.2.2 i (by omega)).2) (by omega)) ?_
      refine s_iload_n (pc := 40) (i := 1) dX11_isEasedTo_40 rfl rfl ?_
      refine s_icle (pc := 41) (tgt := 46) dX11_isEasedTo_41 rfl (fun h41 => ?_) (fun h41 => ?_)
      · have h41 : (cL D i) ≤ b := (nI_leI (a := cL D i) (b := b) (by omega) (by omega)).mp h41
        refine m_ic (pc := 46) (v := 0) dX11_isEasedTo_46 rfl ?_
        refine s_aload_n (pc := 47) (i := 0) dX11_isEasedTo_47 rfl rfl ?_
        refine m_gr (pc := 48) dX11_isEasedTo_48 ff_X11_19 rfl o_1 r_1_1 ?_
        refine m_gi (pc := 51) dX11_isEasedTo_51 ff_X11_187 rfl o_4 ?_
        refine m_nm (v' := nI (ck D)) (hW.1.2.2.1) ?_
        refine s_aload_n (pc := 54) (i := 0) dX11_isEasedTo_54 rfl rfl ?_
        refine m_gr (pc := 55) dX11_isEasedTo_55 ff_X11_19 rfl o_1 r_1_1 ?_
        refine m_gr (pc := 58) dX11_isEasedTo_58 ff_X11_246 rfl o_4 r_4_3 ?_
        refine s_iload (pc := 61) (i := 5) dX11_isEasedTo_61 rfl ?_
        refine m_ia (pc := 63) dX11_isEasedTo_63 a_8 (vp_in_nI (n := i) (by omega) (by decide)) ?_
        refine m_nm (v' := nI (cL D i)) (rdI (j := i) ((hW.1.2.2.2.2 i (by omega)).2) (by omega)) ?_
        refine s_iadd (pc := 64) dX11_isEasedTo_64 ?_
        refine m_nm (v' := nI ((ck D) + (cL D i))) (nI_add (ck D) (cL D i)) ?_
        refine s_iload_n (pc := 65) (i := 1) dX11_isEasedTo_65 rfl rfl ?_
        refine s_isub (pc := 66) dX11_isEasedTo_66 ?_
        refine m_max (pc := 67) dX11_isEasedTo_67 ml_X11_388 (Nat.le_of_ble_eq_true rfl) ?_
        refine m_nm (v' := nI (ck D + cL D i - b)) (max_sub (by omega) (by omega)) ?_
        refine s_istore (pc := 70) (i := 6) dX11_isEasedTo_70 (Nat.le_of_ble_eq_true rfl) ?_
        dsimp only [List.set, List.filter]
        refine s_iload (pc := 72) (i := 4) dX11_isEasedTo_72 rfl ?_
        refine s_aload_n (pc := 74) (i := 0) dX11_isEasedTo_74 rfl rfl ?_
        refine m_gr (pc := 75) dX11_isEasedTo_75 ff_X11_19 rfl o_1 r_1_1 ?_
        refine m_gr (pc := 78) dX11_isEasedTo_78 ff_X11_243 rfl o_4 r_4_2 ?_
        refine s_iload (pc := 81) (i := 5) dX11_isEasedTo_81 rfl ?_
        refine m_ia (pc := 83) dX11_isEasedTo_83 a_7 (vp_in_nI (n := i) (by omega) (by decide)) ?_
        refine m_nm (v' := nI (cH D i)) (rdI (j := i) ((hW.1.2.2.2.2 i (by omega)).1) (by omega)) ?_
        refine s_iload (pc := 84) (i := 6) dX11_isEasedTo_84 rfl ?_
        refine s_imul (pc := 86) dX11_isEasedTo_86 ?_
        refine m_nm (v' := nI ((cH D i) * (ck D + cL D i - b))) (pk_mul (cH D i) (ck D + cL D i - b)) ?_
        refine s_iadd (pc := 87) dX11_isEasedTo_87 ?_
        refine m_nm (v' := nI ((sms v (fun c => cH D c * (ck D + cL D c - b)) i) + ((cH D i) * (ck D + cL D i - b)))) (nI_add (sms v (fun c => cH D c * (ck D + cL D c - b)) i) ((cH D i) * (ck D + cL D i - b))) ?_
        refine s_istore (pc := 88) (i := 4) dX11_isEasedTo_88 (Nat.le_of_ble_eq_true rfl) ?_
        dsimp only [List.set, List.filter]
        refine m_inc (pc := 90) (v := 1) dX11_isEasedTo_90 rfl rfl ?_
        dsimp only [List.set, List.filter]
        rw [nI_1]
        refine s_goto (pc := 93) (tgt := 6) dX11_isEasedTo_93 rfl ?_
        have EE : sms v (fun c => cH D c * (ck D + cL D c - b)) (i + 1) = sms v (fun c => cH D c * (ck D + cL D c - b)) i + cH D i * (ck D + cL D i - b) := by rw [sms_1, if_pos e]
        rw [← EE]
        exact ih (i + 1) _ (by omega) (by rw [mxl_1, if_pos e]; omega)
      · have h41 : ¬ (cL D i) ≤ b := fun z => h41 ((nI_leI (a := cL D i) (b := b) (by omega) (by omega)).mpr z)
        refine m_ic (pc := 44) (v := 0) dX11_isEasedTo_44 rfl ?_
        refine s_ireturn (pc := 45) dX11_isEasedTo_45 rfl rfl ?_
        exact h0 (fun z => absurd (Nat.le_trans (mxl_ge e (cc D) (by omega)) z.1) (by omega))
    · have e : v.testBit i = false := ts_nt (fun z => by rw [if_pos z] at h24; exact absurd h24 (by decide))
      refine s_goto (pc := 27) (tgt := 90) dX11_isEasedTo_27 rfl ?_
      refine m_inc (pc := 90) (v := 1) dX11_isEasedTo_90 rfl rfl ?_
      dsimp only [List.set, List.filter]
      rw [nI_1]
      refine s_goto (pc := 93) (tgt := 6) dX11_isEasedTo_93 rfl ?_
      have EE : sms v (fun c => cH D c * (ck D + cL D c - b)) (i + 1) = sms v (fun c => cH D c * (ck D + cL D c - b)) i := by rw [sms_1, if_neg (by rw [e]; decide)]; rfl
      rw [← EE]
      exact ih (i + 1) _ (by omega) (by rw [mxl_1, if_neg (by rw [e]; decide)]; omega)
theorem c_X11_isEasedTo (hW : Wc I 33 D cs S) (hv : v < 4096) (hb : b ≤ 60) (hk : k < 10000) (h1 : eaP D v k b → Q (.inl (some (.int 1))) (Z I J n w)) (h0 : ¬ eaP D v k b → Q (.inl (some (.int 0))) (Z I J n w)) : Cn g (d + 1) mX11_isEasedTo [.ref 1, .int (nI b), .int (nI v), .int (nI k)] (Z I J n w) Q := by
  show Rn g (d + 1) mX11_isEasedTo 0 [.ref 1, .int (nI b), .int (nI v), .int (nI k), .retAddr 0, .retAddr 0, .retAddr 0] [] [] (Z I J n w) Q
  refine m_ic (pc := 0) (v := 0) dX11_isEasedTo_0 rfl ?_
  refine s_istore (pc := 1) (i := 4) dX11_isEasedTo_1 (Nat.le_of_ble_eq_true rfl) ?_
  dsimp only [List.set, List.filter]
  refine m_ic (pc := 3) (v := 0) dX11_isEasedTo_3 rfl ?_
  refine s_istore (pc := 4) (i := 5) dX11_isEasedTo_4 (Nat.le_of_ble_eq_true rfl) ?_
  dsimp only [List.set, List.filter]
  exact eat_lp hW hv hb hk h1 h0 (cc D) 0 _ (by omega) (Nat.zero_le _)
theorem eas_lp (hW : Wc I 33 D cs S) (hv : v < 4096) (hk : k < 10000) (hq : Q (.inl (some (.int (nI (vEas D v k))))) (Z I J n w)) : ∀ f i, i + f = ck D + 9 → vEas D v k = eaV D v k f i → Rn g (d + 8) mX11_ease 35 [.ref 1, .int (nI v), .int (nI k), .int (nI (ck D + 9)), .int (nI i)] [] [] (Z I J n w) Q := by
  intro f
  induction f with
  | zero =>
    intro i hi hM
    have e : ck D + 9 = i := by omega
    subst e
    have hb7 := hW.2.1.1
    have hc12 := hW.2.1.2.1
    have hk40 := hW.2.1.2.2.1.2
    refine s_iload (pc := 35) (i := 4) dX11_ease_35 rfl ?_
    refine s_iload_n (pc := 37) (i := 3) dX11_ease_37 rfl rfl ?_
    refine s_icge (pc := 38) (tgt := 61) dX11_ease_38 rfl (fun h38 => ?_) (fun h38 => absurd (nI_le (a := ck D + 9) (b := (ck D + 9)) (by omega) (by omega)) h38)
    refine s_iload_n (pc := 61) (i := 3) dX11_ease_61 rfl rfl ?_
    refine s_ireturn (pc := 62) dX11_ease_62 rfl rfl ?_
    rw [hM] at hq; exact hq
  | succ f ih =>
    intro i hi hM
    have hb7 := hW.2.1.1
    have hc12 := hW.2.1.2.1
    have hk40 := hW.2.1.2.2.1.2
    refine s_iload (pc := 35) (i := 4) dX11_ease_35 rfl ?_
    refine s_iload_n (pc := 37) (i := 3) dX11_ease_37 rfl rfl ?_
    refine s_icge (pc := 38) (tgt := 61) dX11_ease_38 rfl (fun h38 => absurd h38 (nI_ge (a := i) (b := ck D + 9) (by omega) (by omega))) (fun h38 => ?_)
    refine s_aload_n (pc := 41) (i := 0) dX11_ease_41 rfl rfl ?_
    refine s_iload (pc := 42) (i := 4) dX11_ease_42 rfl ?_
    refine s_iload_n (pc := 44) (i := 1) dX11_ease_44 rfl rfl ?_
    refine s_iload_n (pc := 45) (i := 2) dX11_ease_45 rfl rfl ?_
    refine m_v3 (pc := 46) dX11_ease_46 lk_X11_320 ok_X11_isEasedTo (rcO o_1 (by decide) rfl) rfl rfl (c_X11_isEasedTo hW hv (by omega) hk (fun z => kt_s ?_) (fun z => kt_s ?_))
    · refine s_ifeq (pc := 49) (tgt := 55) dX11_ease_49 rfl (fun h49 => absurd h49 (by decide)) (fun h49 => ?_)
      refine s_iload (pc := 52) (i := 4) dX11_ease_52 rfl ?_
      refine s_ireturn (pc := 54) dX11_ease_54 rfl rfl ?_
      rw [hM, eaV, if_pos z] at hq; exact hq
    · refine s_ifeq (pc := 49) (tgt := 55) dX11_ease_49 rfl (fun h49 => ?_) (fun h49 => absurd h49 (by decide))
      refine m_inc (pc := 55) (v := 1) dX11_ease_55 rfl rfl ?_
      dsimp only [List.set, List.filter]
      rw [nI_1]
      refine s_goto (pc := 58) (tgt := 35) dX11_ease_58 rfl ?_
      exact ih (i + 1) (by omega) (by rw [hM, eaV, if_neg z])
theorem c_X11_ease (hW : Wc I 33 D cs S) (hn : n + 1 ≤ 600000 ∧ w + 6 ≤ 7000000) {x y : Int32} (r0 : ¬ iv 0 (2 ^ cc D) x → Q (.inr 1) (Z (up I 1 18 (I 1 18 + 1)) J (n + 1) (w + 6))) (r1 : iv 0 (2 ^ cc D) x → ¬ iv 0 (10000) y → Q (.inr 1) (Z (up I 1 18 (I 1 18 + 1)) J (n + 1) (w + 6))) (hg : ∀ v, ∀ k, x = nI v → v < 2 ^ cc D → y = nI k → k < 10000 → ∀ I', kc I I' → Q (.inl (some (.int (nI (vEas D v k))))) (Z I' J n w)) : Cn g (d + 8) mX11_ease [.ref 1, .int x, .int y] (Z I J n w) Q := by
  have hb7 := hW.2.1.1
  have hc12 := hW.2.1.2.1
  show Rn g (d + 8) mX11_ease 0 [.ref 1, .int x, .int y, .retAddr 0, .retAddr 0] [] [] (Z I J n w) Q
  refine s_aload_n (pc := 0) (i := 0) dX11_ease_0 rfl rfl ?_
  refine s_iload_n (pc := 1) (i := 1) dX11_ease_1 rfl rfl ?_
  refine s_aload_n (pc := 2) (i := 0) dX11_ease_2 rfl rfl ?_
  refine m_gr (pc := 3) dX11_ease_3 ff_X11_19 rfl o_1 r_1_1 ?_
  refine m_v0 (pc := 6) dX11_ease_6 lk_X11_314 ok_X1_councilBits (rcO o_4 (by decide) rfl) rfl rfl (c_X1_councilBits hW.1 hW.2.1 (kt_s ?_))
  refine m_v2 (pc := 9) dX11_ease_9 lk_X11_317 ok_X11_needBits (rcO o_1 (by decide) rfl) rfl rfl (c_nbits (m := cc D) rfl (by omega) hn (fun v ev hv => kt_v ?_) (fun z => kt_x ?_))
  · subst ev
    have p12 := p12 (m := cc D) (by omega)
    refine s_aload_n (pc := 12) (i := 0) dX11_ease_12 rfl rfl ?_
    refine s_iload_n (pc := 13) (i := 2) dX11_ease_13 rfl rfl ?_
    refine m_ic (pc := 14) (v := 0) dX11_ease_14 rfl ?_
    refine m_si (pc := 15) (v := 9999) dX11_ease_15 rfl ?_
    refine m_v3 (pc := 18) dX11_ease_18 lk_X11_267 ok_X11_needRange (rcO o_1 (by decide) rfl) rfl rfl (c_nr (lo := 0) (m := 10000) rfl rfl (by omega) hn (fun k ek lk hk => kt_v ?_) (fun z => kt_x ?_))
    · subst ek
      refine s_aload_n (pc := 21) (i := 0) dX11_ease_21 rfl rfl ?_
      refine m_gr (pc := 22) dX11_ease_22 ff_X11_19 rfl o_1 r_1_1 ?_
      refine m_gi (pc := 25) dX11_ease_25 ff_X11_187 rfl o_4 ?_
      refine m_nm (v' := nI (ck D)) (hW.1.2.2.1) ?_
      refine m_bi (pc := 28) (v := 9) dX11_ease_28 rfl ?_
      refine s_iadd (pc := 30) dX11_ease_30 ?_
      refine m_nm (v' := nI ((ck D) + 9)) (nI_add (ck D) 9) ?_
      refine s_istore_n (pc := 31) (i := 3) dX11_ease_31 rfl (Nat.le_of_ble_eq_true rfl) ?_
      dsimp only [List.set, List.filter]
      refine m_ic (pc := 32) (v := 0) dX11_ease_32 rfl ?_
      refine s_istore (pc := 33) (i := 4) dX11_ease_33 (Nat.le_of_ble_eq_true rfl) ?_
      dsimp only [List.set, List.filter]
      exact eas_lp hW (by omega) hk (hg v k rfl hv rfl hk I kc_r) (ck D + 9) 0 (by omega) rfl
    · exact r1 ⟨v, rfl, Nat.zero_le _, hv⟩ z
  · exact r0  z
theorem ha_lp (hW : Wn I D cs S) (hv : v < 4096) (hb : b ≤ 60) (hq : Q (.inl (some (.int (nI (hab D v b))))) (Z I J n w)) : ∀ f i (v5 : Value), i + f = cc D → Rn g (d + 0) mX12_hoursAbove 5 [.ref 534, .int (nI v), .int (nI b), .int (nI (sms v (fun c => cH D c * (ck D + cL D c - b)) i)), .int (nI i), v5] [] [] (Z I J n w) Q := by
  intro f
  induction f with
  | zero =>
    intro i v5 hi
    have e : cc D = i := by omega
    subst e
    have hb7 := hW.2.1.1
    have hc12 := hW.2.1.2.1
    have hk40 := hW.2.1.2.2.1.2
    refine s_iload (pc := 5) (i := 4) dX12_hoursAbove_5 rfl ?_
    refine s_aload_n (pc := 7) (i := 0) dX12_hoursAbove_7 rfl rfl ?_
    refine m_gi (pc := 8) dX12_hoursAbove_8 ff_X12_157 rfl o_534 ?_
    refine m_nm (v' := nI (cc D)) (hW.1.2.1) ?_
    refine s_icge (pc := 11) (tgt := 74) dX12_hoursAbove_11 rfl (fun h11 => ?_) (fun h11 => absurd (nI_le (a := cc D) (b := (cc D)) (by omega) (by omega)) h11)
    refine s_iload_n (pc := 74) (i := 3) dX12_hoursAbove_74 rfl rfl ?_
    refine s_ireturn (pc := 75) dX12_hoursAbove_75 rfl rfl ?_
    exact hq
  | succ f ih =>
    intro i v5 hi
    have hb7 := hW.2.1.1
    have hc12 := hW.2.1.2.1
    have hk40 := hW.2.1.2.2.1.2
    have hcL := hW.2.1.2.2.2.2 i (by omega)
    refine s_iload (pc := 5) (i := 4) dX12_hoursAbove_5 rfl ?_
    refine s_aload_n (pc := 7) (i := 0) dX12_hoursAbove_7 rfl rfl ?_
    refine m_gi (pc := 8) dX12_hoursAbove_8 ff_X12_157 rfl o_534 ?_
    refine m_nm (v' := nI (cc D)) (hW.1.2.1) ?_
    refine s_icge (pc := 11) (tgt := 74) dX12_hoursAbove_11 rfl (fun h11 => absurd h11 (nI_ge (a := i) (b := cc D) (by omega) (by omega))) (fun h11 => ?_)
    refine s_aload_n (pc := 14) (i := 0) dX12_hoursAbove_14 rfl rfl ?_
    refine m_gi (pc := 15) dX12_hoursAbove_15 ff_X12_160 rfl o_534 ?_
    refine m_nm (v' := nI (ck D)) (hW.1.2.2.1) ?_
    refine s_aload_n (pc := 18) (i := 0) dX12_hoursAbove_18 rfl rfl ?_
    refine m_gr (pc := 19) dX12_hoursAbove_19 ff_X12_32 rfl o_534 r_534_13 ?_
    refine m_ic (pc := 22) (v := 2) dX12_hoursAbove_22 rfl ?_
    refine s_iload (pc := 23) (i := 4) dX12_hoursAbove_23 rfl ?_
    refine s_imul (pc := 25) dX12_hoursAbove_25 ?_
    refine m_nm (v' := nI (2 * i)) (pk_mul 2 i) ?_
    refine m_ic (pc := 26) (v := 1) dX12_hoursAbove_26 rfl ?_
    refine s_iadd (pc := 27) dX12_hoursAbove_27 ?_
    refine m_nm (v' := nI ((2 * i) + 1)) (nI_add (2 * i) 1) ?_
    refine m_ia (pc := 28) dX12_hoursAbove_28 a_540 (vp_in_nI (n := (2 * i) + 1) (by omega) (by decide)) ?_
    refine m_nm (v' := nI (cL D i)) (rdI (j := (2 * i) + 1) ((hW.1.2.2.2.2 i (by omega)).2) (by omega)) ?_
    refine s_iadd (pc := 29) dX12_hoursAbove_29 ?_
    refine m_nm (v' := nI ((ck D) + (cL D i))) (nI_add (ck D) (cL D i)) ?_
    refine s_iload_n (pc := 30) (i := 2) dX12_hoursAbove_30 rfl rfl ?_
    refine s_isub (pc := 31) dX12_hoursAbove_31 ?_
    refine s_istore (pc := 32) (i := 5) dX12_hoursAbove_32 (Nat.le_of_ble_eq_true rfl) ?_
    dsimp only [List.set, List.filter]
    refine s_iload_n (pc := 34) (i := 3) dX12_hoursAbove_34 rfl rfl ?_
    refine s_iload_n (pc := 35) (i := 1) dX12_hoursAbove_35 rfl rfl ?_
    refine s_iload (pc := 36) (i := 4) dX12_hoursAbove_36 rfl ?_
    refine s_ishr (pc := 38) dX12_hoursAbove_38 ?_
    refine m_ic (pc := 39) (v := 1) dX12_hoursAbove_39 rfl ?_
    refine s_iand (pc := 40) dX12_hoursAbove_40 ?_
    refine m_nm (v' := if v.testBit i = true then 1 else 0) (tb_1 hv (by omega)) ?_
    refine m_ic (pc := 41) (v := 1) dX12_hoursAbove_41 rfl ?_
    refine s_icne (pc := 42) (tgt := 65) dX12_hoursAbove_42 rfl (fun h42 => ?_) (fun h42 => ?_)
    · have e : v.testBit i = false := ts_nt (fun z => h42 (if_pos z))
      refine m_ic (pc := 65) (v := 0) dX12_hoursAbove_65 rfl ?_
      refine s_iadd (pc := 66) dX12_hoursAbove_66 ?_
      refine m_nm (v' := nI ((sms v (fun c => cH D c * (ck D + cL D c - b)) i) + 0)) (nI_add (sms v (fun c => cH D c * (ck D + cL D c - b)) i) 0) ?_
      refine s_istore_n (pc := 67) (i := 3) dX12_hoursAbove_67 rfl (Nat.le_of_ble_eq_true rfl) ?_
      dsimp only [List.set, List.filter]
      refine m_inc (pc := 68) (v := 1) dX12_hoursAbove_68 rfl rfl ?_
      dsimp only [List.set, List.filter]
      rw [nI_1]
      refine s_goto (pc := 71) (tgt := 5) dX12_hoursAbove_71 rfl ?_
      have EE : sms v (fun c => cH D c * (ck D + cL D c - b)) (i + 1) = sms v (fun c => cH D c * (ck D + cL D c - b)) i + 0 := by rw [sms_1, if_neg (by rw [e]; decide)]
      rw [← EE]
      exact ih (i + 1) _ (by omega)
    · have e : v.testBit i = true := ts_nf (fun z => by rw [if_neg (by rw [z]; decide)] at h42; exact absurd h42 (by decide))
      refine s_iload (pc := 45) (i := 5) dX12_hoursAbove_45 rfl ?_
      refine s_ifle (pc := 47) (tgt := 65) dX12_hoursAbove_47 rfl (fun h47 => ?_) (fun h47 => ?_)
      · have e0 := nps (by omega) (by omega) h47
        refine m_ic (pc := 65) (v := 0) dX12_hoursAbove_65 rfl ?_
        refine s_iadd (pc := 66) dX12_hoursAbove_66 ?_
        refine m_nm (v' := nI ((sms v (fun c => cH D c * (ck D + cL D c - b)) i) + 0)) (nI_add (sms v (fun c => cH D c * (ck D + cL D c - b)) i) 0) ?_
        refine s_istore_n (pc := 67) (i := 3) dX12_hoursAbove_67 rfl (Nat.le_of_ble_eq_true rfl) ?_
        dsimp only [List.set, List.filter]
        refine m_inc (pc := 68) (v := 1) dX12_hoursAbove_68 rfl rfl ?_
        dsimp only [List.set, List.filter]
        rw [nI_1]
        refine s_goto (pc := 71) (tgt := 5) dX12_hoursAbove_71 rfl ?_
        have EE : sms v (fun c => cH D c * (ck D + cL D c - b)) (i + 1) = sms v (fun c => cH D c * (ck D + cL D c - b)) i + 0 := by rw [sms_1, if_pos e, e0, Nat.mul_zero]
        rw [← EE]
        exact ih (i + 1) _ (by omega)
      · have ep := pos_sub (T := ck D + cL D i) (m := b) (by omega) (by omega) (Int32.le_of_lt (Int32.not_le.mp h47))
        refine s_iload (pc := 50) (i := 5) dX12_hoursAbove_50 rfl ?_
        refine s_aload_n (pc := 52) (i := 0) dX12_hoursAbove_52 rfl rfl ?_
        refine m_gr (pc := 53) dX12_hoursAbove_53 ff_X12_32 rfl o_534 r_534_13 ?_
        refine m_ic (pc := 56) (v := 2) dX12_hoursAbove_56 rfl ?_
        refine s_iload (pc := 57) (i := 4) dX12_hoursAbove_57 rfl ?_
        refine s_imul (pc := 59) dX12_hoursAbove_59 ?_
        refine m_nm (v' := nI (2 * i)) (pk_mul 2 i) ?_
        refine m_ia (pc := 60) dX12_hoursAbove_60 a_540 (vp_in_nI (n := 2 * i) (by omega) (by decide)) ?_
        refine m_nm (v' := nI (cH D i)) (rdI (j := 2 * i) ((hW.1.2.2.2.2 i (by omega)).1) (by omega)) ?_
        refine s_imul (pc := 61) dX12_hoursAbove_61 ?_
        refine m_nm (v' := nI (cH D i * (ck D + cL D i - b))) (by rw [ep, pk_mul, Nat.mul_comm]) ?_
        refine s_goto (pc := 62) (tgt := 66) dX12_hoursAbove_62 rfl ?_
        refine s_iadd (pc := 66) dX12_hoursAbove_66 ?_
        refine m_nm (v' := nI ((sms v (fun c => cH D c * (ck D + cL D c - b)) i) + (cH D i * (ck D + cL D i - b)))) (nI_add (sms v (fun c => cH D c * (ck D + cL D c - b)) i) (cH D i * (ck D + cL D i - b))) ?_
        refine s_istore_n (pc := 67) (i := 3) dX12_hoursAbove_67 rfl (Nat.le_of_ble_eq_true rfl) ?_
        dsimp only [List.set, List.filter]
        refine m_inc (pc := 68) (v := 1) dX12_hoursAbove_68 rfl rfl ?_
        dsimp only [List.set, List.filter]
        rw [nI_1]
        refine s_goto (pc := 71) (tgt := 5) dX12_hoursAbove_71 rfl ?_
        have EE : sms v (fun c => cH D c * (ck D + cL D c - b)) (i + 1) = sms v (fun c => cH D c * (ck D + cL D c - b)) i + cH D i * (ck D + cL D i - b) := by rw [sms_1, if_pos e]
        rw [← EE]
        exact ih (i + 1) _ (by omega)
theorem c_X12_hoursAbove (hW : Wn I D cs S) (hv : v < 4096) (hb : b ≤ 60) (hq : Q (.inl (some (.int (nI (hab D v b))))) (Z I J n w)) : Cn g (d + 0) mX12_hoursAbove [.ref 534, .int (nI v), .int (nI b)] (Z I J n w) Q := by
  show Rn g (d + 0) mX12_hoursAbove 0 [.ref 534, .int (nI v), .int (nI b), .retAddr 0, .retAddr 0, .retAddr 0] [] [] (Z I J n w) Q
  refine m_ic (pc := 0) (v := 0) dX12_hoursAbove_0 rfl ?_
  refine s_istore_n (pc := 1) (i := 3) dX12_hoursAbove_1 rfl (Nat.le_of_ble_eq_true rfl) ?_
  dsimp only [List.set, List.filter]
  refine m_ic (pc := 2) (v := 0) dX12_hoursAbove_2 rfl ?_
  refine s_istore (pc := 3) (i := 4) dX12_hoursAbove_3 (Nat.le_of_ble_eq_true rfl) ?_
  dsimp only [List.set, List.filter]
  exact ha_lp hW hv hb hq (cc D) 0 _ (by omega)
theorem mxl_lp (hW : Wn I D cs S) (hv : v < 4096) (hq : Rn g (d + 2) mX12_ease 103 [.ref 534, .int (nI v), .int (nI k), .int (nI (mxl D v (cc D))), .int (nI (cc D))] [] [] (Z I J n w) Q) : ∀ f i, i + f = cc D → Rn g (d + 2) mX12_ease 51 [.ref 534, .int (nI v), .int (nI k), .int (nI (mxl D v i)), .int (nI i)] [] [] (Z I J n w) Q := by
  intro f
  induction f with
  | zero =>
    intro i hi
    have e : cc D = i := by omega
    subst e
    have hb7 := hW.2.1.1
    have hc12 := hW.2.1.2.1
    have hk40 := hW.2.1.2.2.1.2
    refine s_iload (pc := 51) (i := 4) dX12_ease_51 rfl ?_
    refine s_aload_n (pc := 53) (i := 0) dX12_ease_53 rfl rfl ?_
    refine m_gi (pc := 54) dX12_ease_54 ff_X12_157 rfl o_534 ?_
    refine m_nm (v' := nI (cc D)) (hW.1.2.1) ?_
    refine s_icge (pc := 57) (tgt := 103) dX12_ease_57 rfl (fun h57 => ?_) (fun h57 => absurd (nI_le (a := cc D) (b := (cc D)) (by omega) (by omega)) h57)
    exact hq
  | succ f ih =>
    intro i hi
    have hb7 := hW.2.1.1
    have hc12 := hW.2.1.2.1
    have hk40 := hW.2.1.2.2.1.2
    have hcL := hW.2.1.2.2.2.2 i (by omega)
    have hm9 := mxl_le (v := v) hW.2.1 i (by omega)
    refine s_iload (pc := 51) (i := 4) dX12_ease_51 rfl ?_
    refine s_aload_n (pc := 53) (i := 0) dX12_ease_53 rfl rfl ?_
    refine m_gi (pc := 54) dX12_ease_54 ff_X12_157 rfl o_534 ?_
    refine m_nm (v' := nI (cc D)) (hW.1.2.1) ?_
    refine s_icge (pc := 57) (tgt := 103) dX12_ease_57 rfl (fun h57 => absurd h57 (nI_ge (a := i) (b := cc D) (by omega) (by omega))) (fun h57 => ?_)
    refine s_iload_n (pc := 60) (i := 1) dX12_ease_60 rfl rfl ?_
    refine s_iload (pc := 61) (i := 4) dX12_ease_61 rfl ?_
    refine s_ishr (pc := 63) dX12_ease_63 ?_
    refine m_ic (pc := 64) (v := 1) dX12_ease_64 rfl ?_
    refine s_iand (pc := 65) dX12_ease_65 ?_
    refine m_nm (v' := if v.testBit i = true then 1 else 0) (tb_1 hv (by omega)) ?_
    refine m_ic (pc := 66) (v := 1) dX12_ease_66 rfl ?_
    refine s_icne (pc := 67) (tgt := 97) dX12_ease_67 rfl (fun h67 => ?_) (fun h67 => ?_)
    · have e : v.testBit i = false := ts_nt (fun z => h67 (if_pos z))
      refine m_inc (pc := 97) (v := 1) dX12_ease_97 rfl rfl ?_
      dsimp only [List.set, List.filter]
      rw [nI_1]
      refine s_goto (pc := 100) (tgt := 51) dX12_ease_100 rfl ?_
      have EE : mxl D v (i + 1) = mxl D v i := by rw [mxl_1, if_neg (by rw [e]; decide)]; omega
      have h := ih (i + 1) (by omega)
      rw [EE] at h; exact h
    · have e : v.testBit i = true := ts_nf (fun z => by rw [if_neg (by rw [z]; decide)] at h67; exact absurd h67 (by decide))
      refine s_aload_n (pc := 70) (i := 0) dX12_ease_70 rfl rfl ?_
      refine m_gr (pc := 71) dX12_ease_71 ff_X12_32 rfl o_534 r_534_13 ?_
      refine m_ic (pc := 74) (v := 2) dX12_ease_74 rfl ?_
      refine s_iload (pc := 75) (i := 4) dX12_ease_75 rfl ?_
      refine s_imul (pc := 77) dX12_ease_77 ?_
      refine m_nm (v' := nI (2 * i)) (pk_mul 2 i) ?_
      refine m_ic (pc := 78) (v := 1) dX12_ease_78 rfl ?_
      refine s_iadd (pc := 79) dX12_ease_79 ?_
      refine m_nm (v' := nI ((2 * i) + 1)) (nI_add (2 * i) 1) ?_
      refine m_ia (pc := 80) dX12_ease_80 a_540 (vp_in_nI (n := (2 * i) + 1) (by omega) (by decide)) ?_
      refine m_nm (v' := nI (cL D i)) (rdI (j := (2 * i) + 1) ((hW.1.2.2.2.2 i (by omega)).2) (by omega)) ?_
      refine s_iload_n (pc := 81) (i := 3) dX12_ease_81 rfl rfl ?_
      refine s_icle (pc := 82) (tgt := 97) dX12_ease_82 rfl (fun h82 => ?_) (fun h82 => ?_)
      · have h82 : (cL D i) ≤ (mxl D v i) := (nI_leI (a := cL D i) (b := mxl D v i) (by omega) (by omega)).mp h82
        refine m_inc (pc := 97) (v := 1) dX12_ease_97 rfl rfl ?_
        dsimp only [List.set, List.filter]
        rw [nI_1]
        refine s_goto (pc := 100) (tgt := 51) dX12_ease_100 rfl ?_
        have EE : mxl D v (i + 1) = mxl D v i := by rw [mxl_1, if_pos e]; omega
        have h := ih (i + 1) (by omega)
        rw [EE] at h; exact h
      · have h82 : ¬ (cL D i) ≤ (mxl D v i) := fun z => h82 ((nI_leI (a := cL D i) (b := mxl D v i) (by omega) (by omega)).mpr z)
        refine s_aload_n (pc := 85) (i := 0) dX12_ease_85 rfl rfl ?_
        refine m_gr (pc := 86) dX12_ease_86 ff_X12_32 rfl o_534 r_534_13 ?_
        refine m_ic (pc := 89) (v := 2) dX12_ease_89 rfl ?_
        refine s_iload (pc := 90) (i := 4) dX12_ease_90 rfl ?_
        refine s_imul (pc := 92) dX12_ease_92 ?_
        refine m_nm (v' := nI (2 * i)) (pk_mul 2 i) ?_
        refine m_ic (pc := 93) (v := 1) dX12_ease_93 rfl ?_
        refine s_iadd (pc := 94) dX12_ease_94 ?_
        refine m_nm (v' := nI ((2 * i) + 1)) (nI_add (2 * i) 1) ?_
        refine m_ia (pc := 95) dX12_ease_95 a_540 (vp_in_nI (n := (2 * i) + 1) (by omega) (by decide)) ?_
        refine m_nm (v' := nI (cL D i)) (rdI (j := (2 * i) + 1) ((hW.1.2.2.2.2 i (by omega)).2) (by omega)) ?_
        refine s_istore_n (pc := 96) (i := 3) dX12_ease_96 rfl (Nat.le_of_ble_eq_true rfl) ?_
        dsimp only [List.set, List.filter]
        refine m_inc (pc := 97) (v := 1) dX12_ease_97 rfl rfl ?_
        dsimp only [List.set, List.filter]
        rw [nI_1]
        refine s_goto (pc := 100) (tgt := 51) dX12_ease_100 rfl ?_
        have EE : mxl D v (i + 1) = cL D i := by rw [mxl_1, if_pos e]; omega
        have h := ih (i + 1) (by omega)
        rw [EE] at h; exact h
theorem eam_lp (hW : Wn I D cs S) (hv : v < 4096) (hk : k < 10000) (hq : Q (.inl (some (.int (nI (vEas D v k))))) (Z I J n w)) : ∀ f b, b + f = ck D + 9 → mxl D v (cc D) ≤ b → vEas D v k = eaV D v k f b → Rn g (d + 2) mX12_ease 103 [.ref 534, .int (nI v), .int (nI k), .int (nI b), .int (nI (cc D))] [] [] (Z I J n w) Q := by
  have hk40 := hW.2.1.2.2.1.2
  intro f
  induction f with
  | zero =>
    intro b hb hm hV
    have hV : vEas D v k = b := hV
    have hH : hab D v b = 0 := by rw [show b = ck D + 9 by omega]; exact hab_end hW.2.1
    refine s_aload_n (pc := 103) (i := 0) dX12_ease_103 rfl rfl ?_
    refine s_iload_n (pc := 104) (i := 1) dX12_ease_104 rfl rfl ?_
    refine s_iload_n (pc := 105) (i := 3) dX12_ease_105 rfl rfl ?_
    refine m_v2 (pc := 106) dX12_ease_106 lk_X12_413 ok_X12_hoursAbove (rcO o_534 (by decide) rfl) rfl rfl (c_X12_hoursAbove hW hv (by omega) (kt_s ?_))
    refine s_iload_n (pc := 109) (i := 2) dX12_ease_109 rfl rfl ?_
    refine s_icle (pc := 110) (tgt := 119) dX12_ease_110 rfl (fun h110 => ?_) (fun h110 => absurd (nI_le (a := hab D v b) (b := k) (by omega) (by omega)) h110)
    refine s_iload_n (pc := 119) (i := 1) dX12_ease_119 rfl rfl ?_
    refine s_ifne (pc := 120) (tgt := 127) dX12_ease_120 rfl (fun h120 => ?_) (fun h120 => ?_)
    · have h120 : ¬ v = 0 := fun z => h120 ((nI_eq (a := v) (b := 0) (by omega) (by omega)).mpr z)
      refine s_iload_n (pc := 127) (i := 3) dX12_ease_127 rfl rfl ?_
      refine s_ireturn (pc := 128) dX12_ease_128 rfl rfl ?_
      rw [hV] at hq; exact hq
    · have h120 : v = 0 := (nI_eq (a := v) (b := 0) (by omega) (by omega)).mp h120
      refine m_ic (pc := 123) (v := 0) dX12_ease_123 rfl ?_
      refine s_goto (pc := 124) (tgt := 128) dX12_ease_124 rfl ?_
      refine s_ireturn (pc := 128) dX12_ease_128 rfl rfl ?_
      subst h120
      rw [vEas_0] at hq; exact hq
  | succ f ih =>
    intro b hb hm hV
    have hS : hab D v b ≤ 5292 := hab_le hW.2.1
    rw [eaV] at hV
    by_cases hG : hab D v b ≤ k
    · rw [if_pos ⟨hm, hG⟩] at hV
      refine s_aload_n (pc := 103) (i := 0) dX12_ease_103 rfl rfl ?_
      refine s_iload_n (pc := 104) (i := 1) dX12_ease_104 rfl rfl ?_
      refine s_iload_n (pc := 105) (i := 3) dX12_ease_105 rfl rfl ?_
      refine m_v2 (pc := 106) dX12_ease_106 lk_X12_413 ok_X12_hoursAbove (rcO o_534 (by decide) rfl) rfl rfl (c_X12_hoursAbove hW hv (by omega) (kt_s ?_))
      refine s_iload_n (pc := 109) (i := 2) dX12_ease_109 rfl rfl ?_
      refine s_icle (pc := 110) (tgt := 119) dX12_ease_110 rfl (fun h110 => ?_) (fun h110 => absurd (nI_le (a := hab D v b) (b := k) (by omega) (by omega)) h110)
      refine s_iload_n (pc := 119) (i := 1) dX12_ease_119 rfl rfl ?_
      refine s_ifne (pc := 120) (tgt := 127) dX12_ease_120 rfl (fun h120 => ?_) (fun h120 => ?_)
      · have h120 : ¬ v = 0 := fun z => h120 ((nI_eq (a := v) (b := 0) (by omega) (by omega)).mpr z)
        refine s_iload_n (pc := 127) (i := 3) dX12_ease_127 rfl rfl ?_
        refine s_ireturn (pc := 128) dX12_ease_128 rfl rfl ?_
        rw [hV] at hq; exact hq
      · have h120 : v = 0 := (nI_eq (a := v) (b := 0) (by omega) (by omega)).mp h120
        refine m_ic (pc := 123) (v := 0) dX12_ease_123 rfl ?_
        refine s_goto (pc := 124) (tgt := 128) dX12_ease_124 rfl ?_
        refine s_ireturn (pc := 128) dX12_ease_128 rfl rfl ?_
        subst h120
        rw [vEas_0] at hq; exact hq
    · rw [if_neg (fun z => hG z.2)] at hV
      refine s_aload_n (pc := 103) (i := 0) dX12_ease_103 rfl rfl ?_
      refine s_iload_n (pc := 104) (i := 1) dX12_ease_104 rfl rfl ?_
      refine s_iload_n (pc := 105) (i := 3) dX12_ease_105 rfl rfl ?_
      refine m_v2 (pc := 106) dX12_ease_106 lk_X12_413 ok_X12_hoursAbove (rcO o_534 (by decide) rfl) rfl rfl (c_X12_hoursAbove hW hv (by omega) (kt_s ?_))
      refine s_iload_n (pc := 109) (i := 2) dX12_ease_109 rfl rfl ?_
      refine s_icle (pc := 110) (tgt := 119) dX12_ease_110 rfl (fun h110 => absurd h110 (nI_ge (a := k) (b := hab D v b) (by omega) (by omega))) (fun h110 => ?_)
      refine m_inc (pc := 113) (v := 1) dX12_ease_113 rfl rfl ?_
      dsimp only [List.set, List.filter]
      rw [nI_1]
      refine s_goto (pc := 116) (tgt := 103) dX12_ease_116 rfl ?_
      exact ih (b + 1) (by omega) (by omega) hV
theorem c_X12_ease (hW : Wn I D cs S) {x y : Int32} (r0 : ¬ iv 0 (2 ^ cc D) x → Q (.inl (some (.int 0))) (Z (thr I 1 1) J n w)) (r1 : iv 0 (2 ^ cc D) x → ¬ iv 0 (10000) y → Q (.inl (some (.int 0))) (Z (thr I 1 1) J n w)) (hg : ∀ v, ∀ k, x = nI v → v < 2 ^ cc D → y = nI k → k < 10000 → ∀ I', km I I' → I' 534 0 = 0 → Q (.inl (some (.int (nI (vEas D v k))))) (Z I' J n w)) : Cn g (d + 2) mX12_ease [.ref 534, .int x, .int y] (Z I J n w) Q := by
  have hb7 := hW.2.1.1
  have hc12 := hW.2.1.2.1
  show Rn g (d + 2) mX12_ease 0 [.ref 534, .int x, .int y, .retAddr 0, .retAddr 0] [] [] (Z I J n w) Q
  refine s_aload_n (pc := 0) (i := 0) dX12_ease_0 rfl rfl ?_
  refine m_ic (pc := 1) (v := 0) dX12_ease_1 rfl ?_
  refine m_pi (pc := 2) dX12_ease_2 ff_X12_3 rfl rfl o_534 ?_
  refine s_aload_n (pc := 5) (i := 0) dX12_ease_5 rfl rfl ?_
  refine s_iload_n (pc := 6) (i := 1) dX12_ease_6 rfl rfl ?_
  refine s_iflt (pc := 7) (tgt := 35) dX12_ease_7 rfl (fun a1 => ?_) (fun a1 => ?_)
  · skip
    refine m_ic (pc := 35) (v := 0) dX12_ease_35 rfl ?_
    refine m_ic (pc := 36) (v := 1) dX12_ease_36 rfl ?_
    refine m_ic (pc := 37) (v := 1) dX12_ease_37 rfl ?_
    refine m_v3 (pc := 38) dX12_ease_38 lk_X12_192 ok_X12_may (rcO o_534 (by decide) rfl) rfl rfl (c_may0 (k := 1) (by decide) rfl up_s (by decide) (kt_s ?_))
    · refine s_ifne (pc := 41) (tgt := 46) dX12_ease_41 rfl (fun h41 => absurd h41 (by decide)) (fun h41 => ?_)
      refine m_ic (pc := 44) (v := 0) dX12_ease_44 rfl ?_
      refine s_ireturn (pc := 45) dX12_ease_45 rfl rfl ?_
      rw [thr_0]
      exact r0  (fun u => by obtain ⟨q, e, _, _⟩ := u; rw [e] at a1; exact nI_pos (by have := p12 (m := cc D) (by omega); omega) a1)
  · skip
    refine s_iload_n (pc := 10) (i := 1) dX12_ease_10 rfl rfl ?_
    refine m_ic (pc := 11) (v := 1) dX12_ease_11 rfl ?_
    refine s_aload_n (pc := 12) (i := 0) dX12_ease_12 rfl rfl ?_
    refine m_gi (pc := 13) dX12_ease_13 ff_X12_157 rfl o_534 ?_
    refine m_nm (v' := nI (cc D)) ((up_k (by decide)).trans hW.1.2.1) ?_
    refine s_ishl (pc := 16) dX12_ease_16 ?_
    refine m_nm (v' := nI (2 ^ cc D)) (sh_1 (by omega)) ?_
    refine s_icge (pc := 17) (tgt := 35) dX12_ease_17 rfl (fun a2 => ?_) (fun a2 => ?_)
    · skip
      refine m_ic (pc := 35) (v := 0) dX12_ease_35 rfl ?_
      refine m_ic (pc := 36) (v := 1) dX12_ease_36 rfl ?_
      refine m_ic (pc := 37) (v := 1) dX12_ease_37 rfl ?_
      refine m_v3 (pc := 38) dX12_ease_38 lk_X12_192 ok_X12_may (rcO o_534 (by decide) rfl) rfl rfl (c_may0 (k := 1) (by decide) rfl up_s (by decide) (kt_s ?_))
      · refine s_ifne (pc := 41) (tgt := 46) dX12_ease_41 rfl (fun h41 => absurd h41 (by decide)) (fun h41 => ?_)
        refine m_ic (pc := 44) (v := 0) dX12_ease_44 rfl ?_
        refine s_ireturn (pc := 45) dX12_ease_45 rfl rfl ?_
        rw [thr_0]
        exact r0  (fun u => by obtain ⟨q, e, _, h⟩ := u; rw [e] at a2; exact absurd a2 (nI_ge h (by have := p12 (m := cc D) (by omega); omega)))
    · obtain ⟨v, hv0, ev⟩ := nI_of a1
      have hv : v < 2 ^ cc D := Nat.not_le.mp (fun z => a2 (by rw [ev]; exact nI_le z (by omega)))
      have p12 := p12 (m := cc D) (by omega)
      subst ev
      refine s_iload_n (pc := 20) (i := 2) dX12_ease_20 rfl rfl ?_
      refine m_ic (pc := 21) (v := 0) dX12_ease_21 rfl ?_
      refine m_si (pc := 22) (v := 9999) dX12_ease_22 rfl ?_
      refine m_s3 (pc := 25) dX12_ease_25 lk_X12_373 ok_X12_within rfl rfl (c_win (lo := 0) (m := 10000) rfl rfl (by decide) (fun k ek lk hk => kt_s ?_) (fun z => kt_s ?_))
      · subst ek
        refine s_ifeq (pc := 28) (tgt := 35) dX12_ease_28 rfl (fun h28 => absurd h28 (by decide)) (fun h28 => ?_)
        refine m_ic (pc := 31) (v := 1) dX12_ease_31 rfl ?_
        refine s_goto (pc := 32) (tgt := 36) dX12_ease_32 rfl ?_
        refine m_ic (pc := 36) (v := 1) dX12_ease_36 rfl ?_
        refine m_ic (pc := 37) (v := 1) dX12_ease_37 rfl ?_
        refine m_v3 (pc := 38) dX12_ease_38 lk_X12_192 ok_X12_may (rcO o_534 (by decide) rfl) rfl rfl (c_may1 (k := 1) (by decide) rfl up_s (by decide) (kt_s ?_))
        · refine s_ifne (pc := 41) (tgt := 46) dX12_ease_41 rfl (fun h41 => ?_) (fun h41 => absurd h41 (by decide))
          refine m_ic (pc := 46) (v := 0) dX12_ease_46 rfl ?_
          refine s_istore_n (pc := 47) (i := 3) dX12_ease_47 rfl (Nat.le_of_ble_eq_true rfl) ?_
          dsimp only [List.set, List.filter]
          refine m_ic (pc := 48) (v := 0) dX12_ease_48 rfl ?_
          refine s_istore (pc := 49) (i := 4) dX12_ease_49 (Nat.le_of_ble_eq_true rfl) ?_
          dsimp only [List.set, List.filter]
          have hm9 := mxl_le (v := v) hW.2.1 (cc D) (Nat.le_refl _)
          refine mxl_lp (Wn_0 hW) (by omega) ?_ (cc D) 0 (by omega)
          exact eam_lp (Wn_0 hW) (by omega) hk (hg v k rfl hv rfl hk _ th_k up_s) (ck D + 9 - mxl D v (cc D)) (mxl D v (cc D)) (by omega) (Nat.le_refl _) (eaV_up _ (by omega) (fun j hj z => absurd z.1 (by omega)))
      · refine s_ifeq (pc := 28) (tgt := 35) dX12_ease_28 rfl (fun h28 => ?_) (fun h28 => absurd h28 (by decide))
        refine m_ic (pc := 35) (v := 0) dX12_ease_35 rfl ?_
        refine m_ic (pc := 36) (v := 1) dX12_ease_36 rfl ?_
        refine m_ic (pc := 37) (v := 1) dX12_ease_37 rfl ?_
        refine m_v3 (pc := 38) dX12_ease_38 lk_X12_192 ok_X12_may (rcO o_534 (by decide) rfl) rfl rfl (c_may0 (k := 1) (by decide) rfl up_s (by decide) (kt_s ?_))
        · refine s_ifne (pc := 41) (tgt := 46) dX12_ease_41 rfl (fun h41 => absurd h41 (by decide)) (fun h41 => ?_)
          refine m_ic (pc := 44) (v := 0) dX12_ease_44 rfl ?_
          refine s_ireturn (pc := 45) dX12_ease_45 rfl rfl ?_
          rw [thr_0]
          exact r1 ⟨v, rfl, Nat.zero_le _, hv⟩ (z)
end S
