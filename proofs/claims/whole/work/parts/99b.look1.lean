section S
variable {g : aG} {d : Nat} {I : Nat → Nat → Int32} {J : Nat → Nat → Int64} {n w : Nat} {Q : aO → aS → Prop}
variable {σ : aS} {S : sD} {D : cD} {cs : List Nat} {a b c k v : Nat} {B : Nat → Option Nat}
theorem max_d {x y : Nat} (hx : x < 2 ^ 20) (hy : y < 2 ^ 20) : (if nI x < nI y then nI y else nI x) = nI (max x y) := by
  by_cases h : x < y
  · rw [if_pos (nI_lt h (by omega)), Nat.max_eq_right (by omega)]
  · rw [if_neg (nI_nlt (by omega) (by omega)), Nat.max_eq_left (by omega)]
theorem adn_le (hk : cOk D) (hc : c < cc D) : adn D cs S b c ≤ 135 := by
  unfold adn; split
  · exact Nat.zero_le _
  · exact bur_le hk hc
/-- the key of a pair for the back a -/
def kL (D : cD) (cs : List Nat) (S : sD) (a b c : Nat) : Nat := if b = a then adn D cs S b c else 0
def tR (D : cD) (cs : List Nat) (S : sD) (B : Nat → Option Nat) (a v i : Nat) : Nat := cnr (fiP D cs S B) (kL D cs S a) v a i
theorem tR_n {i : Nat} (h : fiP D cs S B a i = false) : tR D cs S B a v (i + 1) = tR D cs S B a v i := bc_nn (by rw [h]; rfl)
theorem tR_y {i : Nat} (h : fiP D cs S B a i = true) : tR D cs S B a (adn D cs S a i) (i + 1) = tR D cs S B a (adn D cs S a i) i + 1 := bc_yy (by rw [h, kL, if_pos rfl]; simp)
theorem tR_o {i : Nat} (h : v ≠ adn D cs S a i) : tR D cs S B a v (i + 1) = tR D cs S B a v i := bc_nn (by rw [kL, if_pos rfl, decide_eq_false (fun z => h z.symm)]; simp)
theorem tR_le {i : Nat} : tR D cs S B a v i ≤ i := bc_le _ _
def ftl (I I' : Nat → Nat → Int32) : Prop := ∀ x j, x ≠ 16 → x ≠ 17 → x ≠ 525 → I' x j = I x j
theorem ftl_g {I' : Nat → Nat → Int32} (h : ftl I I') : fgs I I' := fun x j a b _ d => h x j a b d
theorem ftl_l {I' I'' : Nat → Nat → Int32} (h : ftl I I') (h2 : fl I' I'') : ftl I I'' := fun x j a b c => (h2 x j a b).trans (h x j a b c)
theorem ftl_u {I' : Nat → Nat → Int32} {j : Nat} {x : Int32} (h : ftl I I') : ftl I (up I' 525 j x) := fun y t a b c => (up_a c).trans (h y t a b c)
def wLf (D : cD) (cs : List Nat) (S : sD) (B : Nat → Option Nat) (a : Nat) : Nat := mxv (cnv (fiP D cs S B) (kL D cs S a) (cc D) (cb D)) 136
theorem own_le : ∀ m, a < m → bc (fiP D cs S B a) (cc D) ≤ fb_sm (fun b => bc (fiP D cs S B b) (cc D)) m := fun m h => by
  have h1 := fb_sm_part (fun b => bc (fiP D cs S B b) (cc D)) h
  omega
theorem cn_end (ha : a < cb D) : cnv (fiP D cs S B) (kL D cs S a) (cc D) (cb D) v = tR D cs S B a v (cc D) + (if v = 0 then (fpA (fiP D cs S B) (cc D) (cb D)).1 - bc (fiP D cs S B a) (cc D) else 0) := by
  have h := cnv_a (P := fiP D cs S B) (K := kL D cs S a) (a := a) (C := cc D) (fun b c z => if_neg z) v (cb D)
  have h2 := own_le (D := D) (cs := cs) (S := S) (B := B) (cb D) ha
  rw [if_pos ha] at h
  rw [fpA_1]
  have h3 : tR D cs S B a v (cc D) = cnr (fiP D cs S B) (kL D cs S a) v a (cc D) := rfl
  rw [h3]
  by_cases z : v = 0
  · rw [if_pos ⟨ha, z⟩, if_pos z] at h; rw [if_pos z]; omega
  · rw [if_neg (fun y => z y.2), if_neg z] at h; rw [if_neg z]; omega
theorem cn_le (ha : a < cb D) (hk : cOk D) : cnv (fiP D cs S B) (kL D cs S a) (cc D) (cb D) v ≤ 1000 := by
  have h1 := (fpA_I (P := fiP D cs S B) hk.2.1 (cb D) hk.1).1
  have h2 := tR_le (D := D) (cs := cs) (S := S) (B := B) (a := a) (v := v) (i := cc D)
  have h3 := hk.1
  have h4 := hk.2.1
  rw [cn_end ha]; split <;> omega
theorem wm_lp {f1 : Nat → Nat} {y3 : Int32} (hT : ∀ v, v < 136 → I 525 v = nI (f1 v)) (hT2 : ∀ v, v < 136 → f1 v ≤ 1000) (hq : Q (.inl (some (.int (nI (mxv f1 136))))) (Z I J n w)) : ∀ f i (v8 : Value), i + f = 136 → Rn g (d + 5) mX2_worstLeft 109 [.ref 524, .ref 33, .int (nI a), .int y3, .int (nI (mxv f1 i)), .ref 525, .int (nI 136), .int (nI i), v8] [] [] (Z I J n w) Q := by
  intro f
  induction f with
  | zero =>
    intro i v8 hi
    have e : 136 = i := by omega
    subst e
    refine s_iload (pc := 109) (i := 7) dX2_worstLeft_109 rfl ?_
    refine s_iload (pc := 111) (i := 6) dX2_worstLeft_111 rfl ?_
    refine s_icge (pc := 113) (tgt := 138) dX2_worstLeft_113 rfl (fun h113 => ?_) (fun h113 => absurd (nI_le (a := 136) (b := 136) (by omega) (by omega)) h113)
    refine s_iload (pc := 138) (i := 4) dX2_worstLeft_138 rfl ?_
    refine s_ireturn (pc := 140) dX2_worstLeft_140 rfl rfl ?_
    exact hq
  | succ f ih =>
    intro i v8 hi
    have h1 := mxv_le (f := f1) (x := 1000) i (fun j hj => hT2 j (by omega))
    have h2 := hT2 i (by omega)
    refine s_iload (pc := 109) (i := 7) dX2_worstLeft_109 rfl ?_
    refine s_iload (pc := 111) (i := 6) dX2_worstLeft_111 rfl ?_
    refine s_icge (pc := 113) (tgt := 138) dX2_worstLeft_113 rfl (fun h113 => absurd h113 (nI_ge (a := i) (b := 136) (by omega) (by omega))) (fun h113 => ?_)
    refine s_aload (pc := 116) (i := 5) dX2_worstLeft_116 rfl ?_
    refine s_iload (pc := 118) (i := 7) dX2_worstLeft_118 rfl ?_
    refine m_ia (pc := 120) dX2_worstLeft_120 a_525 (vp_in_nI (n := i) (by omega) (by decide)) ?_
    refine m_nm (v' := nI (f1 i)) (rdI (j := i) (hT i (by omega)) (by omega)) ?_
    refine s_istore (pc := 121) (i := 8) dX2_worstLeft_121 (Nat.le_of_ble_eq_true rfl) ?_
    dsimp only [List.set, List.filter]
    refine s_iload (pc := 123) (i := 4) dX2_worstLeft_123 rfl ?_
    refine s_iload (pc := 125) (i := 8) dX2_worstLeft_125 rfl ?_
    refine m_max (pc := 127) dX2_worstLeft_127 ml_X2_91 (Nat.le_of_ble_eq_true rfl) ?_
    refine m_nm (v' := nI (mxv f1 (i + 1))) (max_d (by omega) (by omega)) ?_
    refine s_istore (pc := 130) (i := 4) dX2_worstLeft_130 (Nat.le_of_ble_eq_true rfl) ?_
    dsimp only [List.set, List.filter]
    refine m_inc (pc := 132) (v := 1) dX2_worstLeft_132 rfl rfl ?_
    dsimp only [List.set, List.filter]
    rw [nI_1]
    refine s_goto (pc := 135) (tgt := 109) dX2_worstLeft_135 rfl ?_
    exact ih (i + 1) _ (by omega)
theorem wl_lp (hW : Wc I 33 D cs S) (hB : Bc I 22 B k) (hbk : bOk B) (ha : a < cb D) (hc : ∀ I' v5, ftl I I' → (∀ v, v < 136 → I' 525 v = nI (tR D cs S B a v (cc D))) → Rn g (d + 5) mX2_worstLeft 77 [.ref 524, .ref 33, .int (nI a), .int (nI (bc (fiP D cs S B a) (cc D))), .int (nI (cc D)), v5, .retAddr 0, .retAddr 0, .retAddr 0] [] [] (Z I' J n w) Q) : ∀ f i I1 (v5 : Value), i + f = cc D → ftl I I1 → (∀ v, v < 136 → I1 525 v = nI (tR D cs S B a v i)) → Rn g (d + 5) mX2_worstLeft 13 [.ref 524, .ref 33, .int (nI a), .int (nI (bc (fiP D cs S B a) i)), .int (nI i), v5, .retAddr 0, .retAddr 0, .retAddr 0] [] [] (Z I1 J n w) Q := by
  intro f
  induction f with
  | zero =>
    intro i I1 v5 hi hF hM
    have e : cc D = i := by omega
    subst e
    have hb7 := hW.2.1.1
    have hc12 := hW.2.1.2.1
    refine s_iload (pc := 13) (i := 4) dX2_worstLeft_13 rfl ?_
    refine s_aload_n (pc := 15) (i := 0) dX2_worstLeft_15 rfl rfl ?_
    refine m_gr (pc := 16) dX2_worstLeft_16 ff_X2_15 rfl o_524 r_524_0 ?_
    refine m_gr (pc := 19) dX2_worstLeft_19 ff_X2_30 rfl o_31 r_31_0 ?_
    refine m_gi (pc := 22) dX2_worstLeft_22 ff_X2_41 rfl o_4 ?_
    refine m_nm (v' := nI (cc D)) ((Wc_g hW (ftl_g hF)).1.2.1) ?_
    refine s_icge (pc := 25) (tgt := 77) dX2_worstLeft_25 rfl (fun h25 => ?_) (fun h25 => absurd (nI_le (a := cc D) (b := (cc D)) (by omega) (by omega)) h25)
    exact hc I1 v5 hF hM
  | succ f ih =>
    intro i I1 v5 hi hF hM
    have hb7 := hW.2.1.1
    have hc12 := hW.2.1.2.1
    have hA := adn_le (cs := cs) (S := S) (b := a) hW.2.1 (show i < cc D by omega)
    refine s_iload (pc := 13) (i := 4) dX2_worstLeft_13 rfl ?_
    refine s_aload_n (pc := 15) (i := 0) dX2_worstLeft_15 rfl rfl ?_
    refine m_gr (pc := 16) dX2_worstLeft_16 ff_X2_15 rfl o_524 r_524_0 ?_
    refine m_gr (pc := 19) dX2_worstLeft_19 ff_X2_30 rfl o_31 r_31_0 ?_
    refine m_gi (pc := 22) dX2_worstLeft_22 ff_X2_41 rfl o_4 ?_
    refine m_nm (v' := nI (cc D)) ((Wc_g hW (ftl_g hF)).1.2.1) ?_
    refine s_icge (pc := 25) (tgt := 77) dX2_worstLeft_25 rfl (fun h25 => absurd h25 (nI_ge (a := i) (b := cc D) (by omega) (by omega))) (fun h25 => ?_)
    refine s_aload_n (pc := 28) (i := 0) dX2_worstLeft_28 rfl rfl ?_
    refine s_aload_n (pc := 29) (i := 1) dX2_worstLeft_29 rfl rfl ?_
    refine s_iload_n (pc := 30) (i := 2) dX2_worstLeft_30 rfl rfl ?_
    refine s_iload (pc := 31) (i := 4) dX2_worstLeft_31 rfl ?_
    refine m_v3 (pc := 33) dX2_worstLeft_33 lk_X2_44 ok_X2_added (rcO o_524 (by decide) rfl) rfl rfl (c_X2_added (Wc_g hW (ftl_g hF)) ha (by omega) (fun I2 f2 => kt_s ?_))
    refine s_istore (pc := 36) (i := 5) dX2_worstLeft_36 (Nat.le_of_ble_eq_true rfl) ?_
    dsimp only [List.set, List.filter]
    refine s_iload (pc := 38) (i := 5) dX2_worstLeft_38 rfl ?_
    refine m_si (pc := 40) (v := 135) dX2_worstLeft_40 rfl ?_
    refine s_icgt (pc := 43) (tgt := 71) dX2_worstLeft_43 rfl (fun h43 => absurd h43 (nI_nlt (a := 135) (b := adn D cs S a i) (by omega) (by omega))) (fun h43 => ?_)
    refine s_aload_n (pc := 46) (i := 0) dX2_worstLeft_46 rfl rfl ?_
    refine s_aload_n (pc := 47) (i := 1) dX2_worstLeft_47 rfl rfl ?_
    refine s_iload_n (pc := 48) (i := 2) dX2_worstLeft_48 rfl rfl ?_
    refine s_iload (pc := 49) (i := 5) dX2_worstLeft_49 rfl ?_
    refine m_v3 (pc := 51) dX2_worstLeft_51 lk_X2_48 ok_X2_isRight (rcO o_524 (by decide) rfl) rfl rfl (c_X2_isRight (Wc_g hW (ftl_g (ftl_l hF f2))) (Bc_g hB (ftl_g (ftl_l hF f2))) hbk ha (fun z => kt_s ?_) (fun z => kt_s ?_))
    · refine s_ifeq (pc := 54) (tgt := 71) dX2_worstLeft_54 rfl (fun h54 => absurd h54 (by decide)) (fun h54 => ?_)
      refine s_aload_n (pc := 57) (i := 0) dX2_worstLeft_57 rfl rfl ?_
      refine m_gr (pc := 58) dX2_worstLeft_58 ff_X2_11 rfl o_524 r_524_2 ?_
      refine s_iload (pc := 61) (i := 5) dX2_worstLeft_61 rfl ?_
      refine s_dup2 (pc := 63) dX2_worstLeft_63 rfl rfl ?_
      refine m_ia (pc := 64) dX2_worstLeft_64 a_525 (vp_in_nI (n := adn D cs S a i) (by omega) (by decide)) ?_
      refine m_nm (v' := nI (tR D cs S B a (adn D cs S a i) i)) (rdI (j := adn D cs S a i) ((f2 525 _ (by decide) (by decide)).trans (hM _ (by omega))) (by omega)) ?_
      refine m_ic (pc := 65) (v := 1) dX2_worstLeft_65 rfl ?_
      refine s_iadd (pc := 66) dX2_worstLeft_66 ?_
      refine m_nm (v' := nI ((tR D cs S B a (adn D cs S a i) i) + 1)) (nI_add (tR D cs S B a (adn D cs S a i) i) 1) ?_
      refine m_is (pc := 67) dX2_worstLeft_67 a_525 (vp_in_nI (n := adn D cs S a i) (by omega) (by decide)) ?_
      rw [nI_clamp (n := adn D cs S a i) (by omega)]
      refine m_inc (pc := 68) (v := 1) dX2_worstLeft_68 rfl rfl ?_
      dsimp only [List.set, List.filter]
      rw [nI_1]
      refine m_inc (pc := 71) (v := 1) dX2_worstLeft_71 rfl rfl ?_
      dsimp only [List.set, List.filter]
      rw [nI_1]
      refine s_goto (pc := 74) (tgt := 13) dX2_worstLeft_74 rfl ?_
      have E : bc (fiP D cs S B a) (i + 1) = bc (fiP D cs S B a) i + 1 := bc_yy z
      rw [← E]
      refine ih (i + 1) _ _ (by omega) (ftl_u (ftl_l hF f2)) (fun v hv => ?_)
      by_cases e : v = adn D cs S a i
      · subst e; rw [up_s, tR_y z]
      · rw [up_k e, tR_o e]; exact (f2 525 v (by decide) (by decide)).trans (hM v hv)
    · refine s_ifeq (pc := 54) (tgt := 71) dX2_worstLeft_54 rfl (fun h54 => ?_) (fun h54 => absurd h54 (by decide))
      refine m_inc (pc := 71) (v := 1) dX2_worstLeft_71 rfl rfl ?_
      dsimp only [List.set, List.filter]
      rw [nI_1]
      refine s_goto (pc := 74) (tgt := 13) dX2_worstLeft_74 rfl ?_
      have E : bc (fiP D cs S B a) (i + 1) = bc (fiP D cs S B a) i := bc_nn z
      rw [← E]
      exact ih (i + 1) I2 _ (by omega) (ftl_l hF f2) (fun v hv => by rw [tR_n z]; exact (f2 525 v (by decide) (by decide)).trans (hM v hv))
end S
