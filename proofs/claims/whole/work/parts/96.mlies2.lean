section S
variable {g : aG} {d : Nat} {I : Nat → Nat → Int32} {J : Nat → Nat → Int64} {n w : Nat} {Q : aO → aS → Prop}
variable {σ : aS} {S : sD} {D : cD} {cs : List Nat} {a b c k v : Nat}
theorem li1_lp {q e : Nat} (hc : ∀ J1, kj J J1 → (∀ j, j < 14 → J1 558 j = lN (dpp 0 q j)) → Rn g (d + 2) mX12_lies 94 [.ref 534, .int (nI a), .int (nI k), .int (nI q), .int (nI e), .int (nI 14), .retAddr 0, .retAddr 0, .retAddr 0, .retAddr 0] [] [] (Z I J1 n w) Q) : ∀ f i J1, i + f = 14 → kj J J1 → (∀ j, j < i → J1 558 j = lN (dpp 0 q j)) → Rn g (d + 2) mX12_lies 64 [.ref 534, .int (nI a), .int (nI k), .int (nI q), .int (nI e), .int (nI i), .retAddr 0, .retAddr 0, .retAddr 0, .retAddr 0] [] [] (Z I J1 n w) Q := by
  intro f
  induction f with
  | zero =>
    intro i J1 hi hk h
    have e0 : 14 = i := by omega
    subst e0
    refine s_iload (pc := 64) (i := 5) dX12_lies_64 rfl ?_
    refine m_bi (pc := 66) (v := 14) dX12_lies_66 rfl ?_
    refine s_icge (pc := 68) (tgt := 94) dX12_lies_68 rfl (fun h68 => ?_) (fun h68 => absurd (nI_le (a := 14) (b := 14) (by omega) (by omega)) h68)
    exact hc J1 hk h
  | succ f ih =>
    intro i J1 hi hk h
    refine s_iload (pc := 64) (i := 5) dX12_lies_64 rfl ?_
    refine m_bi (pc := 66) (v := 14) dX12_lies_66 rfl ?_
    refine s_icge (pc := 68) (tgt := 94) dX12_lies_68 rfl (fun h68 => absurd h68 (nI_ge (a := i) (b := 14) (by omega) (by omega))) (fun h68 => ?_)
    refine s_aload_n (pc := 71) (i := 0) dX12_lies_71 rfl rfl ?_
    refine m_gr (pc := 72) dX12_lies_72 ff_X12_86 rfl o_534 r_534_47 ?_
    refine s_iload (pc := 75) (i := 5) dX12_lies_75 rfl ?_
    refine s_iload (pc := 77) (i := 5) dX12_lies_77 rfl ?_
    refine s_ifne (pc := 79) (tgt := 86) dX12_lies_79 rfl (fun h79 => ?_) (fun h79 => ?_)
    · have h79 : ¬ i = 0 := fun z => h79 ((nI_eq (a := i) (b := 0) (by omega) (by omega)).mpr z)
      refine m_lc (pc := 86) (v := 0) dX12_lies_86 rfl ?_
      refine m_ls (pc := 87) dX12_lies_87 a_558 (vp_in_nI (n := i) (by omega) (by decide)) ?_
      rw [nI_clamp (n := i) (by omega)]
      refine m_inc (pc := 88) (v := 1) dX12_lies_88 rfl rfl ?_
      dsimp only [List.set, List.filter]
      rw [nI_1]
      refine s_goto (pc := 91) (tgt := 64) dX12_lies_91 rfl ?_
      exact ih (i + 1) _ (by omega) (kj_u hk) (fun j hj => by
        by_cases z : j = i
        · subst z; rw [uJ_s]; show (0 : Int64) = lN (if j = 0 then 1 else 0); rw [if_neg h79]; rfl
        · rw [uJ_n z]; exact h j (by omega))
    · have h79 : i = 0 := (nI_eq (a := i) (b := 0) (by omega) (by omega)).mp h79
      refine m_lc (pc := 82) (v := 1) dX12_lies_82 rfl ?_
      refine s_goto (pc := 83) (tgt := 87) dX12_lies_83 rfl ?_
      refine m_ls (pc := 87) dX12_lies_87 a_558 (vp_in_nI (n := i) (by omega) (by decide)) ?_
      rw [nI_clamp (n := i) (by omega)]
      refine m_inc (pc := 88) (v := 1) dX12_lies_88 rfl rfl ?_
      dsimp only [List.set, List.filter]
      rw [nI_1]
      refine s_goto (pc := 91) (tgt := 64) dX12_lies_91 rfl ?_
      exact ih (i + 1) _ (by omega) (kj_u hk) (fun j hj => by
        by_cases z : j = i
        · subst z; rw [uJ_s]; show (1 : Int64) = lN (if j = 0 then 1 else 0); rw [if_pos h79]; rfl
        · rw [uJ_n z]; exact h j (by omega))
theorem li2_lp {q e r : Nat} (hq16 : q < 17) (hc : ∀ J1, kj J J1 → (∀ j, j < 14 → J1 558 j = lN (dpp (r + 1) q j)) → Rn g (d + 2) mX12_lies 163 [.ref 534, .int (nI a), .int (nI k), .int (nI q), .int (nI e), .retAddr 0, .retAddr 0, .int (nI r), .int (-1), .retAddr 0] [(5, lN (16 ^ r))] [] (Z I J1 n w) Q) : ∀ m J1, m ≤ 14 → kj J J1 → (∀ j, j < m → J1 558 j = lN (dpp r q j)) → (∀ j, m ≤ j → j < 14 → J1 558 j = lN (dpp (r + 1) q j)) → Rn g (d + 2) mX12_lies 110 [.ref 534, .int (nI a), .int (nI k), .int (nI q), .int (nI e), .retAddr 0, .retAddr 0, .int (nI r), .int (nI m + -1), .retAddr 0] [(5, lN (16 ^ r))] [] (Z I J1 n w) Q := by
  intro m
  induction m with
  | zero =>
    intro J1 hm hk h1 h2
    rw [show nI 0 + -1 = (-1 : Int32) from by decide]
    refine s_iload (pc := 110) (i := 8) dX12_lies_110 rfl ?_
    refine s_iflt (pc := 112) (tgt := 163) dX12_lies_112 rfl (fun h112 => ?_) (fun h112 => absurd h112 (by decide))
    exact hc J1 hk (fun j hj => h2 j (Nat.zero_le _) hj)
  | succ m ih =>
    intro J1 hm hk h1 h2
    rw [pk_m1]
    refine s_iload (pc := 110) (i := 8) dX12_lies_110 rfl ?_
    refine s_iflt (pc := 112) (tgt := 163) dX12_lies_112 rfl (fun h112 => absurd h112 (nI_nlt (a := m) (b := 0) (by omega) (by omega))) (fun h112 => ?_)
    refine s_aload_n (pc := 115) (i := 0) dX12_lies_115 rfl rfl ?_
    refine m_gr (pc := 116) dX12_lies_116 ff_X12_86 rfl o_534 r_534_47 ?_
    refine s_iload (pc := 119) (i := 8) dX12_lies_119 rfl ?_
    refine s_aload_n (pc := 121) (i := 0) dX12_lies_121 rfl rfl ?_
    refine m_gr (pc := 122) dX12_lies_122 ff_X12_86 rfl o_534 r_534_47 ?_
    refine s_iload (pc := 125) (i := 8) dX12_lies_125 rfl ?_
    refine m_la (pc := 127) dX12_lies_127 a_558 (vp_in_nI (n := m) (by omega) (by decide)) ?_
    refine m_nl (v' := lN (dpp r q m)) (rdJ (h1 m (by omega)) (by omega)) ?_
    refine m_bi (pc := 128) (v := 16) dX12_lies_128 rfl ?_
    refine s_iload_n (pc := 130) (i := 3) dX12_lies_130 rfl rfl ?_
    refine s_isub (pc := 131) dX12_lies_131 ?_
    refine m_nm (v' := nI (16 - q)) (pk_sub (a := 16) (b := q) (by omega)) ?_
    refine s_i2l (pc := 132) dX12_lies_132 ?_
    refine m_nl (v' := lN (16 - q)) (nI_l (by omega)) ?_
    refine s_lmul (pc := 133) dX12_lies_133 ?_
    refine m_nl (v' := lN (dpp r q m * (16 - q))) (lN_mul _ _) ?_
    refine s_iload (pc := 134) (i := 8) dX12_lies_134 rfl ?_
    refine s_ifle (pc := 136) (tgt := 154) dX12_lies_136 rfl (fun h136 => ?_) (fun h136 => ?_)
    · have h136 : m ≤ 0 := (nI_leI (a := m) (b := 0) (by omega) (by omega)).mp h136
      refine m_lc (pc := 154) (v := 0) dX12_lies_154 rfl ?_
      refine s_ladd (pc := 155) dX12_lies_155 ?_
      refine m_nl (v' := lN (dpp (r + 1) q m)) ((lN_add _ 0).trans (by rw [dpp_1, if_pos (by omega)])) ?_
      refine m_ls (pc := 156) dX12_lies_156 a_558 (vp_in_nI (n := m) (by omega) (by decide)) ?_
      rw [nI_clamp (n := m) (by omega)]
      refine m_inc (pc := 157) (v := (-1)) dX12_lies_157 rfl rfl ?_
      dsimp only [List.set, List.filter]
      refine s_goto (pc := 160) (tgt := 110) dX12_lies_160 rfl ?_
      exact ih _ (by omega) (kj_u hk) (fun j hj => by rw [uJ_n (by omega)]; exact h1 j (by omega)) (fun j hj h14 => by
        by_cases z : j = m
        · subst z; rw [uJ_s]
        · rw [uJ_n z]; exact h2 j (by omega) h14)
    · have h136 : ¬ m ≤ 0 := fun z => h136 ((nI_leI (a := m) (b := 0) (by omega) (by omega)).mpr z)
      refine s_aload_n (pc := 139) (i := 0) dX12_lies_139 rfl rfl ?_
      refine m_gr (pc := 140) dX12_lies_140 ff_X12_86 rfl o_534 r_534_47 ?_
      refine s_iload (pc := 143) (i := 8) dX12_lies_143 rfl ?_
      refine m_ic (pc := 145) (v := 1) dX12_lies_145 rfl ?_
      refine s_isub (pc := 146) dX12_lies_146 ?_
      refine m_nm (v' := nI (m - 1)) (pk_sub (b := 1) (by omega)) ?_
      refine m_la (pc := 147) dX12_lies_147 a_558 (vp_in_nI (n := m - 1) (by omega) (by decide)) ?_
      refine m_nl (v' := lN (dpp r q (m - 1))) (rdJ (h1 (m - 1) (by omega)) (by omega)) ?_
      refine s_iload_n (pc := 148) (i := 3) dX12_lies_148 rfl rfl ?_
      refine s_i2l (pc := 149) dX12_lies_149 ?_
      refine m_nl (v' := lN q) (nI_l (by omega)) ?_
      refine s_lmul (pc := 150) dX12_lies_150 ?_
      refine m_nl (v' := lN (dpp r q (m - 1) * q)) (lN_mul _ _) ?_
      refine s_goto (pc := 151) (tgt := 155) dX12_lies_151 rfl ?_
      refine s_ladd (pc := 155) dX12_lies_155 ?_
      refine m_nl (v' := lN (dpp (r + 1) q m)) ((lN_add _ _).trans (by rw [dpp_1, if_neg (by omega)])) ?_
      refine m_ls (pc := 156) dX12_lies_156 a_558 (vp_in_nI (n := m) (by omega) (by decide)) ?_
      rw [nI_clamp (n := m) (by omega)]
      refine m_inc (pc := 157) (v := (-1)) dX12_lies_157 rfl rfl ?_
      dsimp only [List.set, List.filter]
      refine s_goto (pc := 160) (tgt := 110) dX12_lies_160 rfl ?_
      exact ih _ (by omega) (kj_u hk) (fun j hj => by rw [uJ_n (by omega)]; exact h1 j (by omega)) (fun j hj h14 => by
        by_cases z : j = m
        · subst z; rw [uJ_s]
        · rw [uJ_n z]; exact h2 j (by omega) h14)
theorem li3_lp {q e : Nat} (ha : a < 13) (hq16 : q < 17) (hc : ∀ J1 v8, kj J J1 → (∀ j, j < 14 → J1 558 j = lN (dpp a q j)) → Rn g (d + 2) mX12_lies 177 [.ref 534, .int (nI a), .int (nI k), .int (nI q), .int (nI e), .retAddr 0, .retAddr 0, .int (nI a), v8, .retAddr 0] [(5, lN (16 ^ a))] [] (Z I J1 n w) Q) : ∀ f r J1 v8, r + f = a → kj J J1 → (∀ j, j < 14 → J1 558 j = lN (dpp r q j)) → Rn g (d + 2) mX12_lies 100 [.ref 534, .int (nI a), .int (nI k), .int (nI q), .int (nI e), .retAddr 0, .retAddr 0, .int (nI r), v8, .retAddr 0] [(5, lN (16 ^ r))] [] (Z I J1 n w) Q := by
  intro f
  induction f with
  | zero =>
    intro r J1 v8 hr hk h
    have e0 : a = r := by omega
    subst e0
    refine s_iload (pc := 100) (i := 7) dX12_lies_100 rfl ?_
    refine s_iload_n (pc := 102) (i := 1) dX12_lies_102 rfl rfl ?_
    refine s_icge (pc := 103) (tgt := 177) dX12_lies_103 rfl (fun h103 => ?_) (fun h103 => absurd (nI_le (a := a) (b := a) (by omega) (by omega)) h103)
    exact hc J1 v8 hk h
  | succ f ih =>
    intro r J1 v8 hr hk h
    refine s_iload (pc := 100) (i := 7) dX12_lies_100 rfl ?_
    refine s_iload_n (pc := 102) (i := 1) dX12_lies_102 rfl rfl ?_
    refine s_icge (pc := 103) (tgt := 177) dX12_lies_103 rfl (fun h103 => absurd h103 (nI_ge (a := r) (b := a) (by omega) (by omega))) (fun h103 => ?_)
    refine m_bi (pc := 106) (v := 13) dX12_lies_106 rfl ?_
    refine s_istore (pc := 108) (i := 8) dX12_lies_108 (Nat.le_of_ble_eq_true rfl) ?_
    dsimp only [List.set, List.filter]
    rw [show (13 : Int32) = nI 14 + -1 from by decide]
    refine li2_lp (J := J) hq16 (fun J2 hk2 h2 => ?_) 14 J1 (Nat.le_refl _) hk h (fun j z1 z2 => absurd z2 (by omega))
    refine s_lload (pc := 163) (i := 5) dX12_lies_163 (List.Mem.head _) ?_
    refine s_ldc2 (pc := 165) dX12_lies_165 ct_X12_431 ?_
    refine s_lmul (pc := 168) dX12_lies_168 ?_
    refine m_nl (v' := lN (16 ^ (r + 1))) (lN_mul _ 16) ?_
    refine s_lstore (pc := 169) (i := 5) dX12_lies_169 (Nat.le_of_ble_eq_true rfl) ?_
    dsimp only [List.set, List.filter]
    refine m_inc (pc := 171) (v := 1) dX12_lies_171 rfl rfl ?_
    dsimp only [List.set, List.filter]
    rw [nI_1]
    refine s_goto (pc := 174) (tgt := 100) dX12_lies_174 rfl ?_
    exact ih (r + 1) J2 _ (by omega) hk2 h2
theorem li4_lp {q e : Nat} {J1 : Nat → Nat → Int64} (ha : a < 13) (hk14 : k < 14) (hq16 : q < 17) (he : e < 2) (h : (∀ j, j < 14 → J1 558 j = lN (dpp a q j))) (hq : Q (.inl (some (.long (vLs a k q e)))) (Z I J1 n w)) : ∀ f i, i + f = 14 → k ≤ i → Rn g (d + 2) mX12_lies 183 [.ref 534, .int (nI a), .int (nI k), .int (nI q), .int (nI e), .retAddr 0, .retAddr 0, .retAddr 0, .retAddr 0, .int (nI i)] [(7, lN (msS a q k i)), (5, lN (16 ^ a))] [] (Z I J1 n w) Q := by
  intro f
  induction f with
  | zero =>
    intro i hi hki
    have e0 : 14 = i := by omega
    subst e0
    have hb : msS a q k 14 < 2 ^ 62 := by rw [ls_eq ha hk14]; exact lsA_b ha (by omega)
    have hp : 16 ^ a < 2 ^ 63 := Nat.lt_of_le_of_lt (Nat.pow_le_pow_right (by decide) (show a ≤ 12 by omega)) (by decide)
    rw [vLs_e ha hk14] at hq
    refine s_iload (pc := 183) (i := 9) dX12_lies_183 rfl ?_
    refine m_bi (pc := 185) (v := 14) dX12_lies_185 rfl ?_
    refine s_icge (pc := 187) (tgt := 208) dX12_lies_187 rfl (fun h187 => ?_) (fun h187 => absurd (nI_le (a := 14) (b := 14) (by omega) (by omega)) h187)
    refine s_lload (pc := 208) (i := 7) dX12_lies_208 (List.Mem.head _) ?_
    refine s_lload (pc := 210) (i := 5) dX12_lies_210 (List.Mem.tail _ (List.Mem.head _)) ?_
    refine s_iload (pc := 212) (i := 4) dX12_lies_212 rfl ?_
    refine m_s3 (pc := 214) dX12_lies_214 lk_X12_433 ok_X12_least rfl rfl (c_X12_least (Nat.lt_trans hb (by decide)) hp (Nat.pow_pos (by decide)) he (kt_s ?_))
    refine s_lreturn (pc := 217) dX12_lies_217 rfl ?_
    exact hq
  | succ f ih =>
    intro i hi hki
    refine s_iload (pc := 183) (i := 9) dX12_lies_183 rfl ?_
    refine m_bi (pc := 185) (v := 14) dX12_lies_185 rfl ?_
    refine s_icge (pc := 187) (tgt := 208) dX12_lies_187 rfl (fun h187 => absurd h187 (nI_ge (a := i) (b := 14) (by omega) (by omega))) (fun h187 => ?_)
    refine s_lload (pc := 190) (i := 7) dX12_lies_190 (List.Mem.head _) ?_
    refine s_aload_n (pc := 192) (i := 0) dX12_lies_192 rfl rfl ?_
    refine m_gr (pc := 193) dX12_lies_193 ff_X12_86 rfl o_534 r_534_47 ?_
    refine s_iload (pc := 196) (i := 9) dX12_lies_196 rfl ?_
    refine m_la (pc := 198) dX12_lies_198 a_558 (vp_in_nI (n := i) (by omega) (by decide)) ?_
    refine m_nl (v' := lN (dpp a q i)) (rdJ (h i (by omega)) (by omega)) ?_
    refine s_ladd (pc := 199) dX12_lies_199 ?_
    refine m_nl (v' := lN (msS a q k (i + 1))) ((lN_add _ _).trans (by rw [msS_1 hki])) ?_
    refine s_lstore (pc := 200) (i := 7) dX12_lies_200 (Nat.le_of_ble_eq_true rfl) ?_
    dsimp only [List.set, List.filter]
    refine m_inc (pc := 202) (v := 1) dX12_lies_202 rfl rfl ?_
    dsimp only [List.set, List.filter]
    rw [nI_1]
    refine s_goto (pc := 205) (tgt := 183) dX12_lies_205 rfl ?_
    exact ih (i + 1) (by omega) (by omega)
theorem c_X12_lies (hW : Wn I D cs S) {x y z u : Int32} (r0 : ¬ iv 0 (13) x → Q (.inl (some (.long 0))) (Z (thr I 1 1) J n w)) (r1 : iv 0 (13) x → ¬ iv 0 (14) y → Q (.inl (some (.long 0))) (Z (thr I 1 1) J n w)) (r2 : iv 0 (13) x → iv 0 (14) y → ¬ iv 0 (17) z → Q (.inl (some (.long 0))) (Z (thr I 1 1) J n w)) (r3 : iv 0 (13) x → iv 0 (14) y → iv 0 (17) z → ¬ iv 0 (2) u → Q (.inl (some (.long 0))) (Z (thr I 1 1) J n w)) (hg : ∀ a, ∀ k, ∀ q, ∀ e, x = nI a → a < 13 → y = nI k → k < 14 → z = nI q → q < 17 → u = nI e → e < 2 → ∀ I' J', km I I' → I' 534 0 = 0 → kj J J' → Q (.inl (some (.long (vLs a k q e)))) (Z I' J' n w)) : Cn g (d + 2) mX12_lies [.ref 534, .int x, .int y, .int z, .int u] (Z I J n w) Q := by
  have hb7 := hW.2.1.1
  have hc12 := hW.2.1.2.1
  show Rn g (d + 2) mX12_lies 0 [.ref 534, .int x, .int y, .int z, .int u, .retAddr 0, .retAddr 0, .retAddr 0, .retAddr 0, .retAddr 0] [] [] (Z I J n w) Q
  refine s_aload_n (pc := 0) (i := 0) dX12_lies_0 rfl rfl ?_
  refine m_ic (pc := 1) (v := 0) dX12_lies_1 rfl ?_
  refine m_pi (pc := 2) dX12_lies_2 ff_X12_3 rfl rfl o_534 ?_
  refine s_aload_n (pc := 5) (i := 0) dX12_lies_5 rfl rfl ?_
  refine s_iload_n (pc := 6) (i := 1) dX12_lies_6 rfl rfl ?_
  refine m_ic (pc := 7) (v := 0) dX12_lies_7 rfl ?_
  refine m_bi (pc := 8) (v := 12) dX12_lies_8 rfl ?_
  refine m_s3 (pc := 10) dX12_lies_10 lk_X12_373 ok_X12_within rfl rfl (c_win (lo := 0) (m := 13) rfl rfl (by omega) (fun a ea la ha => kt_s ?_) (fun z => kt_s ?_))
  · subst ea
    refine s_ifeq (pc := 13) (tgt := 50) dX12_lies_13 rfl (fun h13 => absurd h13 (by decide)) (fun h13 => ?_)
    refine s_iload_n (pc := 16) (i := 2) dX12_lies_16 rfl rfl ?_
    refine m_ic (pc := 17) (v := 0) dX12_lies_17 rfl ?_
    refine m_bi (pc := 18) (v := 13) dX12_lies_18 rfl ?_
    refine m_s3 (pc := 20) dX12_lies_20 lk_X12_373 ok_X12_within rfl rfl (c_win (lo := 0) (m := 14) rfl rfl (by omega) (fun k ek lk hk => kt_s ?_) (fun z => kt_s ?_))
    · subst ek
      refine s_ifeq (pc := 23) (tgt := 50) dX12_lies_23 rfl (fun h23 => absurd h23 (by decide)) (fun h23 => ?_)
      refine s_iload_n (pc := 26) (i := 3) dX12_lies_26 rfl rfl ?_
      refine m_ic (pc := 27) (v := 0) dX12_lies_27 rfl ?_
      refine m_bi (pc := 28) (v := 16) dX12_lies_28 rfl ?_
      refine m_s3 (pc := 30) dX12_lies_30 lk_X12_373 ok_X12_within rfl rfl (c_win (lo := 0) (m := 17) rfl rfl (by omega) (fun q eq lq hq => kt_s ?_) (fun z => kt_s ?_))
      · subst eq
        refine s_ifeq (pc := 33) (tgt := 50) dX12_lies_33 rfl (fun h33 => absurd h33 (by decide)) (fun h33 => ?_)
        refine s_iload (pc := 36) (i := 4) dX12_lies_36 rfl ?_
        refine m_ic (pc := 38) (v := 0) dX12_lies_38 rfl ?_
        refine m_ic (pc := 39) (v := 1) dX12_lies_39 rfl ?_
        refine m_s3 (pc := 40) dX12_lies_40 lk_X12_373 ok_X12_within rfl rfl (c_win (lo := 0) (m := 2) rfl rfl (by omega) (fun e ee le he => kt_s ?_) (fun z => kt_s ?_))
        · subst ee
          refine s_ifeq (pc := 43) (tgt := 50) dX12_lies_43 rfl (fun h43 => absurd h43 (by decide)) (fun h43 => ?_)
          refine m_ic (pc := 46) (v := 1) dX12_lies_46 rfl ?_
          refine s_goto (pc := 47) (tgt := 51) dX12_lies_47 rfl ?_
          refine m_ic (pc := 51) (v := 1) dX12_lies_51 rfl ?_
          refine m_ic (pc := 52) (v := 1) dX12_lies_52 rfl ?_
          refine m_v3 (pc := 53) dX12_lies_53 lk_X12_192 ok_X12_may (rcO o_534 (by decide) rfl) rfl rfl (c_may1 (k := 1) (by decide) rfl up_s (by decide) (kt_s ?_))
          · refine s_ifne (pc := 56) (tgt := 61) dX12_lies_56 rfl (fun h56 => ?_) (fun h56 => absurd h56 (by decide))
            refine m_ic (pc := 61) (v := 0) dX12_lies_61 rfl ?_
            refine s_istore (pc := 62) (i := 5) dX12_lies_62 (Nat.le_of_ble_eq_true rfl) ?_
            dsimp only [List.set, List.filter]
            refine li1_lp (fun J1 hk1 h1 => ?_) 14 0 J (by omega) kj_r (fun j hj => absurd hj (Nat.not_lt_zero _))
            refine m_lc (pc := 94) (v := 1) dX12_lies_94 rfl ?_
            refine s_lstore (pc := 95) (i := 5) dX12_lies_95 (Nat.le_of_ble_eq_true rfl) ?_
            dsimp only [List.set, List.filter]
            refine m_ic (pc := 97) (v := 0) dX12_lies_97 rfl ?_
            refine s_istore (pc := 98) (i := 7) dX12_lies_98 (Nat.le_of_ble_eq_true rfl) ?_
            dsimp only [List.set, List.filter]
            refine li3_lp ha hq (fun J2 v8 hk2 h2 => ?_) a 0 J1 _ (by omega) hk1 h1
            refine m_lc (pc := 177) (v := 0) dX12_lies_177 rfl ?_
            refine s_lstore (pc := 178) (i := 7) dX12_lies_178 (Nat.le_of_ble_eq_true rfl) ?_
            dsimp only [List.set, List.filter]
            refine s_iload_n (pc := 180) (i := 2) dX12_lies_180 rfl rfl ?_
            refine s_istore (pc := 181) (i := 9) dX12_lies_181 (Nat.le_of_ble_eq_true rfl) ?_
            dsimp only [List.set, List.filter]
            have h := li4_lp (g := g) (d := d) (I := up I 534 0 0) (n := n) (w := w) (Q := Q) ha hk hq he h2 (hg a k q e rfl ha rfl hk rfl hq rfl he _ J2 th_k up_s hk2) (14 - k) k (by omega) (Nat.le_refl _)
            rw [msS_0 k (Nat.le_refl _)] at h; exact h
        · refine s_ifeq (pc := 43) (tgt := 50) dX12_lies_43 rfl (fun h43 => ?_) (fun h43 => absurd h43 (by decide))
          refine m_ic (pc := 50) (v := 0) dX12_lies_50 rfl ?_
          refine m_ic (pc := 51) (v := 1) dX12_lies_51 rfl ?_
          refine m_ic (pc := 52) (v := 1) dX12_lies_52 rfl ?_
          refine m_v3 (pc := 53) dX12_lies_53 lk_X12_192 ok_X12_may (rcO o_534 (by decide) rfl) rfl rfl (c_may0 (k := 1) (by decide) rfl up_s (by decide) (kt_s ?_))
          · refine s_ifne (pc := 56) (tgt := 61) dX12_lies_56 rfl (fun h56 => absurd h56 (by decide)) (fun h56 => ?_)
            refine m_lc (pc := 59) (v := 0) dX12_lies_59 rfl ?_
            refine s_lreturn (pc := 60) dX12_lies_60 rfl ?_
            rw [thr_0]
            exact r3 ⟨a, rfl, Nat.zero_le _, ha⟩ ⟨k, rfl, Nat.zero_le _, hk⟩ ⟨q, rfl, Nat.zero_le _, hq⟩ z
      · refine s_ifeq (pc := 33) (tgt := 50) dX12_lies_33 rfl (fun h33 => ?_) (fun h33 => absurd h33 (by decide))
        refine m_ic (pc := 50) (v := 0) dX12_lies_50 rfl ?_
        refine m_ic (pc := 51) (v := 1) dX12_lies_51 rfl ?_
        refine m_ic (pc := 52) (v := 1) dX12_lies_52 rfl ?_
        refine m_v3 (pc := 53) dX12_lies_53 lk_X12_192 ok_X12_may (rcO o_534 (by decide) rfl) rfl rfl (c_may0 (k := 1) (by decide) rfl up_s (by decide) (kt_s ?_))
        · refine s_ifne (pc := 56) (tgt := 61) dX12_lies_56 rfl (fun h56 => absurd h56 (by decide)) (fun h56 => ?_)
          refine m_lc (pc := 59) (v := 0) dX12_lies_59 rfl ?_
          refine s_lreturn (pc := 60) dX12_lies_60 rfl ?_
          rw [thr_0]
          exact r2 ⟨a, rfl, Nat.zero_le _, ha⟩ ⟨k, rfl, Nat.zero_le _, hk⟩ z
    · refine s_ifeq (pc := 23) (tgt := 50) dX12_lies_23 rfl (fun h23 => ?_) (fun h23 => absurd h23 (by decide))
      refine m_ic (pc := 50) (v := 0) dX12_lies_50 rfl ?_
      refine m_ic (pc := 51) (v := 1) dX12_lies_51 rfl ?_
      refine m_ic (pc := 52) (v := 1) dX12_lies_52 rfl ?_
      refine m_v3 (pc := 53) dX12_lies_53 lk_X12_192 ok_X12_may (rcO o_534 (by decide) rfl) rfl rfl (c_may0 (k := 1) (by decide) rfl up_s (by decide) (kt_s ?_))
      · refine s_ifne (pc := 56) (tgt := 61) dX12_lies_56 rfl (fun h56 => absurd h56 (by decide)) (fun h56 => ?_)
        refine m_lc (pc := 59) (v := 0) dX12_lies_59 rfl ?_
        refine s_lreturn (pc := 60) dX12_lies_60 rfl ?_
        rw [thr_0]
        exact r1 ⟨a, rfl, Nat.zero_le _, ha⟩ z
  · refine s_ifeq (pc := 13) (tgt := 50) dX12_lies_13 rfl (fun h13 => ?_) (fun h13 => absurd h13 (by decide))
    refine m_ic (pc := 50) (v := 0) dX12_lies_50 rfl ?_
    refine m_ic (pc := 51) (v := 1) dX12_lies_51 rfl ?_
    refine m_ic (pc := 52) (v := 1) dX12_lies_52 rfl ?_
    refine m_v3 (pc := 53) dX12_lies_53 lk_X12_192 ok_X12_may (rcO o_534 (by decide) rfl) rfl rfl (c_may0 (k := 1) (by decide) rfl up_s (by decide) (kt_s ?_))
    · refine s_ifne (pc := 56) (tgt := 61) dX12_lies_56 rfl (fun h56 => absurd h56 (by decide)) (fun h56 => ?_)
      refine m_lc (pc := 59) (v := 0) dX12_lies_59 rfl ?_
      refine s_lreturn (pc := 60) dX12_lies_60 rfl ?_
      rw [thr_0]
      exact r0  z
end S
