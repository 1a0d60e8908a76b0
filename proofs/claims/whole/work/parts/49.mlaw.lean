section S
variable {g : aG} {d : Nat} {I : Nat → Nat → Int32} {J : Nat → Nat → Int64} {n w : Nat} {Q : aO → aS → Prop}
variable {t : Nat → Nat} {N a : Nat} {bad bk op : Int32} {σ : aS}
/-- a code of the class as the model has it -/
def mc (c : Nat) : Nat := if c < 1000 then 0 else if c < 2000 then 1 else if c = 2043 then 2 else if c = 2045 then 3 else if c = 2042 then 4 else if c = 2047 then 5 else if c = 2000 then 6 else if c = 2001 then 7 else 8
def mo (c : Nat) : Nat := if c < 1000 then c else if c < 2000 then c - 1000 else 0
def Lm (I : Nat → Nat → Int32) (cs : List Nat) : Prop := I 534 25 = nI cs.length ∧ ∀ i, i < cs.length → I 541 i = nI (mc (cs.getD i 0)) ∧ I 542 i = nI (mo (cs.getD i 0))
theorem Lm_add {cs : List Nat} {v : Nat} (h : Lm I cs) : Lm (up (up (up I 541 cs.length (nI (mc v))) 542 cs.length (nI (mo v))) 534 25 (nI (cs.length + 1))) (cs ++ [v]) := by
  refine ⟨by rw [up_s, List.length_append, List.length_singleton], fun i hi => ?_⟩
  rw [List.length_append, List.length_singleton] at hi
  by_cases e : i = cs.length
  · subst e; simp [up]
  · have h1 := h.2 i (by omega)
    simp only [up, e, and_false, if_false]
    rw [if_neg (by omega), if_neg (by omega), h1.1, h1.2]
    simp [List.getD, List.getElem?_append_left (show i < cs.length by omega)]
theorem c_X12_emit {cs : List Nat} {v : Nat} {wi oi : Int32} (hm : mx I t N) (hL : Lm I cs) (hl : cs.length < 150) (hw : wi = nI (mc v)) (ho : oi = nI (mo v)) (hq : ∀ I', fM I I' → Lm I' (cs ++ [v]) → Q (.inl none) (Z (mp I' a (-1) bk op) J n w)) : Cn g (d + 1) mX12_emit [.ref 534, .int wi, .int oi] (Z (mp I a (-1) bk op) J n w) Q := by
  show Rn g (d + 1) mX12_emit 0 [.ref 534, .int wi, .int oi] [] [] (Z (mp I a (-1) bk op) J n w) Q
  refine s_aload_n (pc := 0) (i := 0) dX12_emit_0 rfl rfl ?_
  refine m_v0 (pc := 1) dX12_emit_1 lk_X12_131 ok_X12_fine (rcO o_534 (by decide) rfl) rfl rfl (c_X12_fine (fun h => kt_s ?_) (fun h => absurd rfl h))
  · refine s_ifne (pc := 4) (tgt := 8) dX12_emit_4 rfl (fun h4 => ?_) (fun h4 => absurd h4 (by decide))
    refine s_aload_n (pc := 8) (i := 0) dX12_emit_8 rfl rfl ?_
    refine m_gr (pc := 9) dX12_emit_9 ff_X12_35 rfl o_534 r_534_20 ?_
    refine s_aload_n (pc := 12) (i := 0) dX12_emit_12 rfl rfl ?_
    refine m_gi (pc := 13) dX12_emit_13 ff_X12_230 rfl o_534 ?_
    refine m_nm (v' := nI cs.length) ((mp_x (by decide)).trans hL.1) ?_
    refine s_iload_n (pc := 16) (i := 1) dX12_emit_16 rfl rfl ?_
    refine m_is (pc := 17) dX12_emit_17 a_541 (vp_in_nI (by omega) (by decide)) ?_
    refine st_mp hm (by omega) (by decide) (fun I17 e17 hm => ?_)
    refine s_aload_n (pc := 18) (i := 0) dX12_emit_18 rfl rfl ?_
    refine m_gr (pc := 19) dX12_emit_19 ff_X12_38 rfl o_534 r_534_21 ?_
    refine s_aload_n (pc := 22) (i := 0) dX12_emit_22 rfl rfl ?_
    refine m_gi (pc := 23) dX12_emit_23 ff_X12_230 rfl o_534 ?_
    refine m_nm (v' := nI cs.length) (by rw [mp_x (by decide), e17, up_a (by decide)]; exact hL.1) ?_
    refine s_iload_n (pc := 26) (i := 2) dX12_emit_26 rfl rfl ?_
    refine m_is (pc := 27) dX12_emit_27 a_542 (vp_in_nI (by omega) (by decide)) ?_
    refine st_mp hm (by omega) (by decide) (fun I27 e27 hm => ?_)
    refine s_aload_n (pc := 28) (i := 0) dX12_emit_28 rfl rfl ?_
    refine s_dup (pc := 29) dX12_emit_29 rfl ?_
    refine m_gi (pc := 30) dX12_emit_30 ff_X12_230 rfl o_534 ?_
    refine m_nm (v' := nI cs.length) (by rw [mp_x (by decide), e27, up_a (by decide), e17, up_a (by decide)]; exact hL.1) ?_
    refine m_ic (pc := 33) (v := 1) dX12_emit_33 rfl ?_
    refine s_iadd (pc := 34) dX12_emit_34 ?_
    refine m_nm (v' := nI (cs.length + 1)) (nI_1 _) ?_
    refine m_pi (pc := 35) dX12_emit_35 ff_X12_230 rfl rfl o_534 ?_
    refine st_mp hm (by omega) (by decide) (fun I35 e35 hm => ?_)
    refine s_return (pc := 38) dX12_emit_38 rfl ?_
    rw [nI_clamp (by omega)] at e17 e27
    subst e35; subst e27; subst e17; subst hw; subst ho
    exact hq _ (fM_u (fM_u (fM_u fM_r (by omega)) (by omega)) (by decide)) (Lm_add hL)
theorem c_emit_n {wi oi : Int32} (hbad : bad ≠ -1) (hq : Q (.inl none) (Z (mp I a bad bk op) J n w)) : Cn g (d + 1) mX12_emit [.ref 534, .int wi, .int oi] (Z (mp I a bad bk op) J n w) Q := by
  show Rn g (d + 1) mX12_emit 0 [.ref 534, .int wi, .int oi] [] [] (Z (mp I a bad bk op) J n w) Q
  refine s_aload_n (pc := 0) (i := 0) dX12_emit_0 rfl rfl ?_
  refine m_v0 (pc := 1) dX12_emit_1 lk_X12_131 ok_X12_fine (rcO o_534 (by decide) rfl) rfl rfl (c_X12_fine (fun h => absurd h hbad) (fun h => kt_s ?_))
  · refine s_ifne (pc := 4) (tgt := 8) dX12_emit_4 rfl (fun h4 => absurd h4 (by decide)) (fun h4 => ?_)
    refine s_return (pc := 7) dX12_emit_7 rfl ?_
    exact hq
theorem c_X12_opensOne {o b : Nat} {bi : Int32} (ho : op = nI o) (ho6 : o < 6) (hbi : bi = nI b) (hq : Q (.inl none) (Z (mp I (a + b) (-1) bk (nI (o + 1))) J n w)) : Cn g (d + 1) mX12_opensOne [.ref 534, .int bi] (Z (mp I a (-1) bk op) J n w) Q := by
  show Rn g (d + 1) mX12_opensOne 0 [.ref 534, .int bi] [] [] (Z (mp I a (-1) bk op) J n w) Q
  refine s_aload_n (pc := 0) (i := 0) dX12_opensOne_0 rfl rfl ?_
  refine m_v0 (pc := 1) dX12_opensOne_1 lk_X12_131 ok_X12_fine (rcO o_534 (by decide) rfl) rfl rfl (c_X12_fine (fun h => kt_s ?_) (fun h => absurd rfl h))
  · refine s_ifeq (pc := 4) (tgt := 25) dX12_opensOne_4 rfl (fun h4 => absurd h4 (by decide)) (fun h4 => ?_)
    refine s_aload_n (pc := 7) (i := 0) dX12_opensOne_7 rfl rfl ?_
    refine m_gi (pc := 8) dX12_opensOne_8 ff_X12_142 rfl o_534 ?_
    refine m_nm (v' := op) rfl ?_
    refine m_bi (pc := 11) (v := 6) dX12_opensOne_11 rfl ?_
    refine s_icne (pc := 13) (tgt := 25) dX12_opensOne_13 rfl (fun h13 => ?_) (fun h13 => absurd h13 (fun z => by rw [ho, show (6 : Int32) = nI 6 from rfl, nI_eq (by omega) (by omega)] at z; omega))
    refine s_aload_n (pc := 25) (i := 0) dX12_opensOne_25 rfl rfl ?_
    refine m_v0 (pc := 26) dX12_opensOne_26 lk_X12_131 ok_X12_fine (rcO o_534 (by decide) rfl) rfl rfl (c_X12_fine (fun h => kt_s ?_) (fun h => absurd rfl h))
    · refine s_ifeq (pc := 29) (tgt := 42) dX12_opensOne_29 rfl (fun h29 => absurd h29 (by decide)) (fun h29 => ?_)
      refine s_aload_n (pc := 32) (i := 0) dX12_opensOne_32 rfl rfl ?_
      refine s_dup (pc := 33) dX12_opensOne_33 rfl ?_
      refine m_gi (pc := 34) dX12_opensOne_34 ff_X12_108 rfl o_534 ?_
      refine m_nm (v' := nI a) rfl ?_
      refine s_iload_n (pc := 37) (i := 1) dX12_opensOne_37 rfl rfl ?_
      refine s_iadd (pc := 38) dX12_opensOne_38 ?_
      refine m_nm (v' := nI (a + b)) (by rw [hbi]; exact nI_add _ _) ?_
      refine m_pi (pc := 39) dX12_opensOne_39 ff_X12_108 rfl rfl o_534 ?_
      refine Rs_cg mp_a ?_
      refine s_aload_n (pc := 42) (i := 0) dX12_opensOne_42 rfl rfl ?_
      refine s_dup (pc := 43) dX12_opensOne_43 rfl ?_
      refine m_gi (pc := 44) dX12_opensOne_44 ff_X12_142 rfl o_534 ?_
      refine m_nm (v' := op) rfl ?_
      refine m_ic (pc := 47) (v := 1) dX12_opensOne_47 rfl ?_
      refine s_iadd (pc := 48) dX12_opensOne_48 ?_
      refine m_nm (v' := nI (o + 1)) (by rw [ho]; exact nI_1 _) ?_
      refine m_pi (pc := 49) dX12_opensOne_49 ff_X12_142 rfl rfl o_534 ?_
      refine Rs_cg mp_o ?_
      refine s_return (pc := 52) dX12_opensOne_52 rfl ?_
      exact hq
theorem c_open6 {bi : Int32} (ho : op = nI 6) (ha : a ≤ 600) (hq : Q (.inl none) (Z (mp I a (nI a) 3 7) J n w)) : Cn g (d + 1) mX12_opensOne [.ref 534, .int bi] (Z (mp I a (-1) bk op) J n w) Q := by
  show Rn g (d + 1) mX12_opensOne 0 [.ref 534, .int bi] [] [] (Z (mp I a (-1) bk op) J n w) Q
  refine s_aload_n (pc := 0) (i := 0) dX12_opensOne_0 rfl rfl ?_
  refine m_v0 (pc := 1) dX12_opensOne_1 lk_X12_131 ok_X12_fine (rcO o_534 (by decide) rfl) rfl rfl (c_X12_fine (fun h => kt_s ?_) (fun h => absurd rfl h))
  · refine s_ifeq (pc := 4) (tgt := 25) dX12_opensOne_4 rfl (fun h4 => absurd h4 (by decide)) (fun h4 => ?_)
    refine s_aload_n (pc := 7) (i := 0) dX12_opensOne_7 rfl rfl ?_
    refine m_gi (pc := 8) dX12_opensOne_8 ff_X12_142 rfl o_534 ?_
    refine m_nm (v' := op) rfl ?_
    refine m_bi (pc := 11) (v := 6) dX12_opensOne_11 rfl ?_
    refine s_icne (pc := 13) (tgt := 25) dX12_opensOne_13 rfl (fun h13 => absurd (ho) h13) (fun h13 => ?_)
    refine s_aload_n (pc := 16) (i := 0) dX12_opensOne_16 rfl rfl ?_
    refine m_ic (pc := 17) (v := 3) dX12_opensOne_17 rfl ?_
    refine s_aload_n (pc := 18) (i := 0) dX12_opensOne_18 rfl rfl ?_
    refine m_gi (pc := 19) dX12_opensOne_19 ff_X12_108 rfl o_534 ?_
    refine m_nm (v' := nI a) rfl ?_
    refine m_v2 (pc := 22) dX12_opensOne_22 lk_X12_138 ok_X12_wrong (rcO o_534 (by decide) rfl) rfl rfl (c_X12_wrong rfl (kt_v ?_))
    refine s_aload_n (pc := 25) (i := 0) dX12_opensOne_25 rfl rfl ?_
    refine m_v0 (pc := 26) dX12_opensOne_26 lk_X12_131 ok_X12_fine (rcO o_534 (by decide) rfl) rfl rfl (c_X12_fine (fun h => absurd h (nI_m1 (by omega))) (fun h => kt_s ?_))
    · refine s_ifeq (pc := 29) (tgt := 42) dX12_opensOne_29 rfl (fun h29 => ?_) (fun h29 => absurd h29 (by decide))
      refine s_aload_n (pc := 42) (i := 0) dX12_opensOne_42 rfl rfl ?_
      refine s_dup (pc := 43) dX12_opensOne_43 rfl ?_
      refine m_gi (pc := 44) dX12_opensOne_44 ff_X12_142 rfl o_534 ?_
      refine m_nm (v' := op) rfl ?_
      refine m_ic (pc := 47) (v := 1) dX12_opensOne_47 rfl ?_
      refine s_iadd (pc := 48) dX12_opensOne_48 ?_
      refine m_nm (v' := 7) (by rw [ho]; rfl) ?_
      refine m_pi (pc := 49) dX12_opensOne_49 ff_X12_142 rfl rfl o_534 ?_
      refine Rs_cg mp_o ?_
      refine s_return (pc := 52) dX12_opensOne_52 rfl ?_
      exact hq
theorem c_unit_n (hbad : bad ≠ -1) (hq : Q (.inl none) (Z (mp I a bad bk op) J n w)) : Cn g (d + 1) mX12_readUnit [.ref 534] (Z (mp I a bad bk op) J n w) Q := by
  show Rn g (d + 1) mX12_readUnit 0 [.ref 534, .retAddr 0] [] [] (Z (mp I a bad bk op) J n w) Q
  refine s_aload_n (pc := 0) (i := 0) dX12_readUnit_0 rfl rfl ?_
  refine m_v0 (pc := 1) dX12_readUnit_1 lk_X12_131 ok_X12_fine (rcO o_534 (by decide) rfl) rfl rfl (c_X12_fine (fun h => absurd h hbad) (fun h => kt_s ?_))
  · refine s_ifne (pc := 4) (tgt := 8) dX12_readUnit_4 rfl (fun h4 => absurd h4 (by decide)) (fun h4 => ?_)
    refine s_return (pc := 7) dX12_readUnit_7 rfl ?_
    exact hq
theorem c_prod_n (hbad : bad ≠ -1) (hq : Q (.inl none) (Z (mp I a bad bk op) J n w)) : Cn g (d + 2) mX12_readProduct [.ref 534] (Z (mp I a bad bk op) J n w) Q := by
  show Rn g (d + 2) mX12_readProduct 0 [.ref 534, .retAddr 0] [] [] (Z (mp I a bad bk op) J n w) Q
  refine s_aload_n (pc := 0) (i := 0) dX12_readProduct_0 rfl rfl ?_
  refine m_v0 (pc := 1) dX12_readProduct_1 lk_X12_239 ok_X12_readUnit (rcO o_534 (by decide) rfl) rfl rfl (c_unit_n hbad (kt_v ?_))
  refine s_aload_n (pc := 4) (i := 0) dX12_readProduct_4 rfl rfl ?_
  refine m_v0 (pc := 5) dX12_readProduct_5 lk_X12_131 ok_X12_fine (rcO o_534 (by decide) rfl) rfl rfl (c_X12_fine (fun h => absurd h hbad) (fun h => kt_s ?_))
  · refine s_ifeq (pc := 8) (tgt := 90) dX12_readProduct_8 rfl (fun h8 => ?_) (fun h8 => absurd h8 (by decide))
    refine s_return (pc := 90) dX12_readProduct_90 rfl ?_
    exact hq
theorem c_sum_n (hbad : bad ≠ -1) (hq : Q (.inl none) (Z (mp I a bad bk op) J n w)) : Cn g (d + 3) mX12_readSum [.ref 534] (Z (mp I a bad bk op) J n w) Q := by
  show Rn g (d + 3) mX12_readSum 0 [.ref 534, .retAddr 0] [] [] (Z (mp I a bad bk op) J n w) Q
  refine s_aload_n (pc := 0) (i := 0) dX12_readSum_0 rfl rfl ?_
  refine m_v0 (pc := 1) dX12_readSum_1 lk_X12_233 ok_X12_readProduct (rcO o_534 (by decide) rfl) rfl rfl (c_prod_n hbad (kt_v ?_))
  refine s_aload_n (pc := 4) (i := 0) dX12_readSum_4 rfl rfl ?_
  refine m_v0 (pc := 5) dX12_readSum_5 lk_X12_131 ok_X12_fine (rcO o_534 (by decide) rfl) rfl rfl (c_X12_fine (fun h => absurd h hbad) (fun h => kt_s ?_))
  · refine s_ifeq (pc := 8) (tgt := 67) dX12_readSum_8 rfl (fun h8 => ?_) (fun h8 => absurd h8 (by decide))
    refine s_return (pc := 67) dX12_readSum_67 rfl ?_
    exact hq
theorem c_X12_factHere (hm : mx I t N) (ha : a ≤ N) (h1 : thW t N (sk t N a) = none → Q (.inl (some (.int (-1)))) (Z (mp I (sk t N a) (-1) bk op) J n w)) (h2 : ∀ i, thW t N (sk t N a) = some i → Q (.inl (some (.int (nI i)))) (Z (mp I (sk t N a) (-1) bk op) J n w)) : Cn g (d + 5) mX12_factHere [.ref 534] (Z (mp I a (-1) bk op) J n w) Q := by
  have hs := sk_le (t := t) ha
  show Rn g (d + 5) mX12_factHere 0 [.ref 534, .retAddr 0] [] [] (Z (mp I a (-1) bk op) J n w) Q
  refine s_aload_n (pc := 0) (i := 0) dX12_factHere_0 rfl rfl ?_
  refine m_v0 (pc := 1) dX12_factHere_1 lk_X12_208 ok_X12_wordHere (rcO o_534 (by decide) rfl) rfl rfl (c_X12_wordHere hm ha (kt_s ?_))
  refine s_istore_n (pc := 4) (i := 1) dX12_factHere_4 rfl (Nat.le_of_ble_eq_true rfl) ?_
  dsimp only [List.set, List.filter]
  refine s_iload_n (pc := 5) (i := 1) dX12_factHere_5 rfl rfl ?_
  refine s_ldcS (pc := 6) (j := 3) dX12_factHere_6 sr_X12_248 rfl ?_
  refine m_s1 (pc := 8) dX12_factHere_8 lk_X12_183 ok_X12_of rfl rfl (c_of (j := 3) rfl (by decide) (by decide) (kt_s ?_))
  refine s_icne (pc := 11) (tgt := 18) dX12_factHere_11 rfl (fun x3 => ?_) (fun x3 => ?_)
  · have b3 : wB t N (sk t N a) 3 = false := wB_f.mpr (fun z => x3 ((wv_oc hs (by decide) (by decide +kernel)).mpr z))
    refine s_iload_n (pc := 18) (i := 1) dX12_factHere_18 rfl rfl ?_
    refine s_ldcS (pc := 19) (j := 4) dX12_factHere_19 sr_X12_250 rfl ?_
    refine m_s1 (pc := 21) dX12_factHere_21 lk_X12_183 ok_X12_of rfl rfl (c_of (j := 4) rfl (by decide) (by decide) (kt_s ?_))
    refine s_icne (pc := 24) (tgt := 31) dX12_factHere_24 rfl (fun x4 => ?_) (fun x4 => ?_)
    · have b4 : wB t N (sk t N a) 4 = false := wB_f.mpr (fun z => x4 ((wv_oc hs (by decide) (by decide +kernel)).mpr z))
      refine s_iload_n (pc := 31) (i := 1) dX12_factHere_31 rfl rfl ?_
      refine s_ldcS (pc := 32) (j := 5) dX12_factHere_32 sr_X12_252 rfl ?_
      refine m_s1 (pc := 34) dX12_factHere_34 lk_X12_183 ok_X12_of rfl rfl (c_of (j := 5) rfl (by decide) (by decide) (kt_s ?_))
      refine s_icne (pc := 37) (tgt := 44) dX12_factHere_37 rfl (fun x5 => ?_) (fun x5 => ?_)
      · have b5 : wB t N (sk t N a) 5 = false := wB_f.mpr (fun z => x5 ((wv_oc hs (by decide) (by decide +kernel)).mpr z))
        refine s_iload_n (pc := 44) (i := 1) dX12_factHere_44 rfl rfl ?_
        refine s_ldcS (pc := 45) (j := 6) dX12_factHere_45 sr_X12_254 rfl ?_
        refine m_s1 (pc := 47) dX12_factHere_47 lk_X12_183 ok_X12_of rfl rfl (c_of (j := 6) rfl (by decide) (by decide) (kt_s ?_))
        refine s_icne (pc := 50) (tgt := 57) dX12_factHere_50 rfl (fun x6 => ?_) (fun x6 => ?_)
        · have b6 : wB t N (sk t N a) 6 = false := wB_f.mpr (fun z => x6 ((wv_oc hs (by decide) (by decide +kernel)).mpr z))
          refine s_iload_n (pc := 57) (i := 1) dX12_factHere_57 rfl rfl ?_
          refine s_ldcSw (pc := 58) (j := 7) dX12_factHere_58 sr_X12_256 rfl ?_
          refine m_s1 (pc := 61) dX12_factHere_61 lk_X12_183 ok_X12_of rfl rfl (c_of (j := 7) rfl (by decide) (by decide) (kt_s ?_))
          refine s_icne (pc := 64) (tgt := 71) dX12_factHere_64 rfl (fun x7 => ?_) (fun x7 => ?_)
          · have b7 : wB t N (sk t N a) 7 = false := wB_f.mpr (fun z => x7 ((wv_oc hs (by decide) (by decide +kernel)).mpr z))
            refine s_iload_n (pc := 71) (i := 1) dX12_factHere_71 rfl rfl ?_
            refine s_ldcSw (pc := 72) (j := 8) dX12_factHere_72 sr_X12_258 rfl ?_
            refine m_s1 (pc := 75) dX12_factHere_75 lk_X12_183 ok_X12_of rfl rfl (c_of (j := 8) rfl (by decide) (by decide) (kt_s ?_))
            refine s_icne (pc := 78) (tgt := 85) dX12_factHere_78 rfl (fun x8 => ?_) (fun x8 => ?_)
            · have b8 : wB t N (sk t N a) 8 = false := wB_f.mpr (fun z => x8 ((wv_oc hs (by decide) (by decide +kernel)).mpr z))
              refine s_iload_n (pc := 85) (i := 1) dX12_factHere_85 rfl rfl ?_
              refine s_ldcSw (pc := 86) (j := 9) dX12_factHere_86 sr_X12_260 rfl ?_
              refine m_s1 (pc := 89) dX12_factHere_89 lk_X12_183 ok_X12_of rfl rfl (c_of (j := 9) rfl (by decide) (by decide) (kt_s ?_))
              refine s_icne (pc := 92) (tgt := 100) dX12_factHere_92 rfl (fun x9 => ?_) (fun x9 => ?_)
              · have b9 : wB t N (sk t N a) 9 = false := wB_f.mpr (fun z => x9 ((wv_oc hs (by decide) (by decide +kernel)).mpr z))
                refine s_iload_n (pc := 100) (i := 1) dX12_factHere_100 rfl rfl ?_
                refine s_ldcSw (pc := 101) (j := 10) dX12_factHere_101 sr_X12_262 rfl ?_
                refine m_s1 (pc := 104) dX12_factHere_104 lk_X12_183 ok_X12_of rfl rfl (c_of (j := 10) rfl (by decide) (by decide) (kt_s ?_))
                refine s_icne (pc := 107) (tgt := 115) dX12_factHere_107 rfl (fun x10 => ?_) (fun x10 => ?_)
                · have b10 : wB t N (sk t N a) 10 = false := wB_f.mpr (fun z => x10 ((wv_oc hs (by decide) (by decide +kernel)).mpr z))
                  refine s_iload_n (pc := 115) (i := 1) dX12_factHere_115 rfl rfl ?_
                  refine s_ldcS (pc := 116) (j := 0) dX12_factHere_116 sr_X12_182 rfl ?_
                  refine m_s1 (pc := 118) dX12_factHere_118 lk_X12_183 ok_X12_of rfl rfl (c_of (j := 0) rfl (by decide) (by decide) (kt_s ?_))
                  refine s_icne (pc := 121) (tgt := 129) dX12_factHere_121 rfl (fun x0 => ?_) (fun x0 => ?_)
                  · have b0 : wB t N (sk t N a) 0 = false := wB_f.mpr (fun z => x0 ((wv_oc hs (by decide) (by decide +kernel)).mpr z))
                    refine m_ic (pc := 129) (v := -1) dX12_factHere_129 rfl ?_
                    refine s_ireturn (pc := 130) dX12_factHere_130 rfl rfl ?_
                    exact h1 (by unfold thW; rw [if_neg (by rw [b3]; decide), if_neg (by rw [b4]; decide), if_neg (by rw [b5]; decide), if_neg (by rw [b6]; decide), if_neg (by rw [b7]; decide), if_neg (by rw [b8]; decide), if_neg (by rw [b9]; decide), if_neg (by rw [b10]; decide), if_neg (by rw [b0]; decide)])
                  · have b0 : wB t N (sk t N a) 0 = true := wB_m.mpr ((wv_oc hs (by decide) (by decide +kernel)).mp x0)
                    refine m_bi (pc := 124) (v := 8) dX12_factHere_124 rfl ?_
                    refine s_goto (pc := 126) (tgt := 130) dX12_factHere_126 rfl ?_
                    refine s_ireturn (pc := 130) dX12_factHere_130 rfl rfl ?_
                    exact h2 8 (by unfold thW; rw [if_neg (by rw [b3]; decide), if_neg (by rw [b4]; decide), if_neg (by rw [b5]; decide), if_neg (by rw [b6]; decide), if_neg (by rw [b7]; decide), if_neg (by rw [b8]; decide), if_neg (by rw [b9]; decide), if_neg (by rw [b10]; decide), if_pos b0])
                · have b10 : wB t N (sk t N a) 10 = true := wB_m.mpr ((wv_oc hs (by decide) (by decide +kernel)).mp x10)
                  refine m_bi (pc := 110) (v := 7) dX12_factHere_110 rfl ?_
                  refine s_goto (pc := 112) (tgt := 130) dX12_factHere_112 rfl ?_
                  refine s_ireturn (pc := 130) dX12_factHere_130 rfl rfl ?_
                  exact h2 7 (by unfold thW; rw [if_neg (by rw [b3]; decide), if_neg (by rw [b4]; decide), if_neg (by rw [b5]; decide), if_neg (by rw [b6]; decide), if_neg (by rw [b7]; decide), if_neg (by rw [b8]; decide), if_neg (by rw [b9]; decide), if_pos b10])
              · have b9 : wB t N (sk t N a) 9 = true := wB_m.mpr ((wv_oc hs (by decide) (by decide +kernel)).mp x9)
                refine m_bi (pc := 95) (v := 6) dX12_factHere_95 rfl ?_
                refine s_goto (pc := 97) (tgt := 130) dX12_factHere_97 rfl ?_
                refine s_ireturn (pc := 130) dX12_factHere_130 rfl rfl ?_
                exact h2 6 (by unfold thW; rw [if_neg (by rw [b3]; decide), if_neg (by rw [b4]; decide), if_neg (by rw [b5]; decide), if_neg (by rw [b6]; decide), if_neg (by rw [b7]; decide), if_neg (by rw [b8]; decide), if_pos b9])
            · have b8 : wB t N (sk t N a) 8 = true := wB_m.mpr ((wv_oc hs (by decide) (by decide +kernel)).mp x8)
              refine m_ic (pc := 81) (v := 5) dX12_factHere_81 rfl ?_
              refine s_goto (pc := 82) (tgt := 130) dX12_factHere_82 rfl ?_
              refine s_ireturn (pc := 130) dX12_factHere_130 rfl rfl ?_
              exact h2 5 (by unfold thW; rw [if_neg (by rw [b3]; decide), if_neg (by rw [b4]; decide), if_neg (by rw [b5]; decide), if_neg (by rw [b6]; decide), if_neg (by rw [b7]; decide), if_pos b8])
          · have b7 : wB t N (sk t N a) 7 = true := wB_m.mpr ((wv_oc hs (by decide) (by decide +kernel)).mp x7)
            refine m_ic (pc := 67) (v := 4) dX12_factHere_67 rfl ?_
            refine s_goto (pc := 68) (tgt := 130) dX12_factHere_68 rfl ?_
            refine s_ireturn (pc := 130) dX12_factHere_130 rfl rfl ?_
            exact h2 4 (by unfold thW; rw [if_neg (by rw [b3]; decide), if_neg (by rw [b4]; decide), if_neg (by rw [b5]; decide), if_neg (by rw [b6]; decide), if_pos b7])
        · have b6 : wB t N (sk t N a) 6 = true := wB_m.mpr ((wv_oc hs (by decide) (by decide +kernel)).mp x6)
          refine m_ic (pc := 53) (v := 3) dX12_factHere_53 rfl ?_
          refine s_goto (pc := 54) (tgt := 130) dX12_factHere_54 rfl ?_
          refine s_ireturn (pc := 130) dX12_factHere_130 rfl rfl ?_
          exact h2 3 (by unfold thW; rw [if_neg (by rw [b3]; decide), if_neg (by rw [b4]; decide), if_neg (by rw [b5]; decide), if_pos b6])
      · have b5 : wB t N (sk t N a) 5 = true := wB_m.mpr ((wv_oc hs (by decide) (by decide +kernel)).mp x5)
        refine m_ic (pc := 40) (v := 2) dX12_factHere_40 rfl ?_
        refine s_goto (pc := 41) (tgt := 130) dX12_factHere_41 rfl ?_
        refine s_ireturn (pc := 130) dX12_factHere_130 rfl rfl ?_
        exact h2 2 (by unfold thW; rw [if_neg (by rw [b3]; decide), if_neg (by rw [b4]; decide), if_pos b5])
    · have b4 : wB t N (sk t N a) 4 = true := wB_m.mpr ((wv_oc hs (by decide) (by decide +kernel)).mp x4)
      refine m_ic (pc := 27) (v := 1) dX12_factHere_27 rfl ?_
      refine s_goto (pc := 28) (tgt := 130) dX12_factHere_28 rfl ?_
      refine s_ireturn (pc := 130) dX12_factHere_130 rfl rfl ?_
      exact h2 1 (by unfold thW; rw [if_neg (by rw [b3]; decide), if_pos b4])
  · have b3 : wB t N (sk t N a) 3 = true := wB_m.mpr ((wv_oc hs (by decide) (by decide +kernel)).mp x3)
    refine m_ic (pc := 14) (v := 0) dX12_factHere_14 rfl ?_
    refine s_goto (pc := 15) (tgt := 130) dX12_factHere_15 rfl ?_
    refine s_ireturn (pc := 130) dX12_factHere_130 rfl rfl ?_
    exact h2 0 (by unfold thW; rw [if_pos b3])
end S
