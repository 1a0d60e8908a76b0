section S
variable {g : aG} {d : Nat} {I : Nat → Nat → Int32} {J : Nat → Nat → Int64} {n w : Nat} {Q : aO → aS → Prop}
variable {t : Nat → Nat} {N a : Nat} {bad bk op : Int32} {σ : aS}
theorem c_two {k o b v : Nat} {bi wi : Int32} {S : Nat → List Nat → lT} {cs : List Nat} (hS : cMd g mX12_readSum (k + 6) t N S (o + 1)) (hG : gU N S) (ho : o < 6) (hm : mx I t N) (hN : N ≤ 150) (hL : Lm I cs) (ha : a ≤ N) (hl : cs.length ≤ a) (hwE : wE t N a = a + b) (hb0 : 0 < b) (hbi : bi = nI b) (hwi : wi = nI (mc v)) (hmo : mo v = 0) (hv : v = if wB t N a 11 = true then 2000 else 2001) (hb : ∀ e a' I' op', lUt t N S a cs = .inl e → e.2 ≤ 600 → fM I I' → Q (.inl none) (Z (mp I' a' (nI e.2) (nI e.1) op') J n w)) (hg : ∀ a' c2 I', lUt t N S a cs = .inr (sk t N a', c2) → a' ≤ N → fM I I' → Lm I' c2 → Q (.inl none) (Z (mp I' a' (-1) bk (nI o)) J n w)) : Cn g (d + (k + 7)) mX12_readTwo [.ref 534, .int bi, .int wi] (Z (mp I a (-1) bk (nI o)) J n w) Q := by
  have hab : a + b ≤ N := by have := wE_le (t := t) ha; omega
  have hk2 := sk_ge (t := t) (N := N) (a := a + b)
  show Rn g (d + (k + 7)) mX12_readTwo 0 [.ref 534, .int bi, .int wi] [] [] (Z (mp I a (-1) bk (nI o)) J n w) Q
  refine s_aload_n (pc := 0) (i := 0) dX12_readTwo_0 rfl rfl ?_
  refine s_iload_n (pc := 1) (i := 1) dX12_readTwo_1 rfl rfl ?_
  refine m_v1 (pc := 2) dX12_readTwo_2 lk_X12_242 ok_X12_opensOne (rcO o_534 (by decide) rfl) rfl rfl (c_X12_opensOne rfl ho hbi (kt_v ?_))
  refine s_aload_n (pc := 5) (i := 0) dX12_readTwo_5 rfl rfl ?_
  refine m_bi (pc := 6) (v := 91) dX12_readTwo_6 rfl ?_
  refine m_v1 (pc := 8) dX12_readTwo_8 lk_X12_223 ok_X12_sign (rcO o_534 (by decide) rfl) rfl rfl (c_sg (c := 91) hm hab (by decide) (by decide) rfl (fun a1 s1 u1 v1 => kt_v ?_) (fun e s1 u1 v1 => kt_v ?_))
  · have z1 := sk_ge (t := t) (N := N) (a := a1)
    refine s_aload_n (pc := 11) (i := 0) dX12_readTwo_11 rfl rfl ?_
    refine m_v0 (pc := 12) dX12_readTwo_12 lk_X12_245 ok_X12_readSum (rcO o_534 (by decide) rfl) rfl rfl (hS _ _ _ _ _ _ _ _ _ hm u1 hN hL (by omega) (fun e a2 I2 op2 q2 r2 w2 => kt_v ?_) (fun a2 c2 I2 q2 r2 w2 l2 => kt_v ?_))
    · refine s_aload_n (pc := 15) (i := 0) dX12_readTwo_15 rfl rfl ?_
      refine m_bi (pc := 16) (v := 44) dX12_readTwo_16 rfl ?_
      refine m_v1 (pc := 18) dX12_readTwo_18 lk_X12_223 ok_X12_sign (rcO o_534 (by decide) rfl) rfl rfl (c_X12_sign_n (nI_m1 (by omega)) (kt_v ?_))
      refine s_aload_n (pc := 21) (i := 0) dX12_readTwo_21 rfl rfl ?_
      refine m_v0 (pc := 22) dX12_readTwo_22 lk_X12_245 ok_X12_readSum (rcO o_534 (by decide) rfl) rfl rfl (c_sum_n (nI_m1 (by omega)) (kt_v ?_))
      refine s_aload_n (pc := 25) (i := 0) dX12_readTwo_25 rfl rfl ?_
      refine m_bi (pc := 26) (v := 93) dX12_readTwo_26 rfl ?_
      refine m_v1 (pc := 28) dX12_readTwo_28 lk_X12_223 ok_X12_sign (rcO o_534 (by decide) rfl) rfl rfl (c_X12_sign_n (nI_m1 (by omega)) (kt_v ?_))
      refine s_aload_n (pc := 31) (i := 0) dX12_readTwo_31 rfl rfl ?_
      refine s_dup (pc := 32) dX12_readTwo_32 rfl ?_
      refine m_gi (pc := 33) dX12_readTwo_33 ff_X12_142 rfl o_534 ?_
      refine m_nm (v' := op2) rfl ?_
      refine m_ic (pc := 36) (v := 1) dX12_readTwo_36 rfl ?_
      refine s_isub (pc := 37) dX12_readTwo_37 ?_
      refine m_nm (v' := op2 - 1) (rfl) ?_
      refine m_pi (pc := 38) dX12_readTwo_38 ff_X12_142 rfl rfl o_534 ?_
      refine Rs_cg mp_o ?_
      refine s_aload_n (pc := 41) (i := 0) dX12_readTwo_41 rfl rfl ?_
      refine s_iload_n (pc := 42) (i := 2) dX12_readTwo_42 rfl rfl ?_
      refine m_ic (pc := 43) (v := 0) dX12_readTwo_43 rfl ?_
      refine m_v2 (pc := 44) dX12_readTwo_44 lk_X12_236 ok_X12_emit (rcO o_534 (by decide) rfl) rfl rfl (c_emit_n (nI_m1 (by omega)) (kt_v ?_))
      refine s_return (pc := 47) dX12_readTwo_47 rfl ?_
      exact hb e _ _ _ (by unfold lUt; rw [hwE]; simp only [s1, q2]) r2 w2
    · have g2 := hG _ _ _ _ (sk_le u1) q2
      refine s_aload_n (pc := 15) (i := 0) dX12_readTwo_15 rfl rfl ?_
      refine m_bi (pc := 16) (v := 44) dX12_readTwo_16 rfl ?_
      refine m_v1 (pc := 18) dX12_readTwo_18 lk_X12_223 ok_X12_sign (rcO o_534 (by decide) rfl) rfl rfl (c_sg (c := 44) (mx_f hm w2) r2 (by decide) (by decide) rfl (fun a3 s3 u3 v3 => kt_v ?_) (fun e s3 u3 v3 => kt_v ?_))
      · have z3 := sk_ge (t := t) (N := N) (a := a3)
        refine s_aload_n (pc := 21) (i := 0) dX12_readTwo_21 rfl rfl ?_
        refine m_v0 (pc := 22) dX12_readTwo_22 lk_X12_245 ok_X12_readSum (rcO o_534 (by decide) rfl) rfl rfl (hS _ _ _ _ _ _ _ _ _ (mx_f hm w2) u3 hN l2 (by omega) (fun e a4 I4 op4 q4 r4 w4 => kt_v ?_) (fun a4 c4 I4 q4 r4 w4 l4 => kt_v ?_))
        · refine s_aload_n (pc := 25) (i := 0) dX12_readTwo_25 rfl rfl ?_
          refine m_bi (pc := 26) (v := 93) dX12_readTwo_26 rfl ?_
          refine m_v1 (pc := 28) dX12_readTwo_28 lk_X12_223 ok_X12_sign (rcO o_534 (by decide) rfl) rfl rfl (c_X12_sign_n (nI_m1 (by omega)) (kt_v ?_))
          refine s_aload_n (pc := 31) (i := 0) dX12_readTwo_31 rfl rfl ?_
          refine s_dup (pc := 32) dX12_readTwo_32 rfl ?_
          refine m_gi (pc := 33) dX12_readTwo_33 ff_X12_142 rfl o_534 ?_
          refine m_nm (v' := op4) rfl ?_
          refine m_ic (pc := 36) (v := 1) dX12_readTwo_36 rfl ?_
          refine s_isub (pc := 37) dX12_readTwo_37 ?_
          refine m_nm (v' := op4 - 1) (rfl) ?_
          refine m_pi (pc := 38) dX12_readTwo_38 ff_X12_142 rfl rfl o_534 ?_
          refine Rs_cg mp_o ?_
          refine s_aload_n (pc := 41) (i := 0) dX12_readTwo_41 rfl rfl ?_
          refine s_iload_n (pc := 42) (i := 2) dX12_readTwo_42 rfl rfl ?_
          refine m_ic (pc := 43) (v := 0) dX12_readTwo_43 rfl ?_
          refine m_v2 (pc := 44) dX12_readTwo_44 lk_X12_236 ok_X12_emit (rcO o_534 (by decide) rfl) rfl rfl (c_emit_n (nI_m1 (by omega)) (kt_v ?_))
          refine s_return (pc := 47) dX12_readTwo_47 rfl ?_
          exact hb e _ _ _ (by unfold lUt; rw [hwE]; simp only [s1, q2, s3, q4]) r4 (fM_t w2 w4)
        · have g4 := hG _ _ _ _ (sk_le u3) q4
          refine s_aload_n (pc := 25) (i := 0) dX12_readTwo_25 rfl rfl ?_
          refine m_bi (pc := 26) (v := 93) dX12_readTwo_26 rfl ?_
          refine m_v1 (pc := 28) dX12_readTwo_28 lk_X12_223 ok_X12_sign (rcO o_534 (by decide) rfl) rfl rfl (c_sg (c := 93) (mx_f (mx_f hm w2) w4) r4 (by decide) (by decide) rfl (fun a5 s5 u5 v5 => kt_v ?_) (fun e s5 u5 v5 => kt_v ?_))
          · have z5 := sk_ge (t := t) (N := N) (a := a5)
            refine s_aload_n (pc := 31) (i := 0) dX12_readTwo_31 rfl rfl ?_
            refine s_dup (pc := 32) dX12_readTwo_32 rfl ?_
            refine m_gi (pc := 33) dX12_readTwo_33 ff_X12_142 rfl o_534 ?_
            refine m_nm (v' := (nI (o + 1))) rfl ?_
            refine m_ic (pc := 36) (v := 1) dX12_readTwo_36 rfl ?_
            refine s_isub (pc := 37) dX12_readTwo_37 ?_
            refine m_nm (v' := nI o) (by rw [show (1 : Int32) = nI 1 from rfl, pk_sub (by omega)]; rfl) ?_
            refine m_pi (pc := 38) dX12_readTwo_38 ff_X12_142 rfl rfl o_534 ?_
            refine Rs_cg mp_o ?_
            refine s_aload_n (pc := 41) (i := 0) dX12_readTwo_41 rfl rfl ?_
            refine s_iload_n (pc := 42) (i := 2) dX12_readTwo_42 rfl rfl ?_
            refine m_ic (pc := 43) (v := 0) dX12_readTwo_43 rfl ?_
            refine m_v2 (pc := 44) dX12_readTwo_44 lk_X12_236 ok_X12_emit (rcO o_534 (by decide) rfl) rfl rfl (c_X12_emit (v := v) (mx_f (mx_f hm w2) w4) l4 (by have := sR_gt s5; omega) hwi (by rw [hmo]; rfl) (fun I6 x6 y6 => kt_v ?_))
            refine s_return (pc := 47) dX12_readTwo_47 rfl ?_
            exact hg a5 _ I6 (by unfold lUt; rw [hwE]; simp only [s1, q2, s3, q4, s5]; rw [← hv]) u5 (fM_t (fM_t w2 w4) x6) y6
          · refine s_aload_n (pc := 31) (i := 0) dX12_readTwo_31 rfl rfl ?_
            refine s_dup (pc := 32) dX12_readTwo_32 rfl ?_
            refine m_gi (pc := 33) dX12_readTwo_33 ff_X12_142 rfl o_534 ?_
            refine m_nm (v' := (nI (o + 1))) rfl ?_
            refine m_ic (pc := 36) (v := 1) dX12_readTwo_36 rfl ?_
            refine s_isub (pc := 37) dX12_readTwo_37 ?_
            refine m_nm (v' := nI (o + 1) - 1) (rfl) ?_
            refine m_pi (pc := 38) dX12_readTwo_38 ff_X12_142 rfl rfl o_534 ?_
            refine Rs_cg mp_o ?_
            refine s_aload_n (pc := 41) (i := 0) dX12_readTwo_41 rfl rfl ?_
            refine s_iload_n (pc := 42) (i := 2) dX12_readTwo_42 rfl rfl ?_
            refine m_ic (pc := 43) (v := 0) dX12_readTwo_43 rfl ?_
            refine m_v2 (pc := 44) dX12_readTwo_44 lk_X12_236 ok_X12_emit (rcO o_534 (by decide) rfl) rfl rfl (c_emit_n (nI_m1 (by omega)) (kt_v ?_))
            refine s_return (pc := 47) dX12_readTwo_47 rfl ?_
            exact hb e _ _ _ (by unfold lUt; rw [hwE]; simp only [s1, q2, s3, q4, s5]) v5 (fM_t w2 w4)
      · refine s_aload_n (pc := 21) (i := 0) dX12_readTwo_21 rfl rfl ?_
        refine m_v0 (pc := 22) dX12_readTwo_22 lk_X12_245 ok_X12_readSum (rcO o_534 (by decide) rfl) rfl rfl (c_sum_n (nI_m1 (by omega)) (kt_v ?_))
        refine s_aload_n (pc := 25) (i := 0) dX12_readTwo_25 rfl rfl ?_
        refine m_bi (pc := 26) (v := 93) dX12_readTwo_26 rfl ?_
        refine m_v1 (pc := 28) dX12_readTwo_28 lk_X12_223 ok_X12_sign (rcO o_534 (by decide) rfl) rfl rfl (c_X12_sign_n (nI_m1 (by omega)) (kt_v ?_))
        refine s_aload_n (pc := 31) (i := 0) dX12_readTwo_31 rfl rfl ?_
        refine s_dup (pc := 32) dX12_readTwo_32 rfl ?_
        refine m_gi (pc := 33) dX12_readTwo_33 ff_X12_142 rfl o_534 ?_
        refine m_nm (v' := (nI (o + 1))) rfl ?_
        refine m_ic (pc := 36) (v := 1) dX12_readTwo_36 rfl ?_
        refine s_isub (pc := 37) dX12_readTwo_37 ?_
        refine m_nm (v' := nI (o + 1) - 1) (rfl) ?_
        refine m_pi (pc := 38) dX12_readTwo_38 ff_X12_142 rfl rfl o_534 ?_
        refine Rs_cg mp_o ?_
        refine s_aload_n (pc := 41) (i := 0) dX12_readTwo_41 rfl rfl ?_
        refine s_iload_n (pc := 42) (i := 2) dX12_readTwo_42 rfl rfl ?_
        refine m_ic (pc := 43) (v := 0) dX12_readTwo_43 rfl ?_
        refine m_v2 (pc := 44) dX12_readTwo_44 lk_X12_236 ok_X12_emit (rcO o_534 (by decide) rfl) rfl rfl (c_emit_n (nI_m1 (by omega)) (kt_v ?_))
        refine s_return (pc := 47) dX12_readTwo_47 rfl ?_
        exact hb e _ _ _ (by unfold lUt; rw [hwE]; simp only [s1, q2, s3]) v3 w2
  · refine s_aload_n (pc := 11) (i := 0) dX12_readTwo_11 rfl rfl ?_
    refine m_v0 (pc := 12) dX12_readTwo_12 lk_X12_245 ok_X12_readSum (rcO o_534 (by decide) rfl) rfl rfl (c_sum_n (nI_m1 (by omega)) (kt_v ?_))
    refine s_aload_n (pc := 15) (i := 0) dX12_readTwo_15 rfl rfl ?_
    refine m_bi (pc := 16) (v := 44) dX12_readTwo_16 rfl ?_
    refine m_v1 (pc := 18) dX12_readTwo_18 lk_X12_223 ok_X12_sign (rcO o_534 (by decide) rfl) rfl rfl (c_X12_sign_n (nI_m1 (by omega)) (kt_v ?_))
    refine s_aload_n (pc := 21) (i := 0) dX12_readTwo_21 rfl rfl ?_
    refine m_v0 (pc := 22) dX12_readTwo_22 lk_X12_245 ok_X12_readSum (rcO o_534 (by decide) rfl) rfl rfl (c_sum_n (nI_m1 (by omega)) (kt_v ?_))
    refine s_aload_n (pc := 25) (i := 0) dX12_readTwo_25 rfl rfl ?_
    refine m_bi (pc := 26) (v := 93) dX12_readTwo_26 rfl ?_
    refine m_v1 (pc := 28) dX12_readTwo_28 lk_X12_223 ok_X12_sign (rcO o_534 (by decide) rfl) rfl rfl (c_X12_sign_n (nI_m1 (by omega)) (kt_v ?_))
    refine s_aload_n (pc := 31) (i := 0) dX12_readTwo_31 rfl rfl ?_
    refine s_dup (pc := 32) dX12_readTwo_32 rfl ?_
    refine m_gi (pc := 33) dX12_readTwo_33 ff_X12_142 rfl o_534 ?_
    refine m_nm (v' := (nI (o + 1))) rfl ?_
    refine m_ic (pc := 36) (v := 1) dX12_readTwo_36 rfl ?_
    refine s_isub (pc := 37) dX12_readTwo_37 ?_
    refine m_nm (v' := nI (o + 1) - 1) (rfl) ?_
    refine m_pi (pc := 38) dX12_readTwo_38 ff_X12_142 rfl rfl o_534 ?_
    refine Rs_cg mp_o ?_
    refine s_aload_n (pc := 41) (i := 0) dX12_readTwo_41 rfl rfl ?_
    refine s_iload_n (pc := 42) (i := 2) dX12_readTwo_42 rfl rfl ?_
    refine m_ic (pc := 43) (v := 0) dX12_readTwo_43 rfl ?_
    refine m_v2 (pc := 44) dX12_readTwo_44 lk_X12_236 ok_X12_emit (rcO o_534 (by decide) rfl) rfl rfl (c_emit_n (nI_m1 (by omega)) (kt_v ?_))
    refine s_return (pc := 47) dX12_readTwo_47 rfl ?_
    exact hb e _ _ _ (by unfold lUt; rw [hwE]; simp only [s1]) v1 fM_r
theorem c_two6 {bi wi : Int32} (ha : a ≤ 600) (hq : ∀ op', Q (.inl none) (Z (mp I a (nI a) 3 op') J n w)) : Cn g (d + 4) mX12_readTwo [.ref 534, .int bi, .int wi] (Z (mp I a (-1) bk (nI 6)) J n w) Q := by
  show Rn g (d + 4) mX12_readTwo 0 [.ref 534, .int bi, .int wi] [] [] (Z (mp I a (-1) bk (nI 6)) J n w) Q
  refine s_aload_n (pc := 0) (i := 0) dX12_readTwo_0 rfl rfl ?_
  refine s_iload_n (pc := 1) (i := 1) dX12_readTwo_1 rfl rfl ?_
  refine m_v1 (pc := 2) dX12_readTwo_2 lk_X12_242 ok_X12_opensOne (rcO o_534 (by decide) rfl) rfl rfl (c_open6 rfl ha (kt_v ?_))
  refine s_aload_n (pc := 5) (i := 0) dX12_readTwo_5 rfl rfl ?_
  refine m_bi (pc := 6) (v := 91) dX12_readTwo_6 rfl ?_
  refine m_v1 (pc := 8) dX12_readTwo_8 lk_X12_223 ok_X12_sign (rcO o_534 (by decide) rfl) rfl rfl (c_X12_sign_n (nI_m1 (by omega)) (kt_v ?_))
  refine s_aload_n (pc := 11) (i := 0) dX12_readTwo_11 rfl rfl ?_
  refine m_v0 (pc := 12) dX12_readTwo_12 lk_X12_245 ok_X12_readSum (rcO o_534 (by decide) rfl) rfl rfl (c_sum_n (nI_m1 (by omega)) (kt_v ?_))
  refine s_aload_n (pc := 15) (i := 0) dX12_readTwo_15 rfl rfl ?_
  refine m_bi (pc := 16) (v := 44) dX12_readTwo_16 rfl ?_
  refine m_v1 (pc := 18) dX12_readTwo_18 lk_X12_223 ok_X12_sign (rcO o_534 (by decide) rfl) rfl rfl (c_X12_sign_n (nI_m1 (by omega)) (kt_v ?_))
  refine s_aload_n (pc := 21) (i := 0) dX12_readTwo_21 rfl rfl ?_
  refine m_v0 (pc := 22) dX12_readTwo_22 lk_X12_245 ok_X12_readSum (rcO o_534 (by decide) rfl) rfl rfl (c_sum_n (nI_m1 (by omega)) (kt_v ?_))
  refine s_aload_n (pc := 25) (i := 0) dX12_readTwo_25 rfl rfl ?_
  refine m_bi (pc := 26) (v := 93) dX12_readTwo_26 rfl ?_
  refine m_v1 (pc := 28) dX12_readTwo_28 lk_X12_223 ok_X12_sign (rcO o_534 (by decide) rfl) rfl rfl (c_X12_sign_n (nI_m1 (by omega)) (kt_v ?_))
  refine s_aload_n (pc := 31) (i := 0) dX12_readTwo_31 rfl rfl ?_
  refine s_dup (pc := 32) dX12_readTwo_32 rfl ?_
  refine m_gi (pc := 33) dX12_readTwo_33 ff_X12_142 rfl o_534 ?_
  refine m_nm (v' := 7) rfl ?_
  refine m_ic (pc := 36) (v := 1) dX12_readTwo_36 rfl ?_
  refine s_isub (pc := 37) dX12_readTwo_37 ?_
  refine m_nm (v' := 7 - 1) (rfl) ?_
  refine m_pi (pc := 38) dX12_readTwo_38 ff_X12_142 rfl rfl o_534 ?_
  refine Rs_cg mp_o ?_
  refine s_aload_n (pc := 41) (i := 0) dX12_readTwo_41 rfl rfl ?_
  refine s_iload_n (pc := 42) (i := 2) dX12_readTwo_42 rfl rfl ?_
  refine m_ic (pc := 43) (v := 0) dX12_readTwo_43 rfl ?_
  refine m_v2 (pc := 44) dX12_readTwo_44 lk_X12_236 ok_X12_emit (rcO o_534 (by decide) rfl) rfl rfl (c_emit_n (nI_m1 (by omega)) (kt_v ?_))
  refine s_return (pc := 47) dX12_readTwo_47 rfl ?_
  exact hq _
end S
