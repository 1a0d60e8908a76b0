section S
variable {g : aG} {d : Nat} {I : Nat → Nat → Int32} {J : Nat → Nat → Int64} {n w : Nat} {Q : aO → aS → Prop}
variable {t : Nat → Nat} {N a : Nat} {bad bk op : Int32} {σ : aS}
def Bm (I : Nat → Nat → Int32) (x : Nat) (B : Nat → Option Nat) : Prop := ∀ b, b < 7 → I x b = ob (B b)
theorem Bm_s {B : Nat → Option Nat} {b v : Nat} (h : Bm I 552 B) : Bm (up I 552 b (nI v)) 552 (os B b v) := by
  intro x hx
  unfold os
  by_cases e : x = b
  · subst e; rw [up_s, if_pos rfl]; rfl
  · rw [up_k e, if_neg e]; exact h x hx
theorem c_X12_readBack {nb : Nat} (hnb : I 534 17 = nI nb) (hnb7 : nb ≤ 7) (hm : mx I t N) (ha : a ≤ N) (hb : ∀ e a', nR t N (sk t N a) 0 nb = .inl e → a' ≤ N → e.2 ≤ 600 → Q (.inl (some (.int 0))) (Z (mp I a' (nI e.2) (nI e.1) op) J n w)) (hg : ∀ v a', nR t N (sk t N a) 0 nb = .inr (v, sk t N a') → v < nb → a' ≤ N → sk t N a < a' → Q (.inl (some (.int (nI v)))) (Z (mp I a' (-1) bk op) J n w)) : Cn g (d + 2) mX12_readBack [.ref 534] (Z (mp I a (-1) bk op) J n w) Q := by
  show Rn g (d + 2) mX12_readBack 0 [.ref 534] [] [] (Z (mp I a (-1) bk op) J n w) Q
  refine s_aload_n (pc := 0) (i := 0) dX12_readBack_0 rfl rfl ?_
  refine m_ic (pc := 1) (v := 0) dX12_readBack_1 rfl ?_
  refine s_aload_n (pc := 2) (i := 0) dX12_readBack_2 rfl rfl ?_
  refine m_gi (pc := 3) dX12_readBack_3 ff_X12_154 rfl o_534 ?_
  refine m_nm (v' := nI nb) ((mp_x (by decide)).trans hnb) ?_
  refine m_ic (pc := 6) (v := 1) dX12_readBack_6 rfl ?_
  refine s_isub (pc := 7) dX12_readBack_7 ?_
  refine m_v2 (pc := 8) dX12_readBack_8 lk_X12_188 ok_X12_readNumber (rcO o_534 (by decide) rfl) rfl rfl (c_rn2 hm ha (lo1 := 0) (hi1 := nb) rfl rfl (by omega) (fun e a1 q1 q2 q3 => kt_s ?_) (fun v a1 q1 q2 q3 q4 q5 => kt_s ?_))
  · refine s_ireturn (pc := 11) dX12_readBack_11 rfl rfl ?_
    exact hb e a1 q1 q2 q3
  · refine s_ireturn (pc := 11) dX12_readBack_11 rfl rfl ?_
    exact hg v a1 q1 q3 q4 q5
theorem c_readBack_n {nb : Nat} (hnb : I 534 17 = nI nb) (hbad : bad ≠ -1) (hq : Q (.inl (some (.int 0))) (Z (mp I a bad bk op) J n w)) : Cn g (d + 2) mX12_readBack [.ref 534] (Z (mp I a bad bk op) J n w) Q := by
  show Rn g (d + 2) mX12_readBack 0 [.ref 534] [] [] (Z (mp I a bad bk op) J n w) Q
  refine s_aload_n (pc := 0) (i := 0) dX12_readBack_0 rfl rfl ?_
  refine m_ic (pc := 1) (v := 0) dX12_readBack_1 rfl ?_
  refine s_aload_n (pc := 2) (i := 0) dX12_readBack_2 rfl rfl ?_
  refine m_gi (pc := 3) dX12_readBack_3 ff_X12_154 rfl o_534 ?_
  refine m_ic (pc := 6) (v := 1) dX12_readBack_6 rfl ?_
  refine s_isub (pc := 7) dX12_readBack_7 ?_
  refine m_v2 (pc := 8) dX12_readBack_8 lk_X12_188 ok_X12_readNumber (rcO o_534 (by decide) rfl) rfl rfl (c_X12_readNumber_n hbad (kt_s ?_))
  refine s_ireturn (pc := 11) dX12_readBack_11 rfl rfl ?_
  exact hq
theorem mb_lp {x : Int32} {nb : Nat} (hnb7 : nb ≤ 7) : ∀ f i I a B (u3 u4 u5 : Value), I 534 17 = nI nb → mx I t N → a ≤ N → N - sk t N a ≤ f → i + f = 60 → Bm I 552 B → bOk B → (∀ e a' I' v2 v3 v4 v5, rBk t N nb f (sk t N a) B i = .inl e → e.2 ≤ 600 → fM I I' → Rn g (d + 4) mX12_book 162 [.ref 534, .int x, .int v2, v3, v4, v5] [] [] (Z (mp I' a' (nI e.2) (nI e.1) op) J n w) Q) →
    (∀ B' k' a' I' v3 v4 v5, rBk t N nb f (sk t N a) B i = .inr (B', k') → k' ≤ 60 → fM I I' → Bm I' 552 B' → bOk B' → Rn g (d + 4) mX12_book 162 [.ref 534, .int x, .int (nI k'), v3, v4, v5] [] [] (Z (mp I' a' (-1) bk op) J n w) Q) → Rn g (d + 4) mX12_book 67 [.ref 534, .int x, .int (nI i), u3, u4, u5] [] [] (Z (mp I a (-1) bk op) J n w) Q := by
  intro f
  induction f with
  | zero =>
    intro i I a B u3 u4 u5 hnb hm ha hf hi hB hk hb hg
    have hs := sk_le (t := t) ha
    refine s_aload_n (pc := 67) (i := 0) dX12_book_67 rfl rfl ?_
    refine m_v0 (pc := 68) dX12_book_68 lk_X12_131 ok_X12_fine (rcO o_534 (by decide) rfl) rfl rfl (c_X12_fine (fun h => kt_s ?_) (fun h => absurd rfl h))
    · refine s_ifeq (pc := 71) (tgt := 162) dX12_book_71 rfl (fun h71 => absurd h71 (by decide)) (fun h71 => ?_)
      refine s_aload_n (pc := 74) (i := 0) dX12_book_74 rfl rfl ?_
      refine m_v0 (pc := 75) dX12_book_75 lk_X12_200 ok_X12_isMore (rcO o_534 (by decide) rfl) rfl rfl (c_X12_isMore hm ha (fun h => absurd h (by omega)) (fun h => kt_s ?_))
      · refine s_ifeq (pc := 78) (tgt := 162) dX12_book_78 rfl (fun h78 => ?_) (fun h78 => absurd h78 (by decide))
        exact hg B i _ I _ _ _ rfl (by omega) fM_r hB hk
  | succ f ih =>
    intro i I a B u3 u4 u5 hnb hm ha hf hi hB hk hb hg
    have hN := hm.1
    have hs := sk_le (t := t) ha
    have hss := sk_sk (t := t) (N := N) (a := a)
    refine s_aload_n (pc := 67) (i := 0) dX12_book_67 rfl rfl ?_
    refine m_v0 (pc := 68) dX12_book_68 lk_X12_131 ok_X12_fine (rcO o_534 (by decide) rfl) rfl rfl (c_X12_fine (fun h => kt_s ?_) (fun h => absurd rfl h))
    · refine s_ifeq (pc := 71) (tgt := 162) dX12_book_71 rfl (fun h71 => absurd h71 (by decide)) (fun h71 => ?_)
      refine s_aload_n (pc := 74) (i := 0) dX12_book_74 rfl rfl ?_
      refine m_v0 (pc := 75) dX12_book_75 lk_X12_200 ok_X12_isMore (rcO o_534 (by decide) rfl) rfl rfl (c_X12_isMore hm ha (fun h => kt_s ?_) (fun h => kt_s ?_))
      · refine s_ifeq (pc := 78) (tgt := 162) dX12_book_78 rfl (fun h78 => absurd h78 (by decide)) (fun h78 => ?_)
        refine s_aload_n (pc := 81) (i := 0) dX12_book_81 rfl rfl ?_
        refine m_v0 (pc := 82) dX12_book_82 lk_X12_114 ok_X12_here (rcO o_534 (by decide) rfl) rfl rfl (c_X12_here hm hs (kt_s ?_))
        rw [hss]
        refine s_pop (pc := 85) dX12_book_85 rfl ?_
        refine s_aload_n (pc := 86) (i := 0) dX12_book_86 rfl rfl ?_
        refine m_gi (pc := 87) dX12_book_87 ff_X12_108 rfl o_534 ?_
        refine m_nm (v' := nI (sk t N a)) rfl ?_
        refine s_istore_n (pc := 90) (i := 3) dX12_book_90 rfl (Nat.le_of_ble_eq_true rfl) ?_
        dsimp only [List.set, List.filter]
        refine s_aload_n (pc := 91) (i := 0) dX12_book_91 rfl rfl ?_
        refine m_v0 (pc := 92) dX12_book_92 lk_X12_307 ok_X12_readBack (rcO o_534 (by decide) rfl) rfl rfl (c_X12_readBack hnb hnb7 hm hs (fun e a1 q1 q2 q3 => kt_s ?_) (fun b a1 q1 q2 q3 q4 => kt_s ?_))
        · rw [hss] at q1
          refine s_istore (pc := 95) (i := 4) dX12_book_95 (Nat.le_of_ble_eq_true rfl) ?_
          dsimp only [List.set, List.filter]
          refine s_aload_n (pc := 97) (i := 0) dX12_book_97 rfl rfl ?_
          refine m_v0 (pc := 98) dX12_book_98 lk_X12_131 ok_X12_fine (rcO o_534 (by decide) rfl) rfl rfl (c_X12_fine (fun h => absurd h (nI_m1 (by omega))) (fun h => kt_s ?_))
          · refine s_ifeq (pc := 101) (tgt := 121) dX12_book_101 rfl (fun h101 => ?_) (fun h101 => absurd h101 (by decide))
            refine s_aload_n (pc := 121) (i := 0) dX12_book_121 rfl rfl ?_
            refine m_ic (pc := 122) (v := 0) dX12_book_122 rfl ?_
            refine m_si (pc := 123) (v := 999) dX12_book_123 rfl ?_
            refine m_v2 (pc := 126) dX12_book_126 lk_X12_188 ok_X12_readNumber (rcO o_534 (by decide) rfl) rfl rfl (c_X12_readNumber_n (nI_m1 (by omega)) (kt_s ?_))
            refine s_istore (pc := 129) (i := 5) dX12_book_129 (Nat.le_of_ble_eq_true rfl) ?_
            dsimp only [List.set, List.filter]
            refine s_aload_n (pc := 131) (i := 0) dX12_book_131 rfl rfl ?_
            refine m_bi (pc := 132) (v := 59) dX12_book_132 rfl ?_
            refine m_v1 (pc := 134) dX12_book_134 lk_X12_223 ok_X12_sign (rcO o_534 (by decide) rfl) rfl rfl (c_X12_sign_n (nI_m1 (by omega)) (kt_v ?_))
            refine s_aload_n (pc := 137) (i := 0) dX12_book_137 rfl rfl ?_
            refine m_v0 (pc := 138) dX12_book_138 lk_X12_131 ok_X12_fine (rcO o_534 (by decide) rfl) rfl rfl (c_X12_fine (fun h => absurd h (nI_m1 (by omega))) (fun h => kt_s ?_))
            · refine s_ifne (pc := 141) (tgt := 147) dX12_book_141 rfl (fun h141 => absurd h141 (by decide)) (fun h141 => ?_)
              refine s_goto (pc := 144) (tgt := 162) dX12_book_144 rfl ?_
              have cl : rLn t N nb (sk t N a) B = .inl e := by unfold rLn; rw [q1]
              rw [rBk_1 (by omega), cl] at hb
              exact hb e _ I _ _ _ _ rfl q3 fM_r
        · rw [hss] at q1 q4
          refine s_istore (pc := 95) (i := 4) dX12_book_95 (Nat.le_of_ble_eq_true rfl) ?_
          dsimp only [List.set, List.filter]
          refine s_aload_n (pc := 97) (i := 0) dX12_book_97 rfl rfl ?_
          refine m_v0 (pc := 98) dX12_book_98 lk_X12_131 ok_X12_fine (rcO o_534 (by decide) rfl) rfl rfl (c_X12_fine (fun h => kt_s ?_) (fun h => absurd rfl h))
          · refine s_ifeq (pc := 101) (tgt := 121) dX12_book_101 rfl (fun h101 => absurd h101 (by decide)) (fun h101 => ?_)
            refine s_aload_n (pc := 104) (i := 0) dX12_book_104 rfl rfl ?_
            refine m_gr (pc := 105) dX12_book_105 ff_X12_68 rfl o_534 r_534_39 ?_
            refine s_iload (pc := 108) (i := 4) dX12_book_108 rfl ?_
            refine m_ia (pc := 110) dX12_book_110 a_552 (vp_in_nI (n := b) (by omega) (by decide)) ?_
            refine m_nm (v' := ob (B b)) (by rw [nI_clamp (by omega), mp_x (by omega)]; exact hB b (by omega)) ?_
            refine m_ic (pc := 111) (v := -1) dX12_book_111 rfl ?_
            refine s_iceq (pc := 112) (tgt := 121) dX12_book_112 rfl (fun h112 => ?_) (fun h112 => ?_)
            · have z := (ob_no hk).mp h112
              refine s_aload_n (pc := 121) (i := 0) dX12_book_121 rfl rfl ?_
              refine m_ic (pc := 122) (v := 0) dX12_book_122 rfl ?_
              refine m_si (pc := 123) (v := 999) dX12_book_123 rfl ?_
              refine m_v2 (pc := 126) dX12_book_126 lk_X12_188 ok_X12_readNumber (rcO o_534 (by decide) rfl) rfl rfl (c_rn2 hm q3 (lo1 := 0) (hi1 := 1000) rfl rfl (by decide) (fun e a2 r1 r2 r3 => kt_s ?_) (fun v a2 r1 rv1 rv2 r3 r4 => kt_s ?_))
              · refine s_istore (pc := 129) (i := 5) dX12_book_129 (Nat.le_of_ble_eq_true rfl) ?_
                dsimp only [List.set, List.filter]
                refine s_aload_n (pc := 131) (i := 0) dX12_book_131 rfl rfl ?_
                refine m_bi (pc := 132) (v := 59) dX12_book_132 rfl ?_
                refine m_v1 (pc := 134) dX12_book_134 lk_X12_223 ok_X12_sign (rcO o_534 (by decide) rfl) rfl rfl (c_X12_sign_n (nI_m1 (by omega)) (kt_v ?_))
                refine s_aload_n (pc := 137) (i := 0) dX12_book_137 rfl rfl ?_
                refine m_v0 (pc := 138) dX12_book_138 lk_X12_131 ok_X12_fine (rcO o_534 (by decide) rfl) rfl rfl (c_X12_fine (fun h => absurd h (nI_m1 (by omega))) (fun h => kt_s ?_))
                · refine s_ifne (pc := 141) (tgt := 147) dX12_book_141 rfl (fun h141 => absurd h141 (by decide)) (fun h141 => ?_)
                  refine s_goto (pc := 144) (tgt := 162) dX12_book_144 rfl ?_
                  have cl : rLn t N nb (sk t N a) B = .inl e := by unfold rLn; rw [q1]; simp only []; rw [if_neg (by rw [z]; decide), r1]
                  rw [rBk_1 (by omega), cl] at hb
                  exact hb e _ I _ _ _ _ rfl r3 fM_r
              · have cl : rLn t N nb (sk t N a) B = .inr (b, v, sk t N a2) := by unfold rLn; rw [q1]; simp only []; rw [if_neg (by rw [z]; decide), r1]
                rw [rBk_1 (by omega), cl] at hb hg
                simp only [] at hb hg
                refine s_istore (pc := 129) (i := 5) dX12_book_129 (Nat.le_of_ble_eq_true rfl) ?_
                dsimp only [List.set, List.filter]
                refine s_aload_n (pc := 131) (i := 0) dX12_book_131 rfl rfl ?_
                refine m_bi (pc := 132) (v := 59) dX12_book_132 rfl ?_
                refine m_v1 (pc := 134) dX12_book_134 lk_X12_223 ok_X12_sign (rcO o_534 (by decide) rfl) rfl rfl (c_sg (c := 59) hm r3 (by decide) (by decide) rfl (fun a3 s1 s2 s3 => kt_v ?_) (fun e s1 s2 s3 => kt_v ?_))
                · rw [s1] at hb hg
                  simp only [] at hb hg
                  have z3 := sk_ge (t := t) (N := N) (a := a3)
                  have z2 := sk_ge (t := t) (N := N) (a := a2)
                  have z1 := sk_ge (t := t) (N := N) (a := a1)
                  refine s_aload_n (pc := 137) (i := 0) dX12_book_137 rfl rfl ?_
                  refine m_v0 (pc := 138) dX12_book_138 lk_X12_131 ok_X12_fine (rcO o_534 (by decide) rfl) rfl rfl (c_X12_fine (fun h => kt_s ?_) (fun h => absurd rfl h))
                  · refine s_ifne (pc := 141) (tgt := 147) dX12_book_141 rfl (fun h141 => ?_) (fun h141 => absurd h141 (by decide))
                    refine s_aload_n (pc := 147) (i := 0) dX12_book_147 rfl rfl ?_
                    refine m_gr (pc := 148) dX12_book_148 ff_X12_68 rfl o_534 r_534_39 ?_
                    refine s_iload (pc := 151) (i := 4) dX12_book_151 rfl ?_
                    refine s_iload (pc := 153) (i := 5) dX12_book_153 rfl ?_
                    refine m_is (pc := 155) dX12_book_155 a_552 (vp_in_nI (n := b) (by omega) (by decide)) ?_
                    refine st_mp hm (by omega) (by decide) (fun I155 e155 hm => ?_)
                    refine m_inc (pc := 156) (v := 1) dX12_book_156 rfl rfl ?_
                    dsimp only [List.set, List.filter]
                    rw [nI_1]
                    refine s_goto (pc := 159) (tgt := 67) dX12_book_159 rfl ?_
                    rw [nI_clamp (by omega)] at e155
                    have f1 : fM I I155 := by subst e155; exact fM_u fM_r (by omega)
                    exact ih (i + 1) I155 a3 (os B b v) _ _ _ (by rw [f1 _ _ (by decide)]; exact hnb) hm s2 (by omega) (by omega) (by subst e155; exact Bm_s hB) (bOk_s hk rv2) (fun e a' I' v2 v3 v4 v5 z1 z2 z3 => hb e a' I' v2 v3 v4 v5 z1 z2 (fM_t f1 z3)) (fun B' k' a' I' v3 v4 v5 z1 z2 z3 z4 z5 => hg B' k' a' I' v3 v4 v5 z1 z2 (fM_t f1 z3) z4 z5)
                · rw [s1] at hb
                  refine s_aload_n (pc := 137) (i := 0) dX12_book_137 rfl rfl ?_
                  refine m_v0 (pc := 138) dX12_book_138 lk_X12_131 ok_X12_fine (rcO o_534 (by decide) rfl) rfl rfl (c_X12_fine (fun h => absurd h (nI_m1 (by omega))) (fun h => kt_s ?_))
                  · refine s_ifne (pc := 141) (tgt := 147) dX12_book_141 rfl (fun h141 => absurd h141 (by decide)) (fun h141 => ?_)
                    refine s_goto (pc := 144) (tgt := 162) dX12_book_144 rfl ?_
                    exact hb e _ I _ _ _ _ rfl s3 fM_r
            · have z : (B b).isSome = true := ts_nf (fun y => h112 ((ob_no hk).mpr y))
              refine s_aload_n (pc := 115) (i := 0) dX12_book_115 rfl rfl ?_
              refine m_ic (pc := 116) (v := 2) dX12_book_116 rfl ?_
              refine s_iload_n (pc := 117) (i := 3) dX12_book_117 rfl rfl ?_
              refine m_v2 (pc := 118) dX12_book_118 lk_X12_138 ok_X12_wrong (rcO o_534 (by decide) rfl) rfl rfl (c_X12_wrong rfl (kt_v ?_))
              refine s_aload_n (pc := 121) (i := 0) dX12_book_121 rfl rfl ?_
              refine m_ic (pc := 122) (v := 0) dX12_book_122 rfl ?_
              refine m_si (pc := 123) (v := 999) dX12_book_123 rfl ?_
              refine m_v2 (pc := 126) dX12_book_126 lk_X12_188 ok_X12_readNumber (rcO o_534 (by decide) rfl) rfl rfl (c_X12_readNumber_n (nI_m1 (by omega)) (kt_s ?_))
              refine s_istore (pc := 129) (i := 5) dX12_book_129 (Nat.le_of_ble_eq_true rfl) ?_
              dsimp only [List.set, List.filter]
              refine s_aload_n (pc := 131) (i := 0) dX12_book_131 rfl rfl ?_
              refine m_bi (pc := 132) (v := 59) dX12_book_132 rfl ?_
              refine m_v1 (pc := 134) dX12_book_134 lk_X12_223 ok_X12_sign (rcO o_534 (by decide) rfl) rfl rfl (c_X12_sign_n (nI_m1 (by omega)) (kt_v ?_))
              refine s_aload_n (pc := 137) (i := 0) dX12_book_137 rfl rfl ?_
              refine m_v0 (pc := 138) dX12_book_138 lk_X12_131 ok_X12_fine (rcO o_534 (by decide) rfl) rfl rfl (c_X12_fine (fun h => absurd h (nI_m1 (by omega))) (fun h => kt_s ?_))
              · refine s_ifne (pc := 141) (tgt := 147) dX12_book_141 rfl (fun h141 => absurd h141 (by decide)) (fun h141 => ?_)
                refine s_goto (pc := 144) (tgt := 162) dX12_book_144 rfl ?_
                have cl : rLn t N nb (sk t N a) B = .inl (2, sk t N a) := by unfold rLn; rw [q1]; simp only []; rw [if_pos z]
                rw [rBk_1 (by omega), cl] at hb
                exact hb (2, sk t N a) _ I _ _ _ _ rfl (by simp only []; omega) fM_r
      · rw [rBk, if_pos (by omega)] at hg
        refine s_ifeq (pc := 78) (tgt := 162) dX12_book_78 rfl (fun h78 => ?_) (fun h78 => absurd h78 (by decide))
        exact hg B i _ I _ _ _ rfl (by omega) fM_r hB hk
end S
