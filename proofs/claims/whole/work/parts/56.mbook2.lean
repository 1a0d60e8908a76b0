section S
variable {g : aG} {d : Nat} {I : Nat → Nat → Int32} {J : Nat → Nat → Int64} {n w : Nat} {Q : aO → aS → Prop}
variable {t : Nat → Nat} {N a : Nat} {bad bk op : Int32} {σ : aS}
theorem mp_fl {x m : Nat} {v : Int32} (h : x ≠ 534) : flI (mp I a bad bk op) x m v = mp (flI I x m v) a bad bk op := by
  funext y j; unfold flI mp; dsimp only
  by_cases e : y = x ∧ j < m
  · rw [if_pos e, if_pos e, if_neg (by omega), if_neg (by omega), if_neg (by omega), if_neg (by omega)]
  · rw [if_neg e, if_neg e]
theorem Bm_p {B : Nat → Option Nat} {v : Int32} (h : Bm I 552 B) : Bm (mp (up I 534 8 v) a bad bk op) 552 B := fun b hb => by rw [mp_x (by omega), up_a (by decide)]; exact h b hb
theorem mb_fl {x : Int32} {v3 v4 v5 : Value} {I0 : Nat → Nat → Int32} : ∀ f i, i ≤ 7 → 7 - i = f → Rn g (d + 4) mX12_book 65 [.ref 534, .int x, .int (nI 7), v3, v4, v5] [] [] (Z (flI I0 552 7 (-1)) J n w) Q → Rn g (d + 4) mX12_book 46 [.ref 534, .int x, .int (nI i), v3, v4, v5] [] [] (Z (flI I0 552 i (-1)) J n w) Q := by
  intro f
  induction f with
  | zero =>
    intro i hi hf kk
    have e : i = 7 := by omega
    subst e
    refine s_iload_n (pc := 46) (i := 2) dX12_book_46 rfl rfl ?_
    refine m_bi (pc := 47) (v := 7) dX12_book_47 rfl ?_
    refine s_icge (pc := 49) (tgt := 65) dX12_book_49 rfl (fun h49 => ?_) (fun h49 => absurd (nI_le (a := 7) (b := 7) (by omega) (by omega)) h49)
    exact kk
  | succ f ih =>
    intro i hi hf kk
    refine s_iload_n (pc := 46) (i := 2) dX12_book_46 rfl rfl ?_
    refine m_bi (pc := 47) (v := 7) dX12_book_47 rfl ?_
    refine s_icge (pc := 49) (tgt := 65) dX12_book_49 rfl (fun h49 => absurd h49 (nI_ge (a := i) (b := 7) (by omega) (by omega))) (fun h49 => ?_)
    refine s_aload_n (pc := 52) (i := 0) dX12_book_52 rfl rfl ?_
    refine m_gr (pc := 53) dX12_book_53 ff_X12_68 rfl o_534 r_534_39 ?_
    refine s_iload_n (pc := 56) (i := 2) dX12_book_56 rfl rfl ?_
    refine m_ic (pc := 57) (v := -1) dX12_book_57 rfl ?_
    refine m_is (pc := 58) dX12_book_58 a_552 (vp_in_nI (by omega) (by decide)) ?_
    rw [nI_clamp (by omega), fl_1]
    refine m_inc (pc := 59) (v := 1) dX12_book_59 rfl rfl ?_
    dsimp only [List.set, List.filter]
    rw [nI_1]
    refine s_goto (pc := 62) (tgt := 46) dX12_book_62 rfl ?_
    exact ih (i + 1) (by omega) (by omega) kk
theorem c_X12_book {x : Int32} {T nb : Nat} (hT : I 534 2 = nI T) (hT6 : T ≤ 600) (htx : ∀ i, i < T → t i < 256 ∧ I 536 i = nI (t i)) (hnb : I 534 17 = nI nb) (hnb7 : nb ≤ 7)
 (h1 : ¬ (¬ x < 0 ∧ ¬ nI T < x ∧ ¬ (60 : Int32) < x) → Q (.inl (some (.int 0))) (Z (thr I 1 1) J n w))
 (h2 : ∀ N e I', x = nI N → N ≤ T → N ≤ 60 → rBk t N nb 60 (sk t N 0) (fun _ => none) 0 = .inl e → gM I I' → I' 534 0 = 0 → I' 534 2 = 0 → I' 534 8 = nI e.2 → Q (.inl (some (.int (nI e.1 - 10)))) (Z I' J n w))
 (h3 : ∀ N B k I', x = nI N → N ≤ T → N ≤ 60 → rBk t N nb 60 (sk t N 0) (fun _ => none) 0 = .inr (B, k) → k ≤ 60 → gM I I' → I' 534 0 = 0 → I' 534 2 = 0 → I' 534 8 = -1 → Bm I' 552 B → bOk B → Q (.inl (some (.int (nI k)))) (Z (cpI (up I' 534 41 (nI k)) 552 553 7) J n w)) : Cn g (d + 4) mX12_book [.ref 534, .int x] (Z I J n w) Q := by
  show Rn g (d + 4) mX12_book 0 [.ref 534, .int x, .retAddr 0, .retAddr 0, .retAddr 0, .retAddr 0] [] [] (Z I J n w) Q
  refine s_aload_n (pc := 0) (i := 0) dX12_book_0 rfl rfl ?_
  refine m_ic (pc := 1) (v := 0) dX12_book_1 rfl ?_
  refine m_pi (pc := 2) dX12_book_2 ff_X12_3 rfl rfl o_534 ?_
  refine s_aload_n (pc := 5) (i := 0) dX12_book_5 rfl rfl ?_
  refine s_iload_n (pc := 6) (i := 1) dX12_book_6 rfl rfl ?_
  refine s_iflt (pc := 7) (tgt := 28) dX12_book_7 rfl (fun h7 => ?_) (fun h7 => ?_)
  · refine m_ic (pc := 28) (v := 0) dX12_book_28 rfl ?_
    refine m_ic (pc := 29) (v := 1) dX12_book_29 rfl ?_
    refine m_ic (pc := 30) (v := 1) dX12_book_30 rfl ?_
    refine m_v3 (pc := 31) dX12_book_31 lk_X12_192 ok_X12_may (rcO o_534 (by decide) rfl) rfl rfl (c_may0 (k := 1) (by decide) rfl rfl (by decide) (kt_s ?_))
    · refine s_ifne (pc := 34) (tgt := 39) dX12_book_34 rfl (fun h34 => absurd h34 (by decide)) (fun h34 => ?_)
      refine m_ic (pc := 37) (v := 0) dX12_book_37 rfl ?_
      refine s_ireturn (pc := 38) dX12_book_38 rfl rfl ?_
      rw [thr_0]
      exact h1 (fun z => z.1 h7)
  · refine s_iload_n (pc := 10) (i := 1) dX12_book_10 rfl rfl ?_
    refine s_aload_n (pc := 11) (i := 0) dX12_book_11 rfl rfl ?_
    refine m_gi (pc := 12) dX12_book_12 ff_X12_99 rfl o_534 ?_
    refine m_nm (v' := nI T) (by rw [up_k (by decide)]; exact hT) ?_
    refine s_icgt (pc := 15) (tgt := 28) dX12_book_15 rfl (fun h15 => ?_) (fun h15 => ?_)
    · refine m_ic (pc := 28) (v := 0) dX12_book_28 rfl ?_
      refine m_ic (pc := 29) (v := 1) dX12_book_29 rfl ?_
      refine m_ic (pc := 30) (v := 1) dX12_book_30 rfl ?_
      refine m_v3 (pc := 31) dX12_book_31 lk_X12_192 ok_X12_may (rcO o_534 (by decide) rfl) rfl rfl (c_may0 (k := 1) (by decide) rfl rfl (by decide) (kt_s ?_))
      · refine s_ifne (pc := 34) (tgt := 39) dX12_book_34 rfl (fun h34 => absurd h34 (by decide)) (fun h34 => ?_)
        refine m_ic (pc := 37) (v := 0) dX12_book_37 rfl ?_
        refine s_ireturn (pc := 38) dX12_book_38 rfl rfl ?_
        rw [thr_0]
        exact h1 (fun z => z.2.1 h15)
    · refine s_iload_n (pc := 18) (i := 1) dX12_book_18 rfl rfl ?_
      refine m_bi (pc := 19) (v := 60) dX12_book_19 rfl ?_
      refine s_icgt (pc := 21) (tgt := 28) dX12_book_21 rfl (fun h21 => ?_) (fun h21 => ?_)
      · refine m_ic (pc := 28) (v := 0) dX12_book_28 rfl ?_
        refine m_ic (pc := 29) (v := 1) dX12_book_29 rfl ?_
        refine m_ic (pc := 30) (v := 1) dX12_book_30 rfl ?_
        refine m_v3 (pc := 31) dX12_book_31 lk_X12_192 ok_X12_may (rcO o_534 (by decide) rfl) rfl rfl (c_may0 (k := 1) (by decide) rfl rfl (by decide) (kt_s ?_))
        · refine s_ifne (pc := 34) (tgt := 39) dX12_book_34 rfl (fun h34 => absurd h34 (by decide)) (fun h34 => ?_)
          refine m_ic (pc := 37) (v := 0) dX12_book_37 rfl ?_
          refine s_ireturn (pc := 38) dX12_book_38 rfl rfl ?_
          rw [thr_0]
          exact h1 (fun z => z.2.2 h21)
      · refine m_ic (pc := 24) (v := 1) dX12_book_24 rfl ?_
        refine s_goto (pc := 25) (tgt := 29) dX12_book_25 rfl ?_
        refine m_ic (pc := 29) (v := 1) dX12_book_29 rfl ?_
        refine m_ic (pc := 30) (v := 1) dX12_book_30 rfl ?_
        refine m_v3 (pc := 31) dX12_book_31 lk_X12_192 ok_X12_may (rcO o_534 (by decide) rfl) rfl rfl (c_may1 (k := 1) (by decide) rfl rfl (by decide) (kt_s ?_))
        · refine s_ifne (pc := 34) (tgt := 39) dX12_book_34 rfl (fun h34 => ?_) (fun h34 => absurd h34 (by decide))
          refine s_aload_n (pc := 39) (i := 0) dX12_book_39 rfl rfl ?_
          refine s_iload_n (pc := 40) (i := 1) dX12_book_40 rfl rfl ?_
          refine m_v1 (pc := 41) dX12_book_41 lk_X12_196 ok_X12_begins (rcO o_534 (by decide) rfl) rfl rfl (c_X12_begins (kt_v ?_))
          refine m_ic (pc := 44) (v := 0) dX12_book_44 rfl ?_
          refine s_istore_n (pc := 45) (i := 2) dX12_book_45 rfl (Nat.le_of_ble_eq_true rfl) ?_
          dsimp only [List.set, List.filter]
          obtain ⟨N, ex, hN⟩ := x_N hT6 h7 h15
          have hN5 : N ≤ 60 := Nat.not_lt.mp (fun z => h21 (by rw [ex, show (60 : Int32) = nI 60 from rfl]; exact nI_lt z (by omega)))
          have e6 : (up I 534 0 0) 534 6 = I 534 6 := rfl
          rw [e6]
          obtain ⟨I2, e2⟩ : ∃ z, z = up (up (up (up I 534 0 0) 534 2 0) 534 8 (-1)) 534 3 x := ⟨_, rfl⟩
          rw [← e2]
          refine Rs_cg (fl_0 (x := 552) (v := -1)).symm ?_
          refine mb_fl 7 0 (by omega) (by omega) ?_
          rw [mp_fl (by decide)]
          obtain ⟨I3, e3⟩ : ∃ z, z = flI I2 552 7 (-1) := ⟨_, rfl⟩
          rw [← e3]
          have hm : mx I3 t N := be_mx hT6 htx hN ex (fun i => by subst e3; subst e2; simp [up, flI]) (by subst e3; subst e2; simp [up, flI])
          have F0 : I3 534 0 = 0 := by subst e3; subst e2; simp [up, flI]
          have F2 : I3 534 2 = 0 := by subst e3; subst e2; simp [up, flI]
          have Fn : I3 534 17 = nI nb := by subst e3; subst e2; simp [up, flI]; exact hnb
          have hB : Bm I3 552 (fun _ => none) := fun b hb => by subst e3; simp [flI, hb, ob]
          have G : gM I I3 := gM_t (I' := I2) (by subst e2; exact gM_u (gM_u (gM_u (gM_u gM_r (by decide)) (by decide)) (by decide)) (by decide)) (by subst e3; exact fun y j q => by unfold flI; rw [if_neg (by omega)])
          refine m_ic (pc := 65) (v := 0) dX12_book_65 rfl ?_
          refine s_istore_n (pc := 66) (i := 2) dX12_book_66 rfl (Nat.le_of_ble_eq_true rfl) ?_
          dsimp only [List.set, List.filter]
          refine mb_lp hnb7 60 0 I3 0 (fun _ => none) _ _ _ Fn hm (by omega) (by omega) rfl hB bOk_0 (fun e a' I' v2 v3 v4 v5 q1 q2 q3 => ?_) (fun B k a' I' v3 v4 v5 q1 q2 q3 q4 q5 => ?_)
          · refine s_aload_n (pc := 162) (i := 0) dX12_book_162 rfl rfl ?_
            refine s_iload_n (pc := 163) (i := 2) dX12_book_163 rfl rfl ?_
            refine m_v1 (pc := 164) dX12_book_164 lk_X12_226 ok_X12_result (rcO o_534 (by decide) rfl) rfl rfl (c_X12_result_n (nI_m1 (by omega)) (kt_s ?_))
            refine s_istore_n (pc := 167) (i := 3) dX12_book_167 rfl (Nat.le_of_ble_eq_true rfl) ?_
            dsimp only [List.set, List.filter]
            refine s_aload_n (pc := 168) (i := 0) dX12_book_168 rfl rfl ?_
            refine m_gi (pc := 169) dX12_book_169 ff_X12_102 rfl o_534 ?_
            refine m_nm (v' := (nI e.2)) rfl ?_
            refine m_ic (pc := 172) (v := -1) dX12_book_172 rfl ?_
            refine s_iceq (pc := 173) (tgt := 178) dX12_book_173 rfl (fun h173 => absurd h173 ((nI_m1 (by omega)))) (fun h173 => ?_)
            refine s_iload_n (pc := 176) (i := 3) dX12_book_176 rfl rfl ?_
            refine s_ireturn (pc := 177) dX12_book_177 rfl rfl ?_
            exact h2 N e _ ex hN hN5 q1 (gM_p (gM_u (gM_t G (gM_f q3)) (by decide))) (by rw [mp_x (by decide), up_k (by decide), q3 _ _ (by decide)]; exact F0) (by rw [mp_x (by decide), up_k (by decide), q3 _ _ (by decide)]; exact F2) (by rw [mp_x (by decide), up_s])
          · refine s_aload_n (pc := 162) (i := 0) dX12_book_162 rfl rfl ?_
            refine s_iload_n (pc := 163) (i := 2) dX12_book_163 rfl rfl ?_
            refine m_v1 (pc := 164) dX12_book_164 lk_X12_226 ok_X12_result (rcO o_534 (by decide) rfl) rfl rfl (c_X12_result (kt_s ?_))
            refine s_istore_n (pc := 167) (i := 3) dX12_book_167 rfl (Nat.le_of_ble_eq_true rfl) ?_
            dsimp only [List.set, List.filter]
            refine s_aload_n (pc := 168) (i := 0) dX12_book_168 rfl rfl ?_
            refine m_gi (pc := 169) dX12_book_169 ff_X12_102 rfl o_534 ?_
            refine m_nm (v' := (-1)) rfl ?_
            refine m_ic (pc := 172) (v := -1) dX12_book_172 rfl ?_
            refine s_iceq (pc := 173) (tgt := 178) dX12_book_173 rfl (fun h173 => ?_) (fun h173 => absurd (rfl) h173)
            refine s_aload_n (pc := 178) (i := 0) dX12_book_178 rfl rfl ?_
            refine s_iload_n (pc := 179) (i := 2) dX12_book_179 rfl rfl ?_
            refine m_pi (pc := 180) dX12_book_180 ff_X12_170 rfl rfl o_534 ?_
            refine s_aload_n (pc := 183) (i := 0) dX12_book_183 rfl rfl ?_
            refine s_aload_n (pc := 184) (i := 0) dX12_book_184 rfl rfl ?_
            refine m_gr (pc := 185) dX12_book_185 ff_X12_68 rfl o_534 r_534_39 ?_
            refine s_aload_n (pc := 188) (i := 0) dX12_book_188 rfl rfl ?_
            refine m_gr (pc := 189) dX12_book_189 ff_X12_71 rfl o_534 r_534_40 ?_
            refine m_bi (pc := 192) (v := 7) dX12_book_192 rfl ?_
            refine m_v3 (pc := 194) dX12_book_194 lk_X12_163 ok_X12_copies (rcO o_534 (by decide) rfl) rfl rfl (c_X12_copies (m := 7) rfl a_552 a_553 (by decide) (by decide) (by decide) (by decide) (kt_v ?_))
            refine s_iload_n (pc := 197) (i := 3) dX12_book_197 rfl rfl ?_
            refine s_ireturn (pc := 198) dX12_book_198 rfl rfl ?_
            exact h3 N B k _ ex hN hN5 q1 q2 (gM_p (gM_u (gM_t G (gM_f q3)) (by decide))) (by rw [mp_x (by decide), up_k (by decide), q3 _ _ (by decide)]; exact F0) (by rw [mp_x (by decide), up_k (by decide), q3 _ _ (by decide)]; exact F2) (by rw [mp_x (by decide), up_s]) (Bm_p q4) q5
end S
