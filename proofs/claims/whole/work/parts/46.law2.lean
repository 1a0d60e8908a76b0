section S
variable {g : aG} {d : Nat} {I : Nat → Nat → Int32} {J : Nat → Nat → Int64} {n w : Nat} {Q : aO → aS → Prop}
variable {t : Nat → Nat} {N a wf wt : Nat} {fk fp : Int32} {σ : aS}
theorem c_X4_thingOf (hx : tx I t N) (hw2 : wE t N wf ≤ N) (h1 : thW t N wf = none → Q (.inl (some (.int (-1)))) (Z (tp I a wf (wE t N wf) fk fp) J n w)) (h2 : ∀ i, thW t N wf = some i → Q (.inl (some (.int (nI (1000 + i))))) (Z (tp I a wf (wE t N wf) fk fp) J n w)) : Cn g (d + 5) mX4_thingOf [.ref 2] (Z (tp I a wf (wE t N wf) fk fp) J n w) Q := by
  have hw1 := wE_ge (t := t) (N := N) (a := wf)
  show Rn g (d + 5) mX4_thingOf 0 [.ref 2] [] [] (Z (tp I a wf (wE t N wf) fk fp) J n w) Q
  refine s_aload_n (pc := 0) (i := 0) dX4_thingOf_0 rfl rfl ?_
  refine s_ldcS (pc := 1) (j := 3) dX4_thingOf_1 sr_X4_106 rfl ?_
  refine m_v1 (pc := 3) dX4_thingOf_3 lk_X4_87 ok_X10_isWord (rcO o_2 (by decide) rfl) rfl rfl (c_X10_isWord (j := 3) hx (by decide) hw1 hw2 (fun q3 => kt_s ?_) (fun q3 => kt_s ?_))
  · have b3 := wB_m.mpr q3
    refine s_ifeq (pc := 6) (tgt := 13) dX4_thingOf_6 rfl (fun h6 => absurd h6 (by decide)) (fun h6 => ?_)
    refine m_si (pc := 9) (v := 1000) dX4_thingOf_9 rfl ?_
    refine s_ireturn (pc := 12) dX4_thingOf_12 rfl rfl ?_
    exact h2 0 (by unfold thW; rw [if_pos b3])
  · have b3 := wB_f.mpr q3
    refine s_ifeq (pc := 6) (tgt := 13) dX4_thingOf_6 rfl (fun h6 => ?_) (fun h6 => absurd h6 (by decide))
    refine s_aload_n (pc := 13) (i := 0) dX4_thingOf_13 rfl rfl ?_
    refine s_ldcS (pc := 14) (j := 4) dX4_thingOf_14 sr_X4_108 rfl ?_
    refine m_v1 (pc := 16) dX4_thingOf_16 lk_X4_87 ok_X10_isWord (rcO o_2 (by decide) rfl) rfl rfl (c_X10_isWord (j := 4) hx (by decide) hw1 hw2 (fun q4 => kt_s ?_) (fun q4 => kt_s ?_))
    · have b4 := wB_m.mpr q4
      refine s_ifeq (pc := 19) (tgt := 26) dX4_thingOf_19 rfl (fun h19 => absurd h19 (by decide)) (fun h19 => ?_)
      refine m_si (pc := 22) (v := 1001) dX4_thingOf_22 rfl ?_
      refine s_ireturn (pc := 25) dX4_thingOf_25 rfl rfl ?_
      exact h2 1 (by unfold thW; rw [if_neg (by rw [b3]; decide), if_pos b4])
    · have b4 := wB_f.mpr q4
      refine s_ifeq (pc := 19) (tgt := 26) dX4_thingOf_19 rfl (fun h19 => ?_) (fun h19 => absurd h19 (by decide))
      refine s_aload_n (pc := 26) (i := 0) dX4_thingOf_26 rfl rfl ?_
      refine s_ldcS (pc := 27) (j := 5) dX4_thingOf_27 sr_X4_110 rfl ?_
      refine m_v1 (pc := 29) dX4_thingOf_29 lk_X4_87 ok_X10_isWord (rcO o_2 (by decide) rfl) rfl rfl (c_X10_isWord (j := 5) hx (by decide) hw1 hw2 (fun q5 => kt_s ?_) (fun q5 => kt_s ?_))
      · have b5 := wB_m.mpr q5
        refine s_ifeq (pc := 32) (tgt := 39) dX4_thingOf_32 rfl (fun h32 => absurd h32 (by decide)) (fun h32 => ?_)
        refine m_si (pc := 35) (v := 1002) dX4_thingOf_35 rfl ?_
        refine s_ireturn (pc := 38) dX4_thingOf_38 rfl rfl ?_
        exact h2 2 (by unfold thW; rw [if_neg (by rw [b3]; decide), if_neg (by rw [b4]; decide), if_pos b5])
      · have b5 := wB_f.mpr q5
        refine s_ifeq (pc := 32) (tgt := 39) dX4_thingOf_32 rfl (fun h32 => ?_) (fun h32 => absurd h32 (by decide))
        refine s_aload_n (pc := 39) (i := 0) dX4_thingOf_39 rfl rfl ?_
        refine s_ldcS (pc := 40) (j := 6) dX4_thingOf_40 sr_X4_112 rfl ?_
        refine m_v1 (pc := 42) dX4_thingOf_42 lk_X4_87 ok_X10_isWord (rcO o_2 (by decide) rfl) rfl rfl (c_X10_isWord (j := 6) hx (by decide) hw1 hw2 (fun q6 => kt_s ?_) (fun q6 => kt_s ?_))
        · have b6 := wB_m.mpr q6
          refine s_ifeq (pc := 45) (tgt := 52) dX4_thingOf_45 rfl (fun h45 => absurd h45 (by decide)) (fun h45 => ?_)
          refine m_si (pc := 48) (v := 1003) dX4_thingOf_48 rfl ?_
          refine s_ireturn (pc := 51) dX4_thingOf_51 rfl rfl ?_
          exact h2 3 (by unfold thW; rw [if_neg (by rw [b3]; decide), if_neg (by rw [b4]; decide), if_neg (by rw [b5]; decide), if_pos b6])
        · have b6 := wB_f.mpr q6
          refine s_ifeq (pc := 45) (tgt := 52) dX4_thingOf_45 rfl (fun h45 => ?_) (fun h45 => absurd h45 (by decide))
          refine s_aload_n (pc := 52) (i := 0) dX4_thingOf_52 rfl rfl ?_
          refine s_ldcS (pc := 53) (j := 7) dX4_thingOf_53 sr_X4_114 rfl ?_
          refine m_v1 (pc := 55) dX4_thingOf_55 lk_X4_87 ok_X10_isWord (rcO o_2 (by decide) rfl) rfl rfl (c_X10_isWord (j := 7) hx (by decide) hw1 hw2 (fun q7 => kt_s ?_) (fun q7 => kt_s ?_))
          · have b7 := wB_m.mpr q7
            refine s_ifeq (pc := 58) (tgt := 65) dX4_thingOf_58 rfl (fun h58 => absurd h58 (by decide)) (fun h58 => ?_)
            refine m_si (pc := 61) (v := 1004) dX4_thingOf_61 rfl ?_
            refine s_ireturn (pc := 64) dX4_thingOf_64 rfl rfl ?_
            exact h2 4 (by unfold thW; rw [if_neg (by rw [b3]; decide), if_neg (by rw [b4]; decide), if_neg (by rw [b5]; decide), if_neg (by rw [b6]; decide), if_pos b7])
          · have b7 := wB_f.mpr q7
            refine s_ifeq (pc := 58) (tgt := 65) dX4_thingOf_58 rfl (fun h58 => ?_) (fun h58 => absurd h58 (by decide))
            refine s_aload_n (pc := 65) (i := 0) dX4_thingOf_65 rfl rfl ?_
            refine s_ldcS (pc := 66) (j := 8) dX4_thingOf_66 sr_X4_116 rfl ?_
            refine m_v1 (pc := 68) dX4_thingOf_68 lk_X4_87 ok_X10_isWord (rcO o_2 (by decide) rfl) rfl rfl (c_X10_isWord (j := 8) hx (by decide) hw1 hw2 (fun q8 => kt_s ?_) (fun q8 => kt_s ?_))
            · have b8 := wB_m.mpr q8
              refine s_ifeq (pc := 71) (tgt := 78) dX4_thingOf_71 rfl (fun h71 => absurd h71 (by decide)) (fun h71 => ?_)
              refine m_si (pc := 74) (v := 1005) dX4_thingOf_74 rfl ?_
              refine s_ireturn (pc := 77) dX4_thingOf_77 rfl rfl ?_
              exact h2 5 (by unfold thW; rw [if_neg (by rw [b3]; decide), if_neg (by rw [b4]; decide), if_neg (by rw [b5]; decide), if_neg (by rw [b6]; decide), if_neg (by rw [b7]; decide), if_pos b8])
            · have b8 := wB_f.mpr q8
              refine s_ifeq (pc := 71) (tgt := 78) dX4_thingOf_71 rfl (fun h71 => ?_) (fun h71 => absurd h71 (by decide))
              refine s_aload_n (pc := 78) (i := 0) dX4_thingOf_78 rfl rfl ?_
              refine s_ldcS (pc := 79) (j := 9) dX4_thingOf_79 sr_X4_118 rfl ?_
              refine m_v1 (pc := 81) dX4_thingOf_81 lk_X4_87 ok_X10_isWord (rcO o_2 (by decide) rfl) rfl rfl (c_X10_isWord (j := 9) hx (by decide) hw1 hw2 (fun q9 => kt_s ?_) (fun q9 => kt_s ?_))
              · have b9 := wB_m.mpr q9
                refine s_ifeq (pc := 84) (tgt := 91) dX4_thingOf_84 rfl (fun h84 => absurd h84 (by decide)) (fun h84 => ?_)
                refine m_si (pc := 87) (v := 1006) dX4_thingOf_87 rfl ?_
                refine s_ireturn (pc := 90) dX4_thingOf_90 rfl rfl ?_
                exact h2 6 (by unfold thW; rw [if_neg (by rw [b3]; decide), if_neg (by rw [b4]; decide), if_neg (by rw [b5]; decide), if_neg (by rw [b6]; decide), if_neg (by rw [b7]; decide), if_neg (by rw [b8]; decide), if_pos b9])
              · have b9 := wB_f.mpr q9
                refine s_ifeq (pc := 84) (tgt := 91) dX4_thingOf_84 rfl (fun h84 => ?_) (fun h84 => absurd h84 (by decide))
                refine s_aload_n (pc := 91) (i := 0) dX4_thingOf_91 rfl rfl ?_
                refine s_ldcS (pc := 92) (j := 10) dX4_thingOf_92 sr_X4_120 rfl ?_
                refine m_v1 (pc := 94) dX4_thingOf_94 lk_X4_87 ok_X10_isWord (rcO o_2 (by decide) rfl) rfl rfl (c_X10_isWord (j := 10) hx (by decide) hw1 hw2 (fun q10 => kt_s ?_) (fun q10 => kt_s ?_))
                · have b10 := wB_m.mpr q10
                  refine s_ifeq (pc := 97) (tgt := 104) dX4_thingOf_97 rfl (fun h97 => absurd h97 (by decide)) (fun h97 => ?_)
                  refine m_si (pc := 100) (v := 1007) dX4_thingOf_100 rfl ?_
                  refine s_ireturn (pc := 103) dX4_thingOf_103 rfl rfl ?_
                  exact h2 7 (by unfold thW; rw [if_neg (by rw [b3]; decide), if_neg (by rw [b4]; decide), if_neg (by rw [b5]; decide), if_neg (by rw [b6]; decide), if_neg (by rw [b7]; decide), if_neg (by rw [b8]; decide), if_neg (by rw [b9]; decide), if_pos b10])
                · have b10 := wB_f.mpr q10
                  refine s_ifeq (pc := 97) (tgt := 104) dX4_thingOf_97 rfl (fun h97 => ?_) (fun h97 => absurd h97 (by decide))
                  refine s_aload_n (pc := 104) (i := 0) dX4_thingOf_104 rfl rfl ?_
                  refine s_ldcS (pc := 105) (j := 0) dX4_thingOf_105 sr_X4_122 rfl ?_
                  refine m_v1 (pc := 107) dX4_thingOf_107 lk_X4_87 ok_X10_isWord (rcO o_2 (by decide) rfl) rfl rfl (c_X10_isWord (j := 0) hx (by decide) hw1 hw2 (fun q0 => kt_s ?_) (fun q0 => kt_s ?_))
                  · have b0 := wB_m.mpr q0
                    refine s_ifeq (pc := 110) (tgt := 119) dX4_thingOf_110 rfl (fun h110 => absurd h110 (by decide)) (fun h110 => ?_)
                    refine m_si (pc := 113) (v := 1008) dX4_thingOf_113 rfl ?_
                    refine s_goto (pc := 116) (tgt := 120) dX4_thingOf_116 rfl ?_
                    refine s_ireturn (pc := 120) dX4_thingOf_120 rfl rfl ?_
                    exact h2 8 (by unfold thW; rw [if_neg (by rw [b3]; decide), if_neg (by rw [b4]; decide), if_neg (by rw [b5]; decide), if_neg (by rw [b6]; decide), if_neg (by rw [b7]; decide), if_neg (by rw [b8]; decide), if_neg (by rw [b9]; decide), if_neg (by rw [b10]; decide), if_pos b0])
                  · have b0 := wB_f.mpr q0
                    refine s_ifeq (pc := 110) (tgt := 119) dX4_thingOf_110 rfl (fun h110 => ?_) (fun h110 => absurd h110 (by decide))
                    refine m_ic (pc := 119) (v := -1) dX4_thingOf_119 rfl ?_
                    refine s_ireturn (pc := 120) dX4_thingOf_120 rfl rfl ?_
                    exact h1 (by unfold thW; rw [if_neg (by rw [b3]; decide), if_neg (by rw [b4]; decide), if_neg (by rw [b5]; decide), if_neg (by rw [b6]; decide), if_neg (by rw [b7]; decide), if_neg (by rw [b8]; decide), if_neg (by rw [b9]; decide), if_neg (by rw [b10]; decide), if_neg (by rw [b0]; decide)])
theorem c_X4_readInner {k o : Nat} {S : Nat → List Nat → lT} {cs : List Nat} (hS : cRd g mX4_readSum (k + 6) t N S (nI (o + 1))) (hG : gU N S) (ho : o < 6) (hx : tx I t N) (hN : N ≤ 150) (hL : Lc I cs) (ha : a < N) (hl : cs.length ≤ a) (hb : ∀ e a' wf' wt' I', lUp t N S a cs = .inl e → fC I I' → Q (.inl (some (.int 0))) (Z (tp I' a' wf' wt' (nI e.1) (nI e.2)) J n w)) (hg : ∀ p c2 I' wf' wt', lUp t N S a cs = .inr (p, c2) → fC I I' → Lc I' c2 → Q (.inl (some (.int 1))) (Z (tp I' p wf' wt' fk fp) J n w)) : Cn g (d + (k + 7)) mX4_readInner [.ref 18, .ref 2, .int (nI o)] (Z (tp I a wf wt fk fp) J n w) Q := by
  have e6 : (6 : Int32) = nI 6 := rfl
  have hk := sk_le (t := t) (N := N) (a := a + 1) (by omega)
  have hk2 := sk_ge (t := t) (N := N) (a := a + 1)
  show Rn g (d + (k + 7)) mX4_readInner 0 [.ref 18, .ref 2, .int (nI o)] [] [] (Z (tp I a wf wt fk fp) J n w) Q
  refine s_iload_n (pc := 0) (i := 2) dX4_readInner_0 rfl rfl ?_
  refine m_bi (pc := 1) (v := 6) dX4_readInner_1 rfl ?_
  refine s_iclt (pc := 3) (tgt := 12) dX4_readInner_3 rfl (fun h3 => ?_) (fun h3 => absurd (nI_lt (a := o) (b := 6) ho (by decide)) h3)
  refine s_aload_n (pc := 12) (i := 1) dX4_readInner_12 rfl rfl ?_
  refine m_v0 (pc := 13) dX4_readInner_13 lk_X4_66 ok_X10_step (rcO o_2 (by decide) rfl) rfl rfl (c_X10_step hx ha (kt_v ?_))
  refine s_aload_n (pc := 16) (i := 0) dX4_readInner_16 rfl rfl ?_
  refine s_aload_n (pc := 17) (i := 1) dX4_readInner_17 rfl rfl ?_
  refine s_iload_n (pc := 18) (i := 2) dX4_readInner_18 rfl rfl ?_
  refine m_ic (pc := 19) (v := 1) dX4_readInner_19 rfl ?_
  refine s_iadd (pc := 20) dX4_readInner_20 ?_
  refine m_nm (v' := nI (o + 1)) (nI_1 _) ?_
  refine m_v2 (pc := 21) dX4_readInner_21 lk_X4_38 ok_X4_readSum (rcO o_18 (by decide) rfl) rfl rfl (hS _ _ _ _ _ _ _ _ _ _ _ _ hx hk hN hL (by omega) (fun e a1 wf1 wt1 I1 q1 r1 => kt_s ?_) (fun p1 c1 I1 wf1 wt1 q1 r1 l1 => kt_s ?_))
  · refine s_ifeq (pc := 24) (tgt := 40) dX4_readInner_24 rfl (fun h24 => ?_) (fun h24 => absurd h24 (by decide))
    refine m_ic (pc := 40) (v := 0) dX4_readInner_40 rfl ?_
    refine s_ireturn (pc := 41) dX4_readInner_41 rfl rfl ?_
    exact hb e a1 wf1 wt1 I1 (by unfold lUp; rw [q1]) r1
  · have g1 := hG _ _ _ _ hk q1
    refine s_ifeq (pc := 24) (tgt := 40) dX4_readInner_24 rfl (fun h24 => absurd h24 (by decide)) (fun h24 => ?_)
    refine s_aload_n (pc := 27) (i := 1) dX4_readInner_27 rfl rfl ?_
    refine m_bi (pc := 28) (v := 41) dX4_readInner_28 rfl ?_
    refine m_v1 (pc := 30) dX4_readInner_30 lk_X4_103 ok_X10_needSign (rcO o_2 (by decide) rfl) rfl rfl (c_ns (c := 41) (tx_f hx r1) g1.2.1 (by decide) rfl (fun p2 s1 s2 s3 => kt_s ?_) (fun e s1 => kt_s ?_))
    · refine s_ifeq (pc := 33) (tgt := 40) dX4_readInner_33 rfl (fun h33 => absurd h33 (by decide)) (fun h33 => ?_)
      refine m_ic (pc := 36) (v := 1) dX4_readInner_36 rfl ?_
      refine s_goto (pc := 37) (tgt := 41) dX4_readInner_37 rfl ?_
      refine s_ireturn (pc := 41) dX4_readInner_41 rfl rfl ?_
      exact hg p2 c1 I1 wf1 wt1 (by unfold lUp; rw [q1]; simp only []; rw [s1]) r1 l1
    · refine s_ifeq (pc := 33) (tgt := 40) dX4_readInner_33 rfl (fun h33 => ?_) (fun h33 => absurd h33 (by decide))
      refine m_ic (pc := 40) (v := 0) dX4_readInner_40 rfl ?_
      refine s_ireturn (pc := 41) dX4_readInner_41 rfl rfl ?_
      exact hb e _ _ _ I1 (by unfold lUp; rw [q1]; simp only []; rw [s1]) r1
theorem c_inn6 (hq : Q (.inl (some (.int 0))) (Z (tp I a wf wt 3 (nI a)) J n w)) : Cn g (d + 2) mX4_readInner [.ref 18, .ref 2, .int (nI 6)] (Z (tp I a wf wt fk fp) J n w) Q := by
  show Rn g (d + 2) mX4_readInner 0 [.ref 18, .ref 2, .int (nI 6)] [] [] (Z (tp I a wf wt fk fp) J n w) Q
  refine s_iload_n (pc := 0) (i := 2) dX4_readInner_0 rfl rfl ?_
  refine m_bi (pc := 1) (v := 6) dX4_readInner_1 rfl ?_
  refine s_iclt (pc := 3) (tgt := 12) dX4_readInner_3 rfl (fun h3 => absurd h3 (by decide)) (fun h3 => ?_)
  refine s_aload_n (pc := 6) (i := 1) dX4_readInner_6 rfl rfl ?_
  refine m_ic (pc := 7) (v := 3) dX4_readInner_7 rfl ?_
  refine m_v1 (pc := 8) dX4_readInner_8 lk_X4_48 ok_X10_failHere (rcO o_2 (by decide) rfl) rfl rfl (c_X10_failHere (kt_s ?_))
  refine s_ireturn (pc := 11) dX4_readInner_11 rfl rfl ?_
  exact hq
theorem c_pair6 (hq : Q (.inl (some (.int 0))) (Z (tp I a wf wt 3 (nI wf)) J n w)) : Cn g (d + 2) mX4_readPair [.ref 18, .ref 2, .int (nI 6)] (Z (tp I a wf wt fk fp) J n w) Q := by
  show Rn g (d + 2) mX4_readPair 0 [.ref 18, .ref 2, .int (nI 6)] [] [] (Z (tp I a wf wt fk fp) J n w) Q
  refine s_iload_n (pc := 0) (i := 2) dX4_readPair_0 rfl rfl ?_
  refine m_bi (pc := 1) (v := 6) dX4_readPair_1 rfl ?_
  refine s_iclt (pc := 3) (tgt := 12) dX4_readPair_3 rfl (fun h3 => absurd h3 (by decide)) (fun h3 => ?_)
  refine s_aload_n (pc := 6) (i := 1) dX4_readPair_6 rfl rfl ?_
  refine m_ic (pc := 7) (v := 3) dX4_readPair_7 rfl ?_
  refine m_v1 (pc := 8) dX4_readPair_8 lk_X4_100 ok_X10_failWord (rcO o_2 (by decide) rfl) rfl rfl (c_X10_failWord (kt_s ?_))
  refine s_ireturn (pc := 11) dX4_readPair_11 rfl rfl ?_
  exact hq
theorem c_X4_readPair {k o : Nat} {S : Nat → List Nat → lT} {cs : List Nat} (hS : cRd g mX4_readSum (k + 6) t N S (nI (o + 1))) (hG : gU N S) (ho : o < 6) (hx : tx I t N) (hN : N ≤ 150) (hL : Lc I cs) (ha : a ≤ N) (hl : cs.length ≤ a) (hb : ∀ e a' wf' wt' I', lUt t N S a cs = .inl e → fC I I' → Q (.inl (some (.int 0))) (Z (tp I' a' wf' wt' (nI e.1) (nI e.2)) J n w)) (hg : ∀ p c2 I' wf' wt', lUt t N S a cs = .inr (p, c2 ++ [if wB t N a 11 = true then 2000 else 2001]) → fC I I' → Lc I' c2 → c2.length < p → Q (.inl (some (.int 1))) (Z (tp I' p wf' wt' fk fp) J n w)) : Cn g (d + (k + 7)) mX4_readPair [.ref 18, .ref 2, .int (nI o)] (Z (tp I (sk t N (wE t N a)) a (wE t N a) fk fp) J n w) Q := by
  have e6 : (6 : Int32) = nI 6 := rfl
  have hk := sk_le (t := t) (wE_le (t := t) ha)
  have hk1 := wE_ge (t := t) (N := N) (a := a)
  have hk2 := sk_ge (t := t) (N := N) (a := wE t N a)
  show Rn g (d + (k + 7)) mX4_readPair 0 [.ref 18, .ref 2, .int (nI o)] [] [] (Z (tp I (sk t N (wE t N a)) a (wE t N a) fk fp) J n w) Q
  refine s_iload_n (pc := 0) (i := 2) dX4_readPair_0 rfl rfl ?_
  refine m_bi (pc := 1) (v := 6) dX4_readPair_1 rfl ?_
  refine s_iclt (pc := 3) (tgt := 12) dX4_readPair_3 rfl (fun h3 => ?_) (fun h3 => absurd (nI_lt (a := o) (b := 6) ho (by decide)) h3)
  refine s_aload_n (pc := 12) (i := 1) dX4_readPair_12 rfl rfl ?_
  refine m_bi (pc := 13) (v := 91) dX4_readPair_13 rfl ?_
  refine m_v1 (pc := 15) dX4_readPair_15 lk_X4_103 ok_X10_needSign (rcO o_2 (by decide) rfl) rfl rfl (c_ns (c := 91) hx hk (by decide) rfl (fun y1 s1 u1 v1 => kt_s ?_) (fun e s1 => kt_s ?_))
  · refine s_ifeq (pc := 18) (tgt := 65) dX4_readPair_18 rfl (fun h18 => absurd h18 (by decide)) (fun h18 => ?_)
    refine s_aload_n (pc := 21) (i := 0) dX4_readPair_21 rfl rfl ?_
    refine s_aload_n (pc := 22) (i := 1) dX4_readPair_22 rfl rfl ?_
    refine s_iload_n (pc := 23) (i := 2) dX4_readPair_23 rfl rfl ?_
    refine m_ic (pc := 24) (v := 1) dX4_readPair_24 rfl ?_
    refine s_iadd (pc := 25) dX4_readPair_25 ?_
    refine m_nm (v' := nI (o + 1)) (nI_1 _) ?_
    refine m_v2 (pc := 26) dX4_readPair_26 lk_X4_38 ok_X4_readSum (rcO o_18 (by decide) rfl) rfl rfl (hS _ _ _ _ _ _ _ _ _ _ _ _ hx u1 hN hL (by omega) (fun e a2 wf2 wt2 I2 q2 r2 => kt_s ?_) (fun p2 c2 I2 wf2 wt2 q2 r2 l2 => kt_s ?_))
    · refine s_ifeq (pc := 29) (tgt := 65) dX4_readPair_29 rfl (fun h29 => ?_) (fun h29 => absurd h29 (by decide))
      refine m_ic (pc := 65) (v := 0) dX4_readPair_65 rfl ?_
      refine s_ireturn (pc := 66) dX4_readPair_66 rfl rfl ?_
      exact hb e a2 wf2 wt2 I2 (by unfold lUt; simp only [s1, q2]) r2
    · have g2 := hG _ _ _ _ u1 q2
      have hx2 := tx_f hx r2
      refine s_ifeq (pc := 29) (tgt := 65) dX4_readPair_29 rfl (fun h29 => absurd h29 (by decide)) (fun h29 => ?_)
      refine s_aload_n (pc := 32) (i := 1) dX4_readPair_32 rfl rfl ?_
      refine m_bi (pc := 33) (v := 44) dX4_readPair_33 rfl ?_
      refine m_v1 (pc := 35) dX4_readPair_35 lk_X4_103 ok_X10_needSign (rcO o_2 (by decide) rfl) rfl rfl (c_ns (c := 44) hx2 g2.2.1 (by decide) rfl (fun y3 s3 u3 v3 => kt_s ?_) (fun e s3 => kt_s ?_))
      · refine s_ifeq (pc := 38) (tgt := 65) dX4_readPair_38 rfl (fun h38 => absurd h38 (by decide)) (fun h38 => ?_)
        refine s_aload_n (pc := 41) (i := 0) dX4_readPair_41 rfl rfl ?_
        refine s_aload_n (pc := 42) (i := 1) dX4_readPair_42 rfl rfl ?_
        refine s_iload_n (pc := 43) (i := 2) dX4_readPair_43 rfl rfl ?_
        refine m_ic (pc := 44) (v := 1) dX4_readPair_44 rfl ?_
        refine s_iadd (pc := 45) dX4_readPair_45 ?_
        refine m_nm (v' := nI (o + 1)) (nI_1 _) ?_
        refine m_v2 (pc := 46) dX4_readPair_46 lk_X4_38 ok_X4_readSum (rcO o_18 (by decide) rfl) rfl rfl (hS _ _ _ _ _ _ _ _ _ _ _ _ hx2 u3 hN l2 (by omega) (fun e a4 wf4 wt4 I4 q4 r4 => kt_s ?_) (fun p4 c4 I4 wf4 wt4 q4 r4 l4 => kt_s ?_))
        · refine s_ifeq (pc := 49) (tgt := 65) dX4_readPair_49 rfl (fun h49 => ?_) (fun h49 => absurd h49 (by decide))
          refine m_ic (pc := 65) (v := 0) dX4_readPair_65 rfl ?_
          refine s_ireturn (pc := 66) dX4_readPair_66 rfl rfl ?_
          exact hb e a4 wf4 wt4 I4 (by unfold lUt; simp only [s1, q2, s3, q4]) (fC_t r2 r4)
        · have g4 := hG _ _ _ _ u3 q4
          have hx4 := tx_f hx2 r4
          refine s_ifeq (pc := 49) (tgt := 65) dX4_readPair_49 rfl (fun h49 => absurd h49 (by decide)) (fun h49 => ?_)
          refine s_aload_n (pc := 52) (i := 1) dX4_readPair_52 rfl rfl ?_
          refine m_bi (pc := 53) (v := 93) dX4_readPair_53 rfl ?_
          refine m_v1 (pc := 55) dX4_readPair_55 lk_X4_103 ok_X10_needSign (rcO o_2 (by decide) rfl) rfl rfl (c_ns (c := 93) hx4 g4.2.1 (by decide) rfl (fun y5 s5 u5 v5 => kt_s ?_) (fun e s5 => kt_s ?_))
          · refine s_ifeq (pc := 58) (tgt := 65) dX4_readPair_58 rfl (fun h58 => absurd h58 (by decide)) (fun h58 => ?_)
            refine m_ic (pc := 61) (v := 1) dX4_readPair_61 rfl ?_
            refine s_goto (pc := 62) (tgt := 66) dX4_readPair_62 rfl ?_
            refine s_ireturn (pc := 66) dX4_readPair_66 rfl rfl ?_
            exact hg y5 c4 I4 wf4 wt4 (by unfold lUt; simp only [s1, q2, s3, q4, s5]) (fC_t r2 r4) l4 (by omega)
          · refine s_ifeq (pc := 58) (tgt := 65) dX4_readPair_58 rfl (fun h58 => ?_) (fun h58 => absurd h58 (by decide))
            refine m_ic (pc := 65) (v := 0) dX4_readPair_65 rfl ?_
            refine s_ireturn (pc := 66) dX4_readPair_66 rfl rfl ?_
            exact hb e _ _ _ I4 (by unfold lUt; simp only [s1, q2, s3, q4, s5]) (fC_t r2 r4)
      · refine s_ifeq (pc := 38) (tgt := 65) dX4_readPair_38 rfl (fun h38 => ?_) (fun h38 => absurd h38 (by decide))
        refine m_ic (pc := 65) (v := 0) dX4_readPair_65 rfl ?_
        refine s_ireturn (pc := 66) dX4_readPair_66 rfl rfl ?_
        exact hb e _ _ _ I2 (by unfold lUt; simp only [s1, q2, s3]) r2
  · refine s_ifeq (pc := 18) (tgt := 65) dX4_readPair_18 rfl (fun h18 => ?_) (fun h18 => absurd h18 (by decide))
    refine m_ic (pc := 65) (v := 0) dX4_readPair_65 rfl ?_
    refine s_ireturn (pc := 66) dX4_readPair_66 rfl rfl ?_
    exact hb e _ _ _ I (by unfold lUt; simp only [s1]) fC_r
end S
