section S
variable {g : aG} {d : Nat} {I : Nat → Nat → Int32} {J : Nat → Nat → Int64} {n w : Nat} {Q : aO → aS → Prop}
variable {σ : aS} {S : sD} {D : cD} {cs : List Nat} {b c k : Nat}
theorem c_X11_would (hW : Wc I 33 D cs S) (hn : n + 1 ≤ 600000 ∧ w + 6 ≤ 7000000) {x y z u v5 v6 v7 v8 v9 : Int32} (r0 : ¬ iv 1 (41) x → Q (.inr 1) (Z (up I 1 18 (I 1 18 + 1)) J (n + 1) (w + 6))) (r1 : iv 1 (41) x → ¬ iv 0 (41) y → Q (.inr 1) (Z (up I 1 18 (I 1 18 + 1)) J (n + 1) (w + 6))) (r2 : iv 1 (41) x → iv 0 (41) y → ¬ iv 0 (10) z → Q (.inr 1) (Z (up I 1 18 (I 1 18 + 1)) J (n + 1) (w + 6))) (r3 : iv 1 (41) x → iv 0 (41) y → iv 0 (10) z → ¬ iv 1 (10) u → Q (.inr 1) (Z (up I 1 18 (I 1 18 + 1)) J (n + 1) (w + 6))) (r4 : iv 1 (41) x → iv 0 (41) y → iv 0 (10) z → iv 1 (10) u → ¬ iv 0 (10) v5 → Q (.inr 1) (Z (up I 1 18 (I 1 18 + 1)) J (n + 1) (w + 6))) (r5 : iv 1 (41) x → iv 0 (41) y → iv 0 (10) z → iv 1 (10) u → iv 0 (10) v5 → ¬ iv 0 (1000) v6 → Q (.inr 1) (Z (up I 1 18 (I 1 18 + 1)) J (n + 1) (w + 6))) (r6 : iv 1 (41) x → iv 0 (41) y → iv 0 (10) z → iv 1 (10) u → iv 0 (10) v5 → iv 0 (1000) v6 → ¬ iv 0 (13) v7 → Q (.inr 1) (Z (up I 1 18 (I 1 18 + 1)) J (n + 1) (w + 6))) (r7 : iv 1 (41) x → iv 0 (41) y → iv 0 (10) z → iv 1 (10) u → iv 0 (10) v5 → iv 0 (1000) v6 → iv 0 (13) v7 → ¬ iv 0 (401) v8 → Q (.inr 1) (Z (up I 1 18 (I 1 18 + 1)) J (n + 1) (w + 6))) (r8 : iv 1 (41) x → iv 0 (41) y → iv 0 (10) z → iv 1 (10) u → iv 0 (10) v5 → iv 0 (1000) v6 → iv 0 (13) v7 → iv 0 (401) v8 → ¬ iv 0 (7) v9 → Q (.inr 1) (Z (up I 1 18 (I 1 18 + 1)) J (n + 1) (w + 6))) (hg : ∀ a0, ∀ a1, ∀ a2, ∀ a3, ∀ a4, ∀ a5, ∀ a6, ∀ a7, ∀ a8, x = nI a0 → 1 ≤ a0 → a0 < 41 → y = nI a1 → a1 < 41 → z = nI a2 → a2 < 10 → u = nI a3 → 1 ≤ a3 → a3 < 10 → v5 = nI a4 → a4 < 10 → v6 = nI a5 → a5 < 1000 → v7 = nI a6 → a6 < 13 → v8 = nI a7 → a7 < 401 → v9 = nI a8 → a8 < 7 → ∀ I', kc I I' → Q (.inl (some (.int (nI (ldv (fv (nI a0) (nI a1) (nI a2) (nI a3) (nI a4) (nI a5) (nI a6) (nI a7) (nI a8)) cs))))) (Z I' J n w)) : Cn g (d + 8) mX11_would [.ref 1, .int x, .int y, .int z, .int u, .int v5, .int v6, .int v7, .int v8, .int v9] (Z I J n w) Q := by
  have hb7 := hW.2.1.1
  have hc12 := hW.2.1.2.1
  show Rn g (d + 8) mX11_would 0 [.ref 1, .int x, .int y, .int z, .int u, .int v5, .int v6, .int v7, .int v8, .int v9] [] [] (Z I J n w) Q
  refine s_aload_n (pc := 0) (i := 0) dX11_would_0 rfl rfl ?_
  refine s_iload_n (pc := 1) (i := 1) dX11_would_1 rfl rfl ?_
  refine m_ic (pc := 2) (v := 1) dX11_would_2 rfl ?_
  refine m_bi (pc := 3) (v := 40) dX11_would_3 rfl ?_
  refine m_v3 (pc := 5) dX11_would_5 lk_X11_267 ok_X11_needRange (rcO o_1 (by decide) rfl) rfl rfl (c_nr (lo := 1) (m := 41) rfl rfl (by omega) hn (fun a0 ea0 la0 ha0 => kt_v ?_) (fun z => kt_x ?_))
  · subst ea0
    refine s_aload_n (pc := 8) (i := 0) dX11_would_8 rfl rfl ?_
    refine s_iload_n (pc := 9) (i := 2) dX11_would_9 rfl rfl ?_
    refine m_ic (pc := 10) (v := 0) dX11_would_10 rfl ?_
    refine m_bi (pc := 11) (v := 40) dX11_would_11 rfl ?_
    refine m_v3 (pc := 13) dX11_would_13 lk_X11_267 ok_X11_needRange (rcO o_1 (by decide) rfl) rfl rfl (c_nr (lo := 0) (m := 41) rfl rfl (by omega) hn (fun a1 ea1 la1 ha1 => kt_v ?_) (fun z => kt_x ?_))
    · subst ea1
      refine s_aload_n (pc := 16) (i := 0) dX11_would_16 rfl rfl ?_
      refine s_iload_n (pc := 17) (i := 3) dX11_would_17 rfl rfl ?_
      refine m_ic (pc := 18) (v := 0) dX11_would_18 rfl ?_
      refine m_bi (pc := 19) (v := 9) dX11_would_19 rfl ?_
      refine m_v3 (pc := 21) dX11_would_21 lk_X11_267 ok_X11_needRange (rcO o_1 (by decide) rfl) rfl rfl (c_nr (lo := 0) (m := 10) rfl rfl (by omega) hn (fun a2 ea2 la2 ha2 => kt_v ?_) (fun z => kt_x ?_))
      · subst ea2
        refine s_aload_n (pc := 24) (i := 0) dX11_would_24 rfl rfl ?_
        refine s_iload (pc := 25) (i := 4) dX11_would_25 rfl ?_
        refine m_ic (pc := 27) (v := 1) dX11_would_27 rfl ?_
        refine m_bi (pc := 28) (v := 9) dX11_would_28 rfl ?_
        refine m_v3 (pc := 30) dX11_would_30 lk_X11_267 ok_X11_needRange (rcO o_1 (by decide) rfl) rfl rfl (c_nr (lo := 1) (m := 10) rfl rfl (by omega) hn (fun a3 ea3 la3 ha3 => kt_v ?_) (fun z => kt_x ?_))
        · subst ea3
          refine s_aload_n (pc := 33) (i := 0) dX11_would_33 rfl rfl ?_
          refine s_iload (pc := 34) (i := 5) dX11_would_34 rfl ?_
          refine m_ic (pc := 36) (v := 0) dX11_would_36 rfl ?_
          refine m_bi (pc := 37) (v := 9) dX11_would_37 rfl ?_
          refine m_v3 (pc := 39) dX11_would_39 lk_X11_267 ok_X11_needRange (rcO o_1 (by decide) rfl) rfl rfl (c_nr (lo := 0) (m := 10) rfl rfl (by omega) hn (fun a4 ea4 la4 ha4 => kt_v ?_) (fun z => kt_x ?_))
          · subst ea4
            refine s_aload_n (pc := 42) (i := 0) dX11_would_42 rfl rfl ?_
            refine s_iload (pc := 43) (i := 6) dX11_would_43 rfl ?_
            refine m_ic (pc := 45) (v := 0) dX11_would_45 rfl ?_
            refine m_si (pc := 46) (v := 999) dX11_would_46 rfl ?_
            refine m_v3 (pc := 49) dX11_would_49 lk_X11_267 ok_X11_needRange (rcO o_1 (by decide) rfl) rfl rfl (c_nr (lo := 0) (m := 1000) rfl rfl (by omega) hn (fun a5 ea5 la5 ha5 => kt_v ?_) (fun z => kt_x ?_))
            · subst ea5
              refine s_aload_n (pc := 52) (i := 0) dX11_would_52 rfl rfl ?_
              refine s_iload (pc := 53) (i := 7) dX11_would_53 rfl ?_
              refine m_ic (pc := 55) (v := 0) dX11_would_55 rfl ?_
              refine m_bi (pc := 56) (v := 12) dX11_would_56 rfl ?_
              refine m_v3 (pc := 58) dX11_would_58 lk_X11_267 ok_X11_needRange (rcO o_1 (by decide) rfl) rfl rfl (c_nr (lo := 0) (m := 13) rfl rfl (by omega) hn (fun a6 ea6 la6 ha6 => kt_v ?_) (fun z => kt_x ?_))
              · subst ea6
                refine s_aload_n (pc := 61) (i := 0) dX11_would_61 rfl rfl ?_
                refine s_iload (pc := 62) (i := 8) dX11_would_62 rfl ?_
                refine m_ic (pc := 64) (v := 0) dX11_would_64 rfl ?_
                refine m_si (pc := 65) (v := 400) dX11_would_65 rfl ?_
                refine m_v3 (pc := 68) dX11_would_68 lk_X11_267 ok_X11_needRange (rcO o_1 (by decide) rfl) rfl rfl (c_nr (lo := 0) (m := 401) rfl rfl (by omega) hn (fun a7 ea7 la7 ha7 => kt_v ?_) (fun z => kt_x ?_))
                · subst ea7
                  refine s_aload_n (pc := 71) (i := 0) dX11_would_71 rfl rfl ?_
                  refine s_iload (pc := 72) (i := 9) dX11_would_72 rfl ?_
                  refine m_ic (pc := 74) (v := 0) dX11_would_74 rfl ?_
                  refine m_bi (pc := 75) (v := 6) dX11_would_75 rfl ?_
                  refine m_v3 (pc := 77) dX11_would_77 lk_X11_267 ok_X11_needRange (rcO o_1 (by decide) rfl) rfl rfl (c_nr (lo := 0) (m := 7) rfl rfl (by omega) hn (fun a8 ea8 la8 ha8 => kt_v ?_) (fun z => kt_x ?_))
                  · subst ea8
                    refine s_aload_n (pc := 80) (i := 0) dX11_would_80 rfl rfl ?_
                    refine m_gr (pc := 81) dX11_would_81 ff_X11_29 rfl o_1 r_1_3 ?_
                    refine s_iload_n (pc := 84) (i := 1) dX11_would_84 rfl rfl ?_
                    refine s_iload_n (pc := 85) (i := 2) dX11_would_85 rfl rfl ?_
                    refine s_iload (pc := 86) (i := 8) dX11_would_86 rfl ?_
                    refine m_v3 (pc := 88) dX11_would_88 lk_X11_271 ok_X4_tellKing (rcO o_14 (by decide) rfl) rfl rfl (c_X4_tellKing (fun I1 f1 a0_ a1_ a7_ => kt_v ?_))
                    refine s_aload_n (pc := 91) (i := 0) dX11_would_91 rfl rfl ?_
                    refine m_gr (pc := 92) dX11_would_92 ff_X11_29 rfl o_1 r_1_3 ?_
                    refine s_iload_n (pc := 95) (i := 3) dX11_would_95 rfl rfl ?_
                    refine s_iload (pc := 96) (i := 4) dX11_would_96 rfl ?_
                    refine m_v2 (pc := 98) dX11_would_98 lk_X11_274 ok_X4_tellCouncil (rcO o_14 (by decide) rfl) rfl rfl (c_X4_tellCouncil (fun I2 f2 a2_ a3_ => kt_v ?_))
                    refine s_aload_n (pc := 101) (i := 0) dX11_would_101 rfl rfl ?_
                    refine m_gr (pc := 102) dX11_would_102 ff_X11_29 rfl o_1 r_1_3 ?_
                    refine s_iload (pc := 105) (i := 9) dX11_would_105 rfl ?_
                    refine s_iload (pc := 107) (i := 5) dX11_would_107 rfl ?_
                    refine s_iload (pc := 109) (i := 6) dX11_would_109 rfl ?_
                    refine s_iload (pc := 111) (i := 7) dX11_would_111 rfl ?_
                    refine m_v4 (pc := 113) dX11_would_113 lk_X11_277 ok_X4_tellBack (rcO o_14 (by decide) rfl) rfl rfl (c_X4_tellBack (fun I3 f3 a8_ a4_ a5_ a6_ => kt_v ?_))
                    have g3 : fl I I3 := fun x j z1 z2 => by rw [f3 x j (by omega), f2 x j (by omega), f1 x j (by omega)]
                    refine s_aload_n (pc := 116) (i := 0) dX11_would_116 rfl rfl ?_
                    refine m_gr (pc := 117) dX11_would_117 ff_X11_29 rfl o_1 r_1_3 ?_
                    refine m_v0 (pc := 120) dX11_would_120 lk_X11_281 ok_X4_loadAsTold (rcO o_14 (by decide) rfl) rfl rfl (c_X4_loadAsTold (f := fv (nI a0) (nI a1) (nI a2) (nI a3) (nI a4) (nI a5) (nI a6) (nI a7) (nI a8)) (cs := cs) (Wc_fl hW (by decide) g3).2.2.1 hW.2.2.2.1 (fv_eq (r := I3 16) (by rw [f3 _ _ (by omega), f2 _ _ (by omega)]; exact a0_) (by rw [f3 _ _ (by omega), f2 _ _ (by omega)]; exact a1_) (by rw [f3 _ _ (by omega)]; exact a2_) (by rw [f3 _ _ (by omega)]; exact a3_) a4_ a5_ a6_ (by rw [f3 _ _ (by omega), f2 _ _ (by omega)]; exact a7_) a8_) (fun I4 f4 => kt_s ?_))
                    refine s_ireturn (pc := 123) dX11_would_123 rfl rfl ?_
                    exact hg a0 a1 a2 a3 a4 a5 a6 a7 a8 rfl la0 ha0 rfl ha1 rfl ha2 rfl la3 ha3 rfl ha4 rfl ha5 rfl ha6 rfl ha7 rfl ha8 I4 (kc_l (fl_t g3 f4))
                  · exact r8 ⟨a0, rfl, la0, ha0⟩ ⟨a1, rfl, Nat.zero_le _, ha1⟩ ⟨a2, rfl, Nat.zero_le _, ha2⟩ ⟨a3, rfl, la3, ha3⟩ ⟨a4, rfl, Nat.zero_le _, ha4⟩ ⟨a5, rfl, Nat.zero_le _, ha5⟩ ⟨a6, rfl, Nat.zero_le _, ha6⟩ ⟨a7, rfl, Nat.zero_le _, ha7⟩ z
                · exact r7 ⟨a0, rfl, la0, ha0⟩ ⟨a1, rfl, Nat.zero_le _, ha1⟩ ⟨a2, rfl, Nat.zero_le _, ha2⟩ ⟨a3, rfl, la3, ha3⟩ ⟨a4, rfl, Nat.zero_le _, ha4⟩ ⟨a5, rfl, Nat.zero_le _, ha5⟩ ⟨a6, rfl, Nat.zero_le _, ha6⟩ z
              · exact r6 ⟨a0, rfl, la0, ha0⟩ ⟨a1, rfl, Nat.zero_le _, ha1⟩ ⟨a2, rfl, Nat.zero_le _, ha2⟩ ⟨a3, rfl, la3, ha3⟩ ⟨a4, rfl, Nat.zero_le _, ha4⟩ ⟨a5, rfl, Nat.zero_le _, ha5⟩ z
            · exact r5 ⟨a0, rfl, la0, ha0⟩ ⟨a1, rfl, Nat.zero_le _, ha1⟩ ⟨a2, rfl, Nat.zero_le _, ha2⟩ ⟨a3, rfl, la3, ha3⟩ ⟨a4, rfl, Nat.zero_le _, ha4⟩ z
          · exact r4 ⟨a0, rfl, la0, ha0⟩ ⟨a1, rfl, Nat.zero_le _, ha1⟩ ⟨a2, rfl, Nat.zero_le _, ha2⟩ ⟨a3, rfl, la3, ha3⟩ z
        · exact r3 ⟨a0, rfl, la0, ha0⟩ ⟨a1, rfl, Nat.zero_le _, ha1⟩ ⟨a2, rfl, Nat.zero_le _, ha2⟩ z
      · exact r2 ⟨a0, rfl, la0, ha0⟩ ⟨a1, rfl, Nat.zero_le _, ha1⟩ z
    · exact r1 ⟨a0, rfl, la0, ha0⟩ z
  · exact r0  z
theorem c_X12_would (hW : Wn I D cs S) {x y z u v5 v6 v7 v8 v9 : Int32} (r0 : ¬ iv 1 (41) x → Q (.inl (some (.int 0))) (Z (thr I 1 1) J n w)) (r1 : iv 1 (41) x → ¬ iv 0 (41) y → Q (.inl (some (.int 0))) (Z (thr I 1 1) J n w)) (r2 : iv 1 (41) x → iv 0 (41) y → ¬ iv 0 (10) z → Q (.inl (some (.int 0))) (Z (thr I 1 1) J n w)) (r3 : iv 1 (41) x → iv 0 (41) y → iv 0 (10) z → ¬ iv 1 (10) u → Q (.inl (some (.int 0))) (Z (thr I 1 1) J n w)) (r4 : iv 1 (41) x → iv 0 (41) y → iv 0 (10) z → iv 1 (10) u → ¬ iv 0 (10) v5 → Q (.inl (some (.int 0))) (Z (thr I 1 1) J n w)) (r5 : iv 1 (41) x → iv 0 (41) y → iv 0 (10) z → iv 1 (10) u → iv 0 (10) v5 → ¬ iv 0 (1000) v6 → Q (.inl (some (.int 0))) (Z (thr I 1 1) J n w)) (r6 : iv 1 (41) x → iv 0 (41) y → iv 0 (10) z → iv 1 (10) u → iv 0 (10) v5 → iv 0 (1000) v6 → ¬ iv 0 (13) v7 → Q (.inl (some (.int 0))) (Z (thr I 1 1) J n w)) (r7 : iv 1 (41) x → iv 0 (41) y → iv 0 (10) z → iv 1 (10) u → iv 0 (10) v5 → iv 0 (1000) v6 → iv 0 (13) v7 → ¬ iv 0 (401) v8 → Q (.inl (some (.int 0))) (Z (thr I 1 1) J n w)) (r8 : iv 1 (41) x → iv 0 (41) y → iv 0 (10) z → iv 1 (10) u → iv 0 (10) v5 → iv 0 (1000) v6 → iv 0 (13) v7 → iv 0 (401) v8 → ¬ iv 0 (7) v9 → Q (.inl (some (.int 0))) (Z (thr I 1 1) J n w)) (hg : ∀ a0, ∀ a1, ∀ a2, ∀ a3, ∀ a4, ∀ a5, ∀ a6, ∀ a7, ∀ a8, x = nI a0 → 1 ≤ a0 → a0 < 41 → y = nI a1 → a1 < 41 → z = nI a2 → a2 < 10 → u = nI a3 → 1 ≤ a3 → a3 < 10 → v5 = nI a4 → a4 < 10 → v6 = nI a5 → a5 < 1000 → v7 = nI a6 → a6 < 13 → v8 = nI a7 → a7 < 401 → v9 = nI a8 → a8 < 7 → ∀ I', km I I' → I' 534 0 = 0 → Q (.inl (some (.int (nI (ldv (fv (nI a0) (nI a1) (nI a2) (nI a3) (nI a4) (nI a5) (nI a6) (nI a7) (nI a8)) cs))))) (Z I' J n w)) : Cn g (d + 4) mX12_would [.ref 534, .int x, .int y, .int z, .int u, .int v5, .int v6, .int v7, .int v8, .int v9] (Z I J n w) Q := by
  have hb7 := hW.2.1.1
  have hc12 := hW.2.1.2.1
  show Rn g (d + 4) mX12_would 0 [.ref 534, .int x, .int y, .int z, .int u, .int v5, .int v6, .int v7, .int v8, .int v9] [] [] (Z I J n w) Q
  refine s_aload_n (pc := 0) (i := 0) dX12_would_0 rfl rfl ?_
  refine m_ic (pc := 1) (v := 0) dX12_would_1 rfl ?_
  refine m_pi (pc := 2) dX12_would_2 ff_X12_3 rfl rfl o_534 ?_
  refine s_aload_n (pc := 5) (i := 0) dX12_would_5 rfl rfl ?_
  refine s_iload_n (pc := 6) (i := 1) dX12_would_6 rfl rfl ?_
  refine m_ic (pc := 7) (v := 1) dX12_would_7 rfl ?_
  refine m_bi (pc := 8) (v := 40) dX12_would_8 rfl ?_
  refine m_s3 (pc := 10) dX12_would_10 lk_X12_373 ok_X12_within rfl rfl (c_win (lo := 1) (m := 41) rfl rfl (by omega) (fun a0 ea0 la0 ha0 => kt_s ?_) (fun z => kt_s ?_))
  · subst ea0
    refine s_ifeq (pc := 13) (tgt := 108) dX12_would_13 rfl (fun h13 => absurd h13 (by decide)) (fun h13 => ?_)
    refine s_iload_n (pc := 16) (i := 2) dX12_would_16 rfl rfl ?_
    refine m_ic (pc := 17) (v := 0) dX12_would_17 rfl ?_
    refine m_bi (pc := 18) (v := 40) dX12_would_18 rfl ?_
    refine m_s3 (pc := 20) dX12_would_20 lk_X12_373 ok_X12_within rfl rfl (c_win (lo := 0) (m := 41) rfl rfl (by omega) (fun a1 ea1 la1 ha1 => kt_s ?_) (fun z => kt_s ?_))
    · subst ea1
      refine s_ifeq (pc := 23) (tgt := 108) dX12_would_23 rfl (fun h23 => absurd h23 (by decide)) (fun h23 => ?_)
      refine s_iload_n (pc := 26) (i := 3) dX12_would_26 rfl rfl ?_
      refine m_ic (pc := 27) (v := 0) dX12_would_27 rfl ?_
      refine m_bi (pc := 28) (v := 9) dX12_would_28 rfl ?_
      refine m_s3 (pc := 30) dX12_would_30 lk_X12_373 ok_X12_within rfl rfl (c_win (lo := 0) (m := 10) rfl rfl (by omega) (fun a2 ea2 la2 ha2 => kt_s ?_) (fun z => kt_s ?_))
      · subst ea2
        refine s_ifeq (pc := 33) (tgt := 108) dX12_would_33 rfl (fun h33 => absurd h33 (by decide)) (fun h33 => ?_)
        refine s_iload (pc := 36) (i := 4) dX12_would_36 rfl ?_
        refine m_ic (pc := 38) (v := 1) dX12_would_38 rfl ?_
        refine m_bi (pc := 39) (v := 9) dX12_would_39 rfl ?_
        refine m_s3 (pc := 41) dX12_would_41 lk_X12_373 ok_X12_within rfl rfl (c_win (lo := 1) (m := 10) rfl rfl (by omega) (fun a3 ea3 la3 ha3 => kt_s ?_) (fun z => kt_s ?_))
        · subst ea3
          refine s_ifeq (pc := 44) (tgt := 108) dX12_would_44 rfl (fun h44 => absurd h44 (by decide)) (fun h44 => ?_)
          refine s_iload (pc := 47) (i := 5) dX12_would_47 rfl ?_
          refine m_ic (pc := 49) (v := 0) dX12_would_49 rfl ?_
          refine m_bi (pc := 50) (v := 9) dX12_would_50 rfl ?_
          refine m_s3 (pc := 52) dX12_would_52 lk_X12_373 ok_X12_within rfl rfl (c_win (lo := 0) (m := 10) rfl rfl (by omega) (fun a4 ea4 la4 ha4 => kt_s ?_) (fun z => kt_s ?_))
          · subst ea4
            refine s_ifeq (pc := 55) (tgt := 108) dX12_would_55 rfl (fun h55 => absurd h55 (by decide)) (fun h55 => ?_)
            refine s_iload (pc := 58) (i := 6) dX12_would_58 rfl ?_
            refine m_ic (pc := 60) (v := 0) dX12_would_60 rfl ?_
            refine m_si (pc := 61) (v := 999) dX12_would_61 rfl ?_
            refine m_s3 (pc := 64) dX12_would_64 lk_X12_373 ok_X12_within rfl rfl (c_win (lo := 0) (m := 1000) rfl rfl (by omega) (fun a5 ea5 la5 ha5 => kt_s ?_) (fun z => kt_s ?_))
            · subst ea5
              refine s_ifeq (pc := 67) (tgt := 108) dX12_would_67 rfl (fun h67 => absurd h67 (by decide)) (fun h67 => ?_)
              refine s_iload (pc := 70) (i := 7) dX12_would_70 rfl ?_
              refine m_ic (pc := 72) (v := 0) dX12_would_72 rfl ?_
              refine m_bi (pc := 73) (v := 12) dX12_would_73 rfl ?_
              refine m_s3 (pc := 75) dX12_would_75 lk_X12_373 ok_X12_within rfl rfl (c_win (lo := 0) (m := 13) rfl rfl (by omega) (fun a6 ea6 la6 ha6 => kt_s ?_) (fun z => kt_s ?_))
              · subst ea6
                refine s_ifeq (pc := 78) (tgt := 108) dX12_would_78 rfl (fun h78 => absurd h78 (by decide)) (fun h78 => ?_)
                refine s_iload (pc := 81) (i := 8) dX12_would_81 rfl ?_
                refine m_ic (pc := 83) (v := 0) dX12_would_83 rfl ?_
                refine m_si (pc := 84) (v := 400) dX12_would_84 rfl ?_
                refine m_s3 (pc := 87) dX12_would_87 lk_X12_373 ok_X12_within rfl rfl (c_win (lo := 0) (m := 401) rfl rfl (by omega) (fun a7 ea7 la7 ha7 => kt_s ?_) (fun z => kt_s ?_))
                · subst ea7
                  refine s_ifeq (pc := 90) (tgt := 108) dX12_would_90 rfl (fun h90 => absurd h90 (by decide)) (fun h90 => ?_)
                  refine s_iload (pc := 93) (i := 9) dX12_would_93 rfl ?_
                  refine m_ic (pc := 95) (v := 0) dX12_would_95 rfl ?_
                  refine m_bi (pc := 96) (v := 6) dX12_would_96 rfl ?_
                  refine m_s3 (pc := 98) dX12_would_98 lk_X12_373 ok_X12_within rfl rfl (c_win (lo := 0) (m := 7) rfl rfl (by omega) (fun a8 ea8 la8 ha8 => kt_s ?_) (fun z => kt_s ?_))
                  · subst ea8
                    refine s_ifeq (pc := 101) (tgt := 108) dX12_would_101 rfl (fun h101 => absurd h101 (by decide)) (fun h101 => ?_)
                    refine m_ic (pc := 104) (v := 1) dX12_would_104 rfl ?_
                    refine s_goto (pc := 105) (tgt := 109) dX12_would_105 rfl ?_
                    refine m_ic (pc := 109) (v := 1) dX12_would_109 rfl ?_
                    refine m_ic (pc := 110) (v := 1) dX12_would_110 rfl ?_
                    refine m_v3 (pc := 111) dX12_would_111 lk_X12_192 ok_X12_may (rcO o_534 (by decide) rfl) rfl rfl (c_may1 (k := 1) (by decide) rfl up_s (by decide) (kt_s ?_))
                    · refine s_ifne (pc := 114) (tgt := 119) dX12_would_114 rfl (fun h114 => ?_) (fun h114 => absurd h114 (by decide))
                      refine s_aload_n (pc := 119) (i := 0) dX12_would_119 rfl rfl ?_
                      refine s_iload_n (pc := 120) (i := 1) dX12_would_120 rfl rfl ?_
                      refine s_iload_n (pc := 121) (i := 2) dX12_would_121 rfl rfl ?_
                      refine s_iload_n (pc := 122) (i := 3) dX12_would_122 rfl rfl ?_
                      refine s_iload (pc := 123) (i := 4) dX12_would_123 rfl ?_
                      refine s_iload (pc := 125) (i := 5) dX12_would_125 rfl ?_
                      refine s_iload (pc := 127) (i := 6) dX12_would_127 rfl ?_
                      refine s_iload (pc := 129) (i := 7) dX12_would_129 rfl ?_
                      refine s_iload (pc := 131) (i := 8) dX12_would_131 rfl ?_
                      refine s_iload (pc := 133) (i := 9) dX12_would_133 rfl ?_
                      refine m_v9 (pc := 135) dX12_would_135 lk_X12_341 ok_X12_loadOf (rcO o_534 (by decide) rfl) rfl rfl (c_X12_loadOf (cs := cs) (Lq_fr hW.2.2.1 (fun x j z => up_n3 (by omega))) hW.2.2.2.1 (fun I1 f1 => kt_s ?_))
                      refine s_ireturn (pc := 138) dX12_would_138 rfl rfl ?_
                      exact hg a0 a1 a2 a3 a4 a5 a6 a7 a8 rfl la0 ha0 rfl ha1 rfl ha2 rfl la3 ha3 rfl ha4 rfl ha5 rfl ha6 rfl ha7 rfl ha8 I1 (km_t th_k (km_m f1)) ((fm_0 f1).trans up_s)
                  · refine s_ifeq (pc := 101) (tgt := 108) dX12_would_101 rfl (fun h101 => ?_) (fun h101 => absurd h101 (by decide))
                    refine m_ic (pc := 108) (v := 0) dX12_would_108 rfl ?_
                    refine m_ic (pc := 109) (v := 1) dX12_would_109 rfl ?_
                    refine m_ic (pc := 110) (v := 1) dX12_would_110 rfl ?_
                    refine m_v3 (pc := 111) dX12_would_111 lk_X12_192 ok_X12_may (rcO o_534 (by decide) rfl) rfl rfl (c_may0 (k := 1) (by decide) rfl up_s (by decide) (kt_s ?_))
                    · refine s_ifne (pc := 114) (tgt := 119) dX12_would_114 rfl (fun h114 => absurd h114 (by decide)) (fun h114 => ?_)
                      refine m_ic (pc := 117) (v := 0) dX12_would_117 rfl ?_
                      refine s_ireturn (pc := 118) dX12_would_118 rfl rfl ?_
                      rw [thr_0]
                      exact r8 ⟨a0, rfl, la0, ha0⟩ ⟨a1, rfl, Nat.zero_le _, ha1⟩ ⟨a2, rfl, Nat.zero_le _, ha2⟩ ⟨a3, rfl, la3, ha3⟩ ⟨a4, rfl, Nat.zero_le _, ha4⟩ ⟨a5, rfl, Nat.zero_le _, ha5⟩ ⟨a6, rfl, Nat.zero_le _, ha6⟩ ⟨a7, rfl, Nat.zero_le _, ha7⟩ z
                · refine s_ifeq (pc := 90) (tgt := 108) dX12_would_90 rfl (fun h90 => ?_) (fun h90 => absurd h90 (by decide))
                  refine m_ic (pc := 108) (v := 0) dX12_would_108 rfl ?_
                  refine m_ic (pc := 109) (v := 1) dX12_would_109 rfl ?_
                  refine m_ic (pc := 110) (v := 1) dX12_would_110 rfl ?_
                  refine m_v3 (pc := 111) dX12_would_111 lk_X12_192 ok_X12_may (rcO o_534 (by decide) rfl) rfl rfl (c_may0 (k := 1) (by decide) rfl up_s (by decide) (kt_s ?_))
                  · refine s_ifne (pc := 114) (tgt := 119) dX12_would_114 rfl (fun h114 => absurd h114 (by decide)) (fun h114 => ?_)
                    refine m_ic (pc := 117) (v := 0) dX12_would_117 rfl ?_
                    refine s_ireturn (pc := 118) dX12_would_118 rfl rfl ?_
                    rw [thr_0]
                    exact r7 ⟨a0, rfl, la0, ha0⟩ ⟨a1, rfl, Nat.zero_le _, ha1⟩ ⟨a2, rfl, Nat.zero_le _, ha2⟩ ⟨a3, rfl, la3, ha3⟩ ⟨a4, rfl, Nat.zero_le _, ha4⟩ ⟨a5, rfl, Nat.zero_le _, ha5⟩ ⟨a6, rfl, Nat.zero_le _, ha6⟩ z
              · refine s_ifeq (pc := 78) (tgt := 108) dX12_would_78 rfl (fun h78 => ?_) (fun h78 => absurd h78 (by decide))
                refine m_ic (pc := 108) (v := 0) dX12_would_108 rfl ?_
                refine m_ic (pc := 109) (v := 1) dX12_would_109 rfl ?_
                refine m_ic (pc := 110) (v := 1) dX12_would_110 rfl ?_
                refine m_v3 (pc := 111) dX12_would_111 lk_X12_192 ok_X12_may (rcO o_534 (by decide) rfl) rfl rfl (c_may0 (k := 1) (by decide) rfl up_s (by decide) (kt_s ?_))
                · refine s_ifne (pc := 114) (tgt := 119) dX12_would_114 rfl (fun h114 => absurd h114 (by decide)) (fun h114 => ?_)
                  refine m_ic (pc := 117) (v := 0) dX12_would_117 rfl ?_
                  refine s_ireturn (pc := 118) dX12_would_118 rfl rfl ?_
                  rw [thr_0]
                  exact r6 ⟨a0, rfl, la0, ha0⟩ ⟨a1, rfl, Nat.zero_le _, ha1⟩ ⟨a2, rfl, Nat.zero_le _, ha2⟩ ⟨a3, rfl, la3, ha3⟩ ⟨a4, rfl, Nat.zero_le _, ha4⟩ ⟨a5, rfl, Nat.zero_le _, ha5⟩ z
            · refine s_ifeq (pc := 67) (tgt := 108) dX12_would_67 rfl (fun h67 => ?_) (fun h67 => absurd h67 (by decide))
              refine m_ic (pc := 108) (v := 0) dX12_would_108 rfl ?_
              refine m_ic (pc := 109) (v := 1) dX12_would_109 rfl ?_
              refine m_ic (pc := 110) (v := 1) dX12_would_110 rfl ?_
              refine m_v3 (pc := 111) dX12_would_111 lk_X12_192 ok_X12_may (rcO o_534 (by decide) rfl) rfl rfl (c_may0 (k := 1) (by decide) rfl up_s (by decide) (kt_s ?_))
              · refine s_ifne (pc := 114) (tgt := 119) dX12_would_114 rfl (fun h114 => absurd h114 (by decide)) (fun h114 => ?_)
                refine m_ic (pc := 117) (v := 0) dX12_would_117 rfl ?_
                refine s_ireturn (pc := 118) dX12_would_118 rfl rfl ?_
                rw [thr_0]
                exact r5 ⟨a0, rfl, la0, ha0⟩ ⟨a1, rfl, Nat.zero_le _, ha1⟩ ⟨a2, rfl, Nat.zero_le _, ha2⟩ ⟨a3, rfl, la3, ha3⟩ ⟨a4, rfl, Nat.zero_le _, ha4⟩ z
          · refine s_ifeq (pc := 55) (tgt := 108) dX12_would_55 rfl (fun h55 => ?_) (fun h55 => absurd h55 (by decide))
            refine m_ic (pc := 108) (v := 0) dX12_would_108 rfl ?_
            refine m_ic (pc := 109) (v := 1) dX12_would_109 rfl ?_
            refine m_ic (pc := 110) (v := 1) dX12_would_110 rfl ?_
            refine m_v3 (pc := 111) dX12_would_111 lk_X12_192 ok_X12_may (rcO o_534 (by decide) rfl) rfl rfl (c_may0 (k := 1) (by decide) rfl up_s (by decide) (kt_s ?_))
            · refine s_ifne (pc := 114) (tgt := 119) dX12_would_114 rfl (fun h114 => absurd h114 (by decide)) (fun h114 => ?_)
              refine m_ic (pc := 117) (v := 0) dX12_would_117 rfl ?_
              refine s_ireturn (pc := 118) dX12_would_118 rfl rfl ?_
              rw [thr_0]
              exact r4 ⟨a0, rfl, la0, ha0⟩ ⟨a1, rfl, Nat.zero_le _, ha1⟩ ⟨a2, rfl, Nat.zero_le _, ha2⟩ ⟨a3, rfl, la3, ha3⟩ z
        · refine s_ifeq (pc := 44) (tgt := 108) dX12_would_44 rfl (fun h44 => ?_) (fun h44 => absurd h44 (by decide))
          refine m_ic (pc := 108) (v := 0) dX12_would_108 rfl ?_
          refine m_ic (pc := 109) (v := 1) dX12_would_109 rfl ?_
          refine m_ic (pc := 110) (v := 1) dX12_would_110 rfl ?_
          refine m_v3 (pc := 111) dX12_would_111 lk_X12_192 ok_X12_may (rcO o_534 (by decide) rfl) rfl rfl (c_may0 (k := 1) (by decide) rfl up_s (by decide) (kt_s ?_))
          · refine s_ifne (pc := 114) (tgt := 119) dX12_would_114 rfl (fun h114 => absurd h114 (by decide)) (fun h114 => ?_)
            refine m_ic (pc := 117) (v := 0) dX12_would_117 rfl ?_
            refine s_ireturn (pc := 118) dX12_would_118 rfl rfl ?_
            rw [thr_0]
            exact r3 ⟨a0, rfl, la0, ha0⟩ ⟨a1, rfl, Nat.zero_le _, ha1⟩ ⟨a2, rfl, Nat.zero_le _, ha2⟩ z
      · refine s_ifeq (pc := 33) (tgt := 108) dX12_would_33 rfl (fun h33 => ?_) (fun h33 => absurd h33 (by decide))
        refine m_ic (pc := 108) (v := 0) dX12_would_108 rfl ?_
        refine m_ic (pc := 109) (v := 1) dX12_would_109 rfl ?_
        refine m_ic (pc := 110) (v := 1) dX12_would_110 rfl ?_
        refine m_v3 (pc := 111) dX12_would_111 lk_X12_192 ok_X12_may (rcO o_534 (by decide) rfl) rfl rfl (c_may0 (k := 1) (by decide) rfl up_s (by decide) (kt_s ?_))
        · refine s_ifne (pc := 114) (tgt := 119) dX12_would_114 rfl (fun h114 => absurd h114 (by decide)) (fun h114 => ?_)
          refine m_ic (pc := 117) (v := 0) dX12_would_117 rfl ?_
          refine s_ireturn (pc := 118) dX12_would_118 rfl rfl ?_
          rw [thr_0]
          exact r2 ⟨a0, rfl, la0, ha0⟩ ⟨a1, rfl, Nat.zero_le _, ha1⟩ z
    · refine s_ifeq (pc := 23) (tgt := 108) dX12_would_23 rfl (fun h23 => ?_) (fun h23 => absurd h23 (by decide))
      refine m_ic (pc := 108) (v := 0) dX12_would_108 rfl ?_
      refine m_ic (pc := 109) (v := 1) dX12_would_109 rfl ?_
      refine m_ic (pc := 110) (v := 1) dX12_would_110 rfl ?_
      refine m_v3 (pc := 111) dX12_would_111 lk_X12_192 ok_X12_may (rcO o_534 (by decide) rfl) rfl rfl (c_may0 (k := 1) (by decide) rfl up_s (by decide) (kt_s ?_))
      · refine s_ifne (pc := 114) (tgt := 119) dX12_would_114 rfl (fun h114 => absurd h114 (by decide)) (fun h114 => ?_)
        refine m_ic (pc := 117) (v := 0) dX12_would_117 rfl ?_
        refine s_ireturn (pc := 118) dX12_would_118 rfl rfl ?_
        rw [thr_0]
        exact r1 ⟨a0, rfl, la0, ha0⟩ z
  · refine s_ifeq (pc := 13) (tgt := 108) dX12_would_13 rfl (fun h13 => ?_) (fun h13 => absurd h13 (by decide))
    refine m_ic (pc := 108) (v := 0) dX12_would_108 rfl ?_
    refine m_ic (pc := 109) (v := 1) dX12_would_109 rfl ?_
    refine m_ic (pc := 110) (v := 1) dX12_would_110 rfl ?_
    refine m_v3 (pc := 111) dX12_would_111 lk_X12_192 ok_X12_may (rcO o_534 (by decide) rfl) rfl rfl (c_may0 (k := 1) (by decide) rfl up_s (by decide) (kt_s ?_))
    · refine s_ifne (pc := 114) (tgt := 119) dX12_would_114 rfl (fun h114 => absurd h114 (by decide)) (fun h114 => ?_)
      refine m_ic (pc := 117) (v := 0) dX12_would_117 rfl ?_
      refine s_ireturn (pc := 118) dX12_would_118 rfl rfl ?_
      rw [thr_0]
      exact r0  z
theorem cou_lp {b : Nat} (hW : Wc I 33 D cs S) (hb : b < cb D) (hq : ∀ I', fl I I' → Q (.inl (some (.int (nI (bs (fun c => brs D cs S b c 0) (cc D)))))) (Z I' J n w)) : ∀ f i I1, i + f = cc D → fl I I1 → Rn g (d + 8) mX11_could 9 [.ref 1, .int (nI b), .int (nI (bs (fun c => brs D cs S b c 0) i)), .int (nI i)] [] [] (Z I1 J n w) Q := by
  intro f
  induction f with
  | zero =>
    intro i I1 hi hF
    have e : cc D = i := by omega
    subst e
    have hb7 := hW.2.1.1
    have hc12 := hW.2.1.2.1
    have hV := Wc_fl hW (by decide) hF
    refine s_iload_n (pc := 9) (i := 3) dX11_could_9 rfl rfl ?_
    refine s_aload_n (pc := 10) (i := 0) dX11_could_10 rfl rfl ?_
    refine m_gr (pc := 11) dX11_could_11 ff_X11_19 rfl o_1 r_1_1 ?_
    refine m_gi (pc := 14) dX11_could_14 ff_X11_184 rfl o_4 ?_
    refine m_nm (v' := nI (cc D)) (hV.1.2.1) ?_
    refine s_icge (pc := 17) (tgt := 53) dX11_could_17 rfl (fun h17 => ?_) (fun h17 => absurd (nI_le (a := cc D) (b := (cc D)) (by omega) (by omega)) h17)
    refine s_iload_n (pc := 53) (i := 2) dX11_could_53 rfl rfl ?_
    refine s_ireturn (pc := 54) dX11_could_54 rfl rfl ?_
    exact hq I1 hF
  | succ f ih =>
    intro i I1 hi hF
    have hb7 := hW.2.1.1
    have hc12 := hW.2.1.2.1
    have hV := Wc_fl hW (by decide) hF
    refine s_iload_n (pc := 9) (i := 3) dX11_could_9 rfl rfl ?_
    refine s_aload_n (pc := 10) (i := 0) dX11_could_10 rfl rfl ?_
    refine m_gr (pc := 11) dX11_could_11 ff_X11_19 rfl o_1 r_1_1 ?_
    refine m_gi (pc := 14) dX11_could_14 ff_X11_184 rfl o_4 ?_
    refine m_nm (v' := nI (cc D)) (hV.1.2.1) ?_
    refine s_icge (pc := 17) (tgt := 53) dX11_could_17 rfl (fun h17 => absurd h17 (nI_ge (a := i) (b := cc D) (by omega) (by omega))) (fun h17 => ?_)
    refine s_iload_n (pc := 20) (i := 2) dX11_could_20 rfl rfl ?_
    refine s_aload_n (pc := 21) (i := 0) dX11_could_21 rfl rfl ?_
    refine m_gr (pc := 22) dX11_could_22 ff_X11_58 rfl o_1 r_1_8 ?_
    refine s_aload_n (pc := 25) (i := 0) dX11_could_25 rfl rfl ?_
    refine m_gr (pc := 26) dX11_could_26 ff_X11_73 rfl o_1 r_1_10 ?_
    refine s_iload_n (pc := 29) (i := 1) dX11_could_29 rfl rfl ?_
    refine s_iload_n (pc := 30) (i := 3) dX11_could_30 rfl rfl ?_
    refine m_ic (pc := 31) (v := 0) dX11_could_31 rfl ?_
    refine m_v4 (pc := 32) dX11_could_32 lk_X11_288 ok_X3_bearsIn (rcO o_31 (by decide) rfl) rfl rfl (c_X3_bearsIn (k := 0) (o := 33) sO_33 (by decide) hV hb (by omega) (by decide) (fun I2 h f2 => kt_s ?_) (fun I2 h f2 => kt_s ?_))
    · refine s_ifeq (pc := 35) (tgt := 44) dX11_could_35 rfl (fun h35 => absurd h35 (by decide)) (fun h35 => ?_)
      refine m_ic (pc := 38) (v := 1) dX11_could_38 rfl ?_
      refine s_iload_n (pc := 39) (i := 3) dX11_could_39 rfl rfl ?_
      refine s_ishl (pc := 40) dX11_could_40 ?_
      refine s_goto (pc := 41) (tgt := 45) dX11_could_41 rfl ?_
      refine s_ior (pc := 45) dX11_could_45 ?_
      rw [bs_s1 (p := (fun c => brs D cs S b c 0)) (by omega) h]
      refine s_istore_n (pc := 46) (i := 2) dX11_could_46 rfl (Nat.le_of_ble_eq_true rfl) ?_
      dsimp only [List.set, List.filter]
      refine m_inc (pc := 47) (v := 1) dX11_could_47 rfl rfl ?_
      dsimp only [List.set, List.filter]
      rw [nI_1]
      refine s_goto (pc := 50) (tgt := 9) dX11_could_50 rfl ?_
      exact ih (i + 1) I2  (by omega) (fl_t hF f2)
    · refine s_ifeq (pc := 35) (tgt := 44) dX11_could_35 rfl (fun h35 => ?_) (fun h35 => absurd h35 (by decide))
      refine m_ic (pc := 44) (v := 0) dX11_could_44 rfl ?_
      refine s_ior (pc := 45) dX11_could_45 ?_
      rw [bs_s0 (p := (fun c => brs D cs S b c 0)) h]
      refine s_istore_n (pc := 46) (i := 2) dX11_could_46 rfl (Nat.le_of_ble_eq_true rfl) ?_
      dsimp only [List.set, List.filter]
      refine m_inc (pc := 47) (v := 1) dX11_could_47 rfl rfl ?_
      dsimp only [List.set, List.filter]
      rw [nI_1]
      refine s_goto (pc := 50) (tgt := 9) dX11_could_50 rfl ?_
      exact ih (i + 1) I2  (by omega) (fl_t hF f2)
theorem c_X11_could (hW : Wc I 33 D cs S) (hn : n + 1 ≤ 600000 ∧ w + 6 ≤ 7000000) {x : Int32} (r0 : ¬ iv 0 (cb D) x → Q (.inr 0) (Z (up I 1 17 (I 1 17 + 1)) J (n + 1) (w + 6))) (hg : ∀ b, x = nI b → b < cb D → ∀ I', kc I I' → Q (.inl (some (.int (nI (bs (fun c => brs D cs S b c 0) (cc D)))))) (Z I' J n w)) : Cn g (d + 8) mX11_could [.ref 1, .int x] (Z I J n w) Q := by
  have hb7 := hW.2.1.1
  have hc12 := hW.2.1.2.1
  show Rn g (d + 8) mX11_could 0 [.ref 1, .int x, .retAddr 0, .retAddr 0] [] [] (Z I J n w) Q
  refine s_aload_n (pc := 0) (i := 0) dX11_could_0 rfl rfl ?_
  refine s_iload_n (pc := 1) (i := 1) dX11_could_1 rfl rfl ?_
  refine m_v1 (pc := 2) dX11_could_2 lk_X11_214 ok_X11_needBack (rcO o_1 (by decide) rfl) rfl rfl (c_nb hW.1 hW.2.1 hn (fun b eb hb => kt_v ?_) (fun z => kt_x ?_))
  · subst eb
    refine m_ic (pc := 5) (v := 0) dX11_could_5 rfl ?_
    refine s_istore_n (pc := 6) (i := 2) dX11_could_6 rfl (Nat.le_of_ble_eq_true rfl) ?_
    dsimp only [List.set, List.filter]
    refine m_ic (pc := 7) (v := 0) dX11_could_7 rfl ?_
    refine s_istore_n (pc := 8) (i := 3) dX11_could_8 rfl (Nat.le_of_ble_eq_true rfl) ?_
    dsimp only [List.set, List.filter]
    exact cou_lp hW hb (fun I' f => hg b rfl hb I' (kc_l f)) (cc D) 0 I (by omega) fl_r
  · exact r0  z
theorem mcou_lp {b : Nat} (hM : Wm I D cs S) (hb : b < cb D) (hq : ∀ I', fm I I' → Q (.inl (some (.int (nI (bs (fun c => brs D cs S b c 0) (cc D)))))) (Z I' J n w)) : ∀ f i I1, i + f = cc D → fm I I1 → Rn g (d + 7) mX12_could 24 [.ref 534, .int (nI b), .int (nI (bs (fun c => brs D cs S b c 0) i)), .int (nI i)] [] [] (Z I1 J n w) Q := by
  intro f
  induction f with
  | zero =>
    intro i I1 hi hF
    have e : cc D = i := by omega
    subst e
    have hb7 := hM.2.1.1
    have hc12 := hM.2.1.2.1
    have hV := Wm_fm hM hF
    refine s_iload_n (pc := 24) (i := 3) dX12_could_24 rfl rfl ?_
    refine s_aload_n (pc := 25) (i := 0) dX12_could_25 rfl rfl ?_
    refine m_gi (pc := 26) dX12_could_26 ff_X12_157 rfl o_534 ?_
    refine m_nm (v' := nI (cc D)) (hV.1.2.1) ?_
    refine s_icge (pc := 29) (tgt := 57) dX12_could_29 rfl (fun h29 => ?_) (fun h29 => absurd (nI_le (a := cc D) (b := (cc D)) (by omega) (by omega)) h29)
    refine s_iload_n (pc := 57) (i := 2) dX12_could_57 rfl rfl ?_
    refine s_ireturn (pc := 58) dX12_could_58 rfl rfl ?_
    exact hq I1 hF
  | succ f ih =>
    intro i I1 hi hF
    have hb7 := hM.2.1.1
    have hc12 := hM.2.1.2.1
    have hV := Wm_fm hM hF
    refine s_iload_n (pc := 24) (i := 3) dX12_could_24 rfl rfl ?_
    refine s_aload_n (pc := 25) (i := 0) dX12_could_25 rfl rfl ?_
    refine m_gi (pc := 26) dX12_could_26 ff_X12_157 rfl o_534 ?_
    refine m_nm (v' := nI (cc D)) (hV.1.2.1) ?_
    refine s_icge (pc := 29) (tgt := 57) dX12_could_29 rfl (fun h29 => absurd h29 (nI_ge (a := i) (b := cc D) (by omega) (by omega))) (fun h29 => ?_)
    refine s_iload_n (pc := 32) (i := 2) dX12_could_32 rfl rfl ?_
    refine s_aload_n (pc := 33) (i := 0) dX12_could_33 rfl rfl ?_
    refine s_iload_n (pc := 34) (i := 1) dX12_could_34 rfl rfl ?_
    refine s_iload_n (pc := 35) (i := 3) dX12_could_35 rfl rfl ?_
    refine m_v2 (pc := 36) dX12_could_36 lk_X12_391 ok_X12_bears (rcO o_534 (by decide) rfl) rfl rfl (c_X12_bears hV hb (by omega) (fun I2 h f2 => kt_s ?_) (fun I2 h f2 => kt_s ?_))
    · refine s_ifeq (pc := 39) (tgt := 48) dX12_could_39 rfl (fun h39 => absurd h39 (by decide)) (fun h39 => ?_)
      refine m_ic (pc := 42) (v := 1) dX12_could_42 rfl ?_
      refine s_iload_n (pc := 43) (i := 3) dX12_could_43 rfl rfl ?_
      refine s_ishl (pc := 44) dX12_could_44 ?_
      refine s_goto (pc := 45) (tgt := 49) dX12_could_45 rfl ?_
      refine s_ior (pc := 49) dX12_could_49 ?_
      rw [bs_s1 (p := (fun c => brs D cs S b c 0)) (by omega) h]
      refine s_istore_n (pc := 50) (i := 2) dX12_could_50 rfl (Nat.le_of_ble_eq_true rfl) ?_
      dsimp only [List.set, List.filter]
      refine m_inc (pc := 51) (v := 1) dX12_could_51 rfl rfl ?_
      dsimp only [List.set, List.filter]
      rw [nI_1]
      refine s_goto (pc := 54) (tgt := 24) dX12_could_54 rfl ?_
      exact ih (i + 1) I2  (by omega) (fm_t hF f2)
    · refine s_ifeq (pc := 39) (tgt := 48) dX12_could_39 rfl (fun h39 => ?_) (fun h39 => absurd h39 (by decide))
      refine m_ic (pc := 48) (v := 0) dX12_could_48 rfl ?_
      refine s_ior (pc := 49) dX12_could_49 ?_
      rw [bs_s0 (p := (fun c => brs D cs S b c 0)) h]
      refine s_istore_n (pc := 50) (i := 2) dX12_could_50 rfl (Nat.le_of_ble_eq_true rfl) ?_
      dsimp only [List.set, List.filter]
      refine m_inc (pc := 51) (v := 1) dX12_could_51 rfl rfl ?_
      dsimp only [List.set, List.filter]
      rw [nI_1]
      refine s_goto (pc := 54) (tgt := 24) dX12_could_54 rfl ?_
      exact ih (i + 1) I2  (by omega) (fm_t hF f2)
theorem c_X12_could (hW : Wn I D cs S) {x : Int32} (r0 : ¬ iv 0 (cb D) x → Q (.inl (some (.int 0))) (Z (thr I 1 0) J n w)) (hg : ∀ b, x = nI b → b < cb D → ∀ I', km I I' → I' 534 0 = 0 → Q (.inl (some (.int (nI (bs (fun c => brs D cs S b c 0) (cc D)))))) (Z I' J n w)) : Cn g (d + 7) mX12_could [.ref 534, .int x] (Z I J n w) Q := by
  have hb7 := hW.2.1.1
  have hc12 := hW.2.1.2.1
  show Rn g (d + 7) mX12_could 0 [.ref 534, .int x, .retAddr 0, .retAddr 0] [] [] (Z I J n w) Q
  refine s_aload_n (pc := 0) (i := 0) dX12_could_0 rfl rfl ?_
  refine m_ic (pc := 1) (v := 0) dX12_could_1 rfl ?_
  refine m_pi (pc := 2) dX12_could_2 ff_X12_3 rfl rfl o_534 ?_
  refine s_aload_n (pc := 5) (i := 0) dX12_could_5 rfl rfl ?_
  refine s_iload_n (pc := 6) (i := 1) dX12_could_6 rfl rfl ?_
  refine m_ic (pc := 7) (v := 1) dX12_could_7 rfl ?_
  refine m_v2 (pc := 8) dX12_could_8 lk_X12_385 ok_X12_isBack (rcO o_534 (by decide) rfl) rfl rfl (c_X12_isBack (D := D) up_s ((up_n3 (by omega)).trans hW.1.1) hW.2.1 (by decide) (fun b eb hb => kt_s ?_) (fun z => kt_s ?_))
  · subst eb
    refine s_ifne (pc := 11) (tgt := 16) dX12_could_11 rfl (fun h11 => ?_) (fun h11 => absurd h11 (by decide))
    refine s_aload_n (pc := 16) (i := 0) dX12_could_16 rfl rfl ?_
    refine m_v0 (pc := 17) dX12_could_17 lk_X12_310 ok_X12_take (rcO o_534 (by decide) rfl) rfl rfl (c_X12_take (kt_v ?_))
    have hM := tk_W hW
    have hK := tk_k (I := I)
    have h00 := tk_0 (I := I)
    obtain ⟨I1, e1⟩ : ∃ z, z = cpI (up I 534 0 0) 549 550 126 := ⟨_, rfl⟩
    rw [← e1] at hM hK h00 ⊢
    refine m_ic (pc := 20) (v := 0) dX12_could_20 rfl ?_
    refine s_istore_n (pc := 21) (i := 2) dX12_could_21 rfl (Nat.le_of_ble_eq_true rfl) ?_
    dsimp only [List.set, List.filter]
    refine m_ic (pc := 22) (v := 0) dX12_could_22 rfl ?_
    refine s_istore_n (pc := 23) (i := 3) dX12_could_23 rfl (Nat.le_of_ble_eq_true rfl) ?_
    dsimp only [List.set, List.filter]
    exact mcou_lp hM hb (fun I' f => hg b rfl hb I' (km_t hK (km_m f)) ((fm_0 f).trans h00)) (cc D) 0 I1 (by omega) fm_r
  · refine s_ifne (pc := 11) (tgt := 16) dX12_could_11 rfl (fun h11 => absurd h11 (by decide)) (fun h11 => ?_)
    refine m_ic (pc := 14) (v := 0) dX12_could_14 rfl ?_
    refine s_ireturn (pc := 15) dX12_could_15 rfl rfl ?_
    rw [thr_0]
    exact r0  z
theorem bea_lp {c : Nat} (hW : Wc I 33 D cs S) (hc : c < cc D) (hq : ∀ I', fl I I' → Q (.inl (some (.int (nI (bs (fun b => brs D cs S b c 0) (cb D)))))) (Z I' J n w)) : ∀ f i I1, i + f = cb D → fl I I1 → Rn g (d + 8) mX11_bearers 9 [.ref 1, .int (nI c), .int (nI (bs (fun b => brs D cs S b c 0) i)), .int (nI i)] [] [] (Z I1 J n w) Q := by
  intro f
  induction f with
  | zero =>
    intro i I1 hi hF
    have e : cb D = i := by omega
    subst e
    have hb7 := hW.2.1.1
    have hc12 := hW.2.1.2.1
    have hV := Wc_fl hW (by decide) hF
    refine s_iload_n (pc := 9) (i := 3) dX11_bearers_9 rfl rfl ?_
    refine s_aload_n (pc := 10) (i := 0) dX11_bearers_10 rfl rfl ?_
    refine m_gr (pc := 11) dX11_bearers_11 ff_X11_19 rfl o_1 r_1_1 ?_
    refine m_gi (pc := 14) dX11_bearers_14 ff_X11_143 rfl o_4 ?_
    refine m_nm (v' := nI (cb D)) (hV.1.1) ?_
    refine s_icge (pc := 17) (tgt := 53) dX11_bearers_17 rfl (fun h17 => ?_) (fun h17 => absurd (nI_le (a := cb D) (b := (cb D)) (by omega) (by omega)) h17)
    refine s_iload_n (pc := 53) (i := 2) dX11_bearers_53 rfl rfl ?_
    refine s_ireturn (pc := 54) dX11_bearers_54 rfl rfl ?_
    exact hq I1 hF
  | succ f ih =>
    intro i I1 hi hF
    have hb7 := hW.2.1.1
    have hc12 := hW.2.1.2.1
    have hV := Wc_fl hW (by decide) hF
    refine s_iload_n (pc := 9) (i := 3) dX11_bearers_9 rfl rfl ?_
    refine s_aload_n (pc := 10) (i := 0) dX11_bearers_10 rfl rfl ?_
    refine m_gr (pc := 11) dX11_bearers_11 ff_X11_19 rfl o_1 r_1_1 ?_
    refine m_gi (pc := 14) dX11_bearers_14 ff_X11_143 rfl o_4 ?_
    refine m_nm (v' := nI (cb D)) (hV.1.1) ?_
    refine s_icge (pc := 17) (tgt := 53) dX11_bearers_17 rfl (fun h17 => absurd h17 (nI_ge (a := i) (b := cb D) (by omega) (by omega))) (fun h17 => ?_)
    refine s_iload_n (pc := 20) (i := 2) dX11_bearers_20 rfl rfl ?_
    refine s_aload_n (pc := 21) (i := 0) dX11_bearers_21 rfl rfl ?_
    refine m_gr (pc := 22) dX11_bearers_22 ff_X11_58 rfl o_1 r_1_8 ?_
    refine s_aload_n (pc := 25) (i := 0) dX11_bearers_25 rfl rfl ?_
    refine m_gr (pc := 26) dX11_bearers_26 ff_X11_73 rfl o_1 r_1_10 ?_
    refine s_iload_n (pc := 29) (i := 3) dX11_bearers_29 rfl rfl ?_
    refine s_iload_n (pc := 30) (i := 1) dX11_bearers_30 rfl rfl ?_
    refine m_ic (pc := 31) (v := 0) dX11_bearers_31 rfl ?_
    refine m_v4 (pc := 32) dX11_bearers_32 lk_X11_288 ok_X3_bearsIn (rcO o_31 (by decide) rfl) rfl rfl (c_X3_bearsIn (k := 0) (o := 33) sO_33 (by decide) hV (by omega) hc (by decide) (fun I2 h f2 => kt_s ?_) (fun I2 h f2 => kt_s ?_))
    · refine s_ifeq (pc := 35) (tgt := 44) dX11_bearers_35 rfl (fun h35 => absurd h35 (by decide)) (fun h35 => ?_)
      refine m_ic (pc := 38) (v := 1) dX11_bearers_38 rfl ?_
      refine s_iload_n (pc := 39) (i := 3) dX11_bearers_39 rfl rfl ?_
      refine s_ishl (pc := 40) dX11_bearers_40 ?_
      refine s_goto (pc := 41) (tgt := 45) dX11_bearers_41 rfl ?_
      refine s_ior (pc := 45) dX11_bearers_45 ?_
      rw [bs_s1 (p := (fun b => brs D cs S b c 0)) (by omega) h]
      refine s_istore_n (pc := 46) (i := 2) dX11_bearers_46 rfl (Nat.le_of_ble_eq_true rfl) ?_
      dsimp only [List.set, List.filter]
      refine m_inc (pc := 47) (v := 1) dX11_bearers_47 rfl rfl ?_
      dsimp only [List.set, List.filter]
      rw [nI_1]
      refine s_goto (pc := 50) (tgt := 9) dX11_bearers_50 rfl ?_
      exact ih (i + 1) I2  (by omega) (fl_t hF f2)
    · refine s_ifeq (pc := 35) (tgt := 44) dX11_bearers_35 rfl (fun h35 => ?_) (fun h35 => absurd h35 (by decide))
      refine m_ic (pc := 44) (v := 0) dX11_bearers_44 rfl ?_
      refine s_ior (pc := 45) dX11_bearers_45 ?_
      rw [bs_s0 (p := (fun b => brs D cs S b c 0)) h]
      refine s_istore_n (pc := 46) (i := 2) dX11_bearers_46 rfl (Nat.le_of_ble_eq_true rfl) ?_
      dsimp only [List.set, List.filter]
      refine m_inc (pc := 47) (v := 1) dX11_bearers_47 rfl rfl ?_
      dsimp only [List.set, List.filter]
      rw [nI_1]
      refine s_goto (pc := 50) (tgt := 9) dX11_bearers_50 rfl ?_
      exact ih (i + 1) I2  (by omega) (fl_t hF f2)
theorem c_X11_bearers (hW : Wc I 33 D cs S) (hn : n + 1 ≤ 600000 ∧ w + 6 ≤ 7000000) {x : Int32} (r0 : ¬ iv 0 (cc D) x → Q (.inr 0) (Z (up I 1 17 (I 1 17 + 1)) J (n + 1) (w + 6))) (hg : ∀ c, x = nI c → c < cc D → ∀ I', kc I I' → Q (.inl (some (.int (nI (bs (fun b => brs D cs S b c 0) (cb D)))))) (Z I' J n w)) : Cn g (d + 8) mX11_bearers [.ref 1, .int x] (Z I J n w) Q := by
  have hb7 := hW.2.1.1
  have hc12 := hW.2.1.2.1
  show Rn g (d + 8) mX11_bearers 0 [.ref 1, .int x, .retAddr 0, .retAddr 0] [] [] (Z I J n w) Q
  refine s_aload_n (pc := 0) (i := 0) dX11_bearers_0 rfl rfl ?_
  refine s_iload_n (pc := 1) (i := 1) dX11_bearers_1 rfl rfl ?_
  refine m_v1 (pc := 2) dX11_bearers_2 lk_X11_240 ok_X11_needCouncil (rcO o_1 (by decide) rfl) rfl rfl (c_nk hW.1 hW.2.1 hn (fun c ec hc => kt_v ?_) (fun z => kt_x ?_))
  · subst ec
    refine m_ic (pc := 5) (v := 0) dX11_bearers_5 rfl ?_
    refine s_istore_n (pc := 6) (i := 2) dX11_bearers_6 rfl (Nat.le_of_ble_eq_true rfl) ?_
    dsimp only [List.set, List.filter]
    refine m_ic (pc := 7) (v := 0) dX11_bearers_7 rfl ?_
    refine s_istore_n (pc := 8) (i := 3) dX11_bearers_8 rfl (Nat.le_of_ble_eq_true rfl) ?_
    dsimp only [List.set, List.filter]
    exact bea_lp hW hc (fun I' f => hg c rfl hc I' (kc_l f)) (cb D) 0 I (by omega) fl_r
  · exact r0  z
theorem mbea_lp {c : Nat} (hM : Wm I D cs S) (hc : c < cc D) (hq : ∀ I', fm I I' → Q (.inl (some (.int (nI (bs (fun b => brs D cs S b c 0) (cb D)))))) (Z I' J n w)) : ∀ f i I1, i + f = cb D → fm I I1 → Rn g (d + 7) mX12_bearers 24 [.ref 534, .int (nI c), .int (nI (bs (fun b => brs D cs S b c 0) i)), .int (nI i)] [] [] (Z I1 J n w) Q := by
  intro f
  induction f with
  | zero =>
    intro i I1 hi hF
    have e : cb D = i := by omega
    subst e
    have hb7 := hM.2.1.1
    have hc12 := hM.2.1.2.1
    have hV := Wm_fm hM hF
    refine s_iload_n (pc := 24) (i := 3) dX12_bearers_24 rfl rfl ?_
    refine s_aload_n (pc := 25) (i := 0) dX12_bearers_25 rfl rfl ?_
    refine m_gi (pc := 26) dX12_bearers_26 ff_X12_154 rfl o_534 ?_
    refine m_nm (v' := nI (cb D)) (hV.1.1) ?_
    refine s_icge (pc := 29) (tgt := 57) dX12_bearers_29 rfl (fun h29 => ?_) (fun h29 => absurd (nI_le (a := cb D) (b := (cb D)) (by omega) (by omega)) h29)
    refine s_iload_n (pc := 57) (i := 2) dX12_bearers_57 rfl rfl ?_
    refine s_ireturn (pc := 58) dX12_bearers_58 rfl rfl ?_
    exact hq I1 hF
  | succ f ih =>
    intro i I1 hi hF
    have hb7 := hM.2.1.1
    have hc12 := hM.2.1.2.1
    have hV := Wm_fm hM hF
    refine s_iload_n (pc := 24) (i := 3) dX12_bearers_24 rfl rfl ?_
    refine s_aload_n (pc := 25) (i := 0) dX12_bearers_25 rfl rfl ?_
    refine m_gi (pc := 26) dX12_bearers_26 ff_X12_154 rfl o_534 ?_
    refine m_nm (v' := nI (cb D)) (hV.1.1) ?_
    refine s_icge (pc := 29) (tgt := 57) dX12_bearers_29 rfl (fun h29 => absurd h29 (nI_ge (a := i) (b := cb D) (by omega) (by omega))) (fun h29 => ?_)
    refine s_iload_n (pc := 32) (i := 2) dX12_bearers_32 rfl rfl ?_
    refine s_aload_n (pc := 33) (i := 0) dX12_bearers_33 rfl rfl ?_
    refine s_iload_n (pc := 34) (i := 3) dX12_bearers_34 rfl rfl ?_
    refine s_iload_n (pc := 35) (i := 1) dX12_bearers_35 rfl rfl ?_
    refine m_v2 (pc := 36) dX12_bearers_36 lk_X12_391 ok_X12_bears (rcO o_534 (by decide) rfl) rfl rfl (c_X12_bears hV (by omega) hc (fun I2 h f2 => kt_s ?_) (fun I2 h f2 => kt_s ?_))
    · refine s_ifeq (pc := 39) (tgt := 48) dX12_bearers_39 rfl (fun h39 => absurd h39 (by decide)) (fun h39 => ?_)
      refine m_ic (pc := 42) (v := 1) dX12_bearers_42 rfl ?_
      refine s_iload_n (pc := 43) (i := 3) dX12_bearers_43 rfl rfl ?_
      refine s_ishl (pc := 44) dX12_bearers_44 ?_
      refine s_goto (pc := 45) (tgt := 49) dX12_bearers_45 rfl ?_
      refine s_ior (pc := 49) dX12_bearers_49 ?_
      rw [bs_s1 (p := (fun b => brs D cs S b c 0)) (by omega) h]
      refine s_istore_n (pc := 50) (i := 2) dX12_bearers_50 rfl (Nat.le_of_ble_eq_true rfl) ?_
      dsimp only [List.set, List.filter]
      refine m_inc (pc := 51) (v := 1) dX12_bearers_51 rfl rfl ?_
      dsimp only [List.set, List.filter]
      rw [nI_1]
      refine s_goto (pc := 54) (tgt := 24) dX12_bearers_54 rfl ?_
      exact ih (i + 1) I2  (by omega) (fm_t hF f2)
    · refine s_ifeq (pc := 39) (tgt := 48) dX12_bearers_39 rfl (fun h39 => ?_) (fun h39 => absurd h39 (by decide))
      refine m_ic (pc := 48) (v := 0) dX12_bearers_48 rfl ?_
      refine s_ior (pc := 49) dX12_bearers_49 ?_
      rw [bs_s0 (p := (fun b => brs D cs S b c 0)) h]
      refine s_istore_n (pc := 50) (i := 2) dX12_bearers_50 rfl (Nat.le_of_ble_eq_true rfl) ?_
      dsimp only [List.set, List.filter]
      refine m_inc (pc := 51) (v := 1) dX12_bearers_51 rfl rfl ?_
      dsimp only [List.set, List.filter]
      rw [nI_1]
      refine s_goto (pc := 54) (tgt := 24) dX12_bearers_54 rfl ?_
      exact ih (i + 1) I2  (by omega) (fm_t hF f2)
theorem c_X12_bearers (hW : Wn I D cs S) {x : Int32} (r0 : ¬ iv 0 (cc D) x → Q (.inl (some (.int 0))) (Z (thr I 1 0) J n w)) (hg : ∀ c, x = nI c → c < cc D → ∀ I', km I I' → I' 534 0 = 0 → Q (.inl (some (.int (nI (bs (fun b => brs D cs S b c 0) (cb D)))))) (Z I' J n w)) : Cn g (d + 7) mX12_bearers [.ref 534, .int x] (Z I J n w) Q := by
  have hb7 := hW.2.1.1
  have hc12 := hW.2.1.2.1
  show Rn g (d + 7) mX12_bearers 0 [.ref 534, .int x, .retAddr 0, .retAddr 0] [] [] (Z I J n w) Q
  refine s_aload_n (pc := 0) (i := 0) dX12_bearers_0 rfl rfl ?_
  refine m_ic (pc := 1) (v := 0) dX12_bearers_1 rfl ?_
  refine m_pi (pc := 2) dX12_bearers_2 ff_X12_3 rfl rfl o_534 ?_
  refine s_aload_n (pc := 5) (i := 0) dX12_bearers_5 rfl rfl ?_
  refine s_iload_n (pc := 6) (i := 1) dX12_bearers_6 rfl rfl ?_
  refine m_ic (pc := 7) (v := 1) dX12_bearers_7 rfl ?_
  refine m_v2 (pc := 8) dX12_bearers_8 lk_X12_388 ok_X12_isCouncil (rcO o_534 (by decide) rfl) rfl rfl (c_X12_isCouncil (D := D) up_s ((up_n3 (by omega)).trans hW.1.2.1) hW.2.1 (by decide) (fun c ec hc => kt_s ?_) (fun z => kt_s ?_))
  · subst ec
    refine s_ifne (pc := 11) (tgt := 16) dX12_bearers_11 rfl (fun h11 => ?_) (fun h11 => absurd h11 (by decide))
    refine s_aload_n (pc := 16) (i := 0) dX12_bearers_16 rfl rfl ?_
    refine m_v0 (pc := 17) dX12_bearers_17 lk_X12_310 ok_X12_take (rcO o_534 (by decide) rfl) rfl rfl (c_X12_take (kt_v ?_))
    have hM := tk_W hW
    have hK := tk_k (I := I)
    have h00 := tk_0 (I := I)
    obtain ⟨I1, e1⟩ : ∃ z, z = cpI (up I 534 0 0) 549 550 126 := ⟨_, rfl⟩
    rw [← e1] at hM hK h00 ⊢
    refine m_ic (pc := 20) (v := 0) dX12_bearers_20 rfl ?_
    refine s_istore_n (pc := 21) (i := 2) dX12_bearers_21 rfl (Nat.le_of_ble_eq_true rfl) ?_
    dsimp only [List.set, List.filter]
    refine m_ic (pc := 22) (v := 0) dX12_bearers_22 rfl ?_
    refine s_istore_n (pc := 23) (i := 3) dX12_bearers_23 rfl (Nat.le_of_ble_eq_true rfl) ?_
    dsimp only [List.set, List.filter]
    exact mbea_lp hM hc (fun I' f => hg c rfl hc I' (km_t hK (km_m f)) ((fm_0 f).trans h00)) (cb D) 0 I1 (by omega) fm_r
  · refine s_ifne (pc := 11) (tgt := 16) dX12_bearers_11 rfl (fun h11 => absurd h11 (by decide)) (fun h11 => ?_)
    refine m_ic (pc := 14) (v := 0) dX12_bearers_14 rfl ?_
    refine s_ireturn (pc := 15) dX12_bearers_15 rfl rfl ?_
    rw [thr_0]
    exact r0  z
def psN (D : cD) (S : sD) : Nat → sD
  | 0 => S
  | k + 1 => pss D (psN D S k)
theorem psN_ok (h : sOk D S) : ∀ k, sOk D (psN D S k)
  | 0 => h
  | k + 1 => sOk_pss (psN_ok h k)
theorem psN_o : ∀ k, sF (psN D S k) = sF S ∧ sK (psN D S k) = sK S ∧ sH (psN D S k) = sH S ∧ sY (psN D S k) = sY S + k ∧ sN (psN D S k) = sN S
  | 0 => ⟨rfl, rfl, rfl, rfl, rfl⟩
  | k + 1 => by
    obtain ⟨h1, h2, h3, h4, h5⟩ := psN_o k
    obtain ⟨e1, e2, e3, e4, e5, e6, e7⟩ := psT_o (D := D) (S := psN D S k) (cb D)
    refine ⟨e1.trans h1, e4.trans h2, e7.trans h3, ?_, e5.trans h5⟩
    show sY (psN D S k) + 1 = _; rw [h4]; rfl
theorem psN_T (hb : b < cb D) : ∀ k, sT (psN D S k) b = tin D S b k
  | 0 => by unfold tin; rw [Nat.zero_mul]; rfl
  | k + 1 => by
    show sT (psT D (psN D S k) (cb D)) b = _
    rw [psT_T, if_pos hb]
    unfold tin
    rw [psN_T hb k]
    unfold tin
    rw [Nat.one_mul, Nat.sub_sub, Nat.add_mul, Nat.one_mul]
theorem tin_0 : tin D S b 0 = sT S b := by unfold tin; rw [Nat.zero_mul]; rfl
theorem kn_ps (k : Nat) : kn (psN D S k) b = kn S b := by unfold kn; rw [(psN_o k).2.1]
theorem bur_ps (hb : b < cb D) (k : Nat) : bur D cs (psN D S k) b c 0 = bur D cs S b c k := by
  unfold bur lod fct
  rw [tin_0, psN_T hb, kn_ps, (psN_o k).2.2.1, (psN_o k).2.2.2.1, Nat.add_zero]
theorem brs_ps (hb : b < cb D) (k : Nat) : brs D cs (psN D S k) b c 0 = brs D cs S b c k := by
  unfold brs
  rw [bur_ps hb, tin_0, psN_T hb, (psN_o k).1]
/-- the first day of those from i on at which he bears it -/
def vRdy (D : cD) (cs : List Nat) (S : sD) (b c : Nat) : Nat → Nat → Int32
  | 0, _ => -1
  | f + 1, i => if brs D cs S b c i = true then nI i else vRdy D cs S b c f (i + 1)
theorem rdy_lp (hW : Wc I 33 D cs S) (hb : b < cb D) (hc : c < cc D) : ∀ f i I1, i + f = 100 → fl I I1 → (∀ I', fl I I' → Q (.inl (some (.int (vRdy D cs S b c f i)))) (Z I' J n w)) → Rn g (d + 8) mX11_ready 12 [.ref 1, .int (nI b), .int (nI c), .int (nI i)] [] [] (Z I1 J n w) Q := by
  intro f
  induction f with
  | zero =>
    intro i I1 hi hF hq
    have e : 100 = i := by omega
    subst e
    refine s_iload_n (pc := 12) (i := 3) dX11_ready_12 rfl rfl ?_
    refine m_bi (pc := 13) (v := 99) dX11_ready_13 rfl ?_
    refine s_icgt (pc := 15) (tgt := 43) dX11_ready_15 rfl (fun h15 => ?_) (fun h15 => absurd (nI_lt (a := 99) (b := 100) (by omega) (by omega)) h15)
    refine m_ic (pc := 43) (v := -1) dX11_ready_43 rfl ?_
    refine s_ireturn (pc := 44) dX11_ready_44 rfl rfl ?_
    exact hq I1 hF
  | succ f ih =>
    intro i I1 hi hF hq
    have hV := Wc_fl hW (by decide) hF
    refine s_iload_n (pc := 12) (i := 3) dX11_ready_12 rfl rfl ?_
    refine m_bi (pc := 13) (v := 99) dX11_ready_13 rfl ?_
    refine s_icgt (pc := 15) (tgt := 43) dX11_ready_15 rfl (fun h15 => absurd h15 (nI_nlt (a := 99) (b := i) (by omega) (by omega))) (fun h15 => ?_)
    refine s_aload_n (pc := 18) (i := 0) dX11_ready_18 rfl rfl ?_
    refine m_gr (pc := 19) dX11_ready_19 ff_X11_58 rfl o_1 r_1_8 ?_
    refine s_aload_n (pc := 22) (i := 0) dX11_ready_22 rfl rfl ?_
    refine m_gr (pc := 23) dX11_ready_23 ff_X11_73 rfl o_1 r_1_10 ?_
    refine s_iload_n (pc := 26) (i := 1) dX11_ready_26 rfl rfl ?_
    refine s_iload_n (pc := 27) (i := 2) dX11_ready_27 rfl rfl ?_
    refine s_iload_n (pc := 28) (i := 3) dX11_ready_28 rfl rfl ?_
    refine m_v4 (pc := 29) dX11_ready_29 lk_X11_288 ok_X3_bearsIn (rcO o_31 (by decide) rfl) rfl rfl (c_X3_bearsIn (o := 33) sO_33 (by decide) hV hb hc (by omega) (fun I2 h f2 => kt_s ?_) (fun I2 h f2 => kt_s ?_))
    · refine s_ifeq (pc := 32) (tgt := 37) dX11_ready_32 rfl (fun h32 => absurd h32 (by decide)) (fun h32 => ?_)
      refine s_iload_n (pc := 35) (i := 3) dX11_ready_35 rfl rfl ?_
      refine s_ireturn (pc := 36) dX11_ready_36 rfl rfl ?_
      rw [vRdy, if_pos h] at hq
      exact hq I2 (fl_t hF f2)
    · rw [vRdy, if_neg (by rw [h]; decide)] at hq
      refine s_ifeq (pc := 32) (tgt := 37) dX11_ready_32 rfl (fun h32 => ?_) (fun h32 => absurd h32 (by decide))
      refine m_inc (pc := 37) (v := 1) dX11_ready_37 rfl rfl ?_
      dsimp only [List.set, List.filter]
      rw [nI_1]
      refine s_goto (pc := 40) (tgt := 12) dX11_ready_40 rfl ?_
      exact ih (i + 1) I2 (by omega) (fl_t hF f2) hq
theorem c_X11_ready (hW : Wc I 33 D cs S) (hn : n + 1 ≤ 600000 ∧ w + 6 ≤ 7000000) {x y : Int32} (r0 : ¬ iv 0 (cb D) x → Q (.inr 0) (Z (up I 1 17 (I 1 17 + 1)) J (n + 1) (w + 6))) (r1 : iv 0 (cb D) x → ¬ iv 0 (cc D) y → Q (.inr 0) (Z (up I 1 17 (I 1 17 + 1)) J (n + 1) (w + 6))) (hg : ∀ b, ∀ c, x = nI b → b < cb D → y = nI c → c < cc D → ∀ I', kc I I' → Q (.inl (some (.int (vRdy D cs S b c 100 0)))) (Z I' J n w)) : Cn g (d + 8) mX11_ready [.ref 1, .int x, .int y] (Z I J n w) Q := by
  have hb7 := hW.2.1.1
  have hc12 := hW.2.1.2.1
  show Rn g (d + 8) mX11_ready 0 [.ref 1, .int x, .int y, .retAddr 0] [] [] (Z I J n w) Q
  refine s_aload_n (pc := 0) (i := 0) dX11_ready_0 rfl rfl ?_
  refine s_iload_n (pc := 1) (i := 1) dX11_ready_1 rfl rfl ?_
  refine m_v1 (pc := 2) dX11_ready_2 lk_X11_214 ok_X11_needBack (rcO o_1 (by decide) rfl) rfl rfl (c_nb hW.1 hW.2.1 hn (fun b eb hb => kt_v ?_) (fun z => kt_x ?_))
  · subst eb
    refine s_aload_n (pc := 5) (i := 0) dX11_ready_5 rfl rfl ?_
    refine s_iload_n (pc := 6) (i := 2) dX11_ready_6 rfl rfl ?_
    refine m_v1 (pc := 7) dX11_ready_7 lk_X11_240 ok_X11_needCouncil (rcO o_1 (by decide) rfl) rfl rfl (c_nk hW.1 hW.2.1 hn (fun c ec hc => kt_v ?_) (fun z => kt_x ?_))
    · subst ec
      refine m_ic (pc := 10) (v := 0) dX11_ready_10 rfl ?_
      refine s_istore_n (pc := 11) (i := 3) dX11_ready_11 rfl (Nat.le_of_ble_eq_true rfl) ?_
      dsimp only [List.set, List.filter]
      exact rdy_lp hW hb hc 100 0 I (by omega) fl_r (fun I' f => hg b c rfl hb rfl hc I' (kc_l f))
    · exact r1 ⟨b, rfl, Nat.zero_le _, hb⟩ z
  · exact r0  z
theorem mrd_lp (hM : Wm I D cs S) (hb : b < cb D) (hc : c < cc D) : ∀ f i I1, i + f = 100 → fX I I1 → Sm (I1 550) (psN D S i) → (∀ I', fX I I' → Q (.inl (some (.int (vRdy D cs S b c f i)))) (Z I' J n w)) → Rn g (d + 7) mX12_ready 31 [.ref 534, .int (nI b), .int (nI c), .int (nI i)] [] [] (Z I1 J n w) Q := by
  intro f
  induction f with
  | zero =>
    intro i I1 hi hF hS hq
    have e : 100 = i := by omega
    subst e
    refine s_iload_n (pc := 31) (i := 3) dX12_ready_31 rfl rfl ?_
    refine m_bi (pc := 32) (v := 99) dX12_ready_32 rfl ?_
    refine s_icgt (pc := 34) (tgt := 58) dX12_ready_34 rfl (fun h34 => ?_) (fun h34 => absurd (nI_lt (a := 99) (b := 100) (by omega) (by omega)) h34)
    refine m_ic (pc := 58) (v := -1) dX12_ready_58 rfl ?_
    refine s_ireturn (pc := 59) dX12_ready_59 rfl rfl ?_
    exact hq I1 hF
  | succ f ih =>
    intro i I1 hi hF hS hq
    have hV := Wm_fX hM hF hS (psN_ok hM.2.2.2.2.2 i)
    refine s_iload_n (pc := 31) (i := 3) dX12_ready_31 rfl rfl ?_
    refine m_bi (pc := 32) (v := 99) dX12_ready_32 rfl ?_
    refine s_icgt (pc := 34) (tgt := 58) dX12_ready_34 rfl (fun h34 => absurd h34 (nI_nlt (a := 99) (b := i) (by omega) (by omega))) (fun h34 => ?_)
    refine s_aload_n (pc := 37) (i := 0) dX12_ready_37 rfl rfl ?_
    refine s_iload_n (pc := 38) (i := 1) dX12_ready_38 rfl rfl ?_
    refine s_iload_n (pc := 39) (i := 2) dX12_ready_39 rfl rfl ?_
    refine m_v2 (pc := 40) dX12_ready_40 lk_X12_391 ok_X12_bears (rcO o_534 (by decide) rfl) rfl rfl (c_X12_bears hV hb hc (fun I2 h f2 => kt_s ?_) (fun I2 h f2 => kt_s ?_))
    · rw [brs_ps hb] at h
      refine s_ifeq (pc := 43) (tgt := 48) dX12_ready_43 rfl (fun h43 => absurd h43 (by decide)) (fun h43 => ?_)
      refine s_iload_n (pc := 46) (i := 3) dX12_ready_46 rfl rfl ?_
      refine s_ireturn (pc := 47) dX12_ready_47 rfl rfl ?_
      rw [vRdy, if_pos h] at hq
      exact hq I2 (fX_t hF (fX_m f2))
    · rw [brs_ps hb] at h
      rw [vRdy, if_neg (by rw [h]; decide)] at hq
      refine s_ifeq (pc := 43) (tgt := 48) dX12_ready_43 rfl (fun h43 => ?_) (fun h43 => absurd h43 (by decide))
      refine s_aload_n (pc := 48) (i := 0) dX12_ready_48 rfl rfl ?_
      refine m_v0 (pc := 49) dX12_ready_49 lk_X12_367 ok_X12_passes (rcO o_534 (by decide) rfl) rfl rfl (c_X12_passes (Wm_fm hV f2) (fun I3 f3 s3 => kt_v ?_))
      refine m_inc (pc := 52) (v := 1) dX12_ready_52 rfl rfl ?_
      dsimp only [List.set, List.filter]
      rw [nI_1]
      refine s_goto (pc := 55) (tgt := 31) dX12_ready_55 rfl ?_
      exact ih (i + 1) I3 (by omega) (fX_t hF (fX_t (fX_m f2) f3)) s3 hq
theorem c_X12_ready (hW : Wn I D cs S) {x y : Int32} (r0 : ¬ iv 0 (cb D) x → Q (.inl (some (.int 0))) (Z (thr I 1 0) J n w)) (r1 : iv 0 (cb D) x → ¬ iv 0 (cc D) y → Q (.inl (some (.int 0))) (Z (thr I 1 0) J n w)) (hg : ∀ b, ∀ c, x = nI b → b < cb D → y = nI c → c < cc D → ∀ I', km I I' → I' 534 0 = 0 → Q (.inl (some (.int (vRdy D cs S b c 100 0)))) (Z I' J n w)) : Cn g (d + 7) mX12_ready [.ref 534, .int x, .int y] (Z I J n w) Q := by
  have hb7 := hW.2.1.1
  have hc12 := hW.2.1.2.1
  show Rn g (d + 7) mX12_ready 0 [.ref 534, .int x, .int y, .retAddr 0] [] [] (Z I J n w) Q
  refine s_aload_n (pc := 0) (i := 0) dX12_ready_0 rfl rfl ?_
  refine m_ic (pc := 1) (v := 0) dX12_ready_1 rfl ?_
  refine m_pi (pc := 2) dX12_ready_2 ff_X12_3 rfl rfl o_534 ?_
  refine s_aload_n (pc := 5) (i := 0) dX12_ready_5 rfl rfl ?_
  refine s_iload_n (pc := 6) (i := 1) dX12_ready_6 rfl rfl ?_
  refine m_ic (pc := 7) (v := 1) dX12_ready_7 rfl ?_
  refine m_v2 (pc := 8) dX12_ready_8 lk_X12_385 ok_X12_isBack (rcO o_534 (by decide) rfl) rfl rfl (c_X12_isBack (D := D) up_s ((up_n3 (by omega)).trans hW.1.1) hW.2.1 (by decide) (fun b eb hb => kt_s ?_) (fun z => kt_s ?_))
  · subst eb
    refine s_ifeq (pc := 11) (tgt := 23) dX12_ready_11 rfl (fun h11 => absurd h11 (by decide)) (fun h11 => ?_)
    refine s_aload_n (pc := 14) (i := 0) dX12_ready_14 rfl rfl ?_
    refine s_iload_n (pc := 15) (i := 2) dX12_ready_15 rfl rfl ?_
    refine m_ic (pc := 16) (v := 1) dX12_ready_16 rfl ?_
    refine m_v2 (pc := 17) dX12_ready_17 lk_X12_388 ok_X12_isCouncil (rcO o_534 (by decide) rfl) rfl rfl (c_X12_isCouncil (D := D) up_s ((up_n3 (by omega)).trans hW.1.2.1) hW.2.1 (by decide) (fun c ec hc => kt_s ?_) (fun z => kt_s ?_))
    · subst ec
      refine s_ifne (pc := 20) (tgt := 25) dX12_ready_20 rfl (fun h20 => ?_) (fun h20 => absurd h20 (by decide))
      refine s_aload_n (pc := 25) (i := 0) dX12_ready_25 rfl rfl ?_
      refine m_v0 (pc := 26) dX12_ready_26 lk_X12_310 ok_X12_take (rcO o_534 (by decide) rfl) rfl rfl (c_X12_take (kt_v ?_))
      have hM := tk_W hW
      have hK := tk_k (I := I)
      have h00 := tk_0 (I := I)
      obtain ⟨I1, e1⟩ : ∃ z, z = cpI (up I 534 0 0) 549 550 126 := ⟨_, rfl⟩
      rw [← e1] at hM hK h00 ⊢
      refine m_ic (pc := 29) (v := 0) dX12_ready_29 rfl ?_
      refine s_istore_n (pc := 30) (i := 3) dX12_ready_30 rfl (Nat.le_of_ble_eq_true rfl) ?_
      dsimp only [List.set, List.filter]
      exact mrd_lp hM hb hc 100 0 I1 (by omega) fX_r hM.2.2.2.2.1 (fun I' f => hg b c rfl hb rfl hc I' (km_t hK (km_X f)) ((fX_0 f).trans h00))
    · refine s_ifne (pc := 20) (tgt := 25) dX12_ready_20 rfl (fun h20 => absurd h20 (by decide)) (fun h20 => ?_)
      refine m_ic (pc := 23) (v := 0) dX12_ready_23 rfl ?_
      refine s_ireturn (pc := 24) dX12_ready_24 rfl rfl ?_
      rw [thr_0]
      exact r1 ⟨b, rfl, Nat.zero_le _, hb⟩ z
  · refine s_ifeq (pc := 11) (tgt := 23) dX12_ready_11 rfl (fun h11 => ?_) (fun h11 => absurd h11 (by decide))
    refine m_ic (pc := 23) (v := 0) dX12_ready_23 rfl ?_
    refine s_ireturn (pc := 24) dX12_ready_24 rfl rfl ?_
    rw [thr_0]
    exact r0  z
def vAhd (D : cD) (S : sD) (k q : Nat) : Int32 := if q = 0 then aI2 (fun b => nI (tin D S b k)) (cb D) else nI (bs (fun b => decide (tin D S b k = 0)) (cb D))
theorem ah_lp {q : Nat} (hW : Wc I 33 D cs S) (hk : k ≤ 1000) (hq2 : q < 2) (hq : Q (.inl (some (.int (vAhd D S k q)))) (Z I J n w)) : ∀ f i (v6 : Value), i + f = cb D → Rn g (d + 8) mX11_ahead 22 [.ref 1, .int (nI k), .int (nI q), .int (aI2 (fun b => nI (tin D S b k)) i), .int (nI (bs (fun b => decide (tin D S b k = 0)) i)), .int (nI i), v6] [] [] (Z I J n w) Q := by
  intro f
  induction f with
  | zero =>
    intro i v6 hi
    have e : cb D = i := by omega
    subst e
    have hb7 := hW.2.1.1
    refine s_iload (pc := 22) (i := 5) dX11_ahead_22 rfl ?_
    refine s_aload_n (pc := 24) (i := 0) dX11_ahead_24 rfl rfl ?_
    refine m_gr (pc := 25) dX11_ahead_25 ff_X11_19 rfl o_1 r_1_1 ?_
    refine m_gi (pc := 28) dX11_ahead_28 ff_X11_143 rfl o_4 ?_
    refine m_nm (v' := nI (cb D)) (hW.1.1) ?_
    refine s_icge (pc := 31) (tgt := 79) dX11_ahead_31 rfl (fun h31 => ?_) (fun h31 => absurd (nI_le (a := cb D) (b := (cb D)) (by omega) (by omega)) h31)
    refine s_iload_n (pc := 79) (i := 2) dX11_ahead_79 rfl rfl ?_
    refine s_ifne (pc := 80) (tgt := 87) dX11_ahead_80 rfl (fun h80 => ?_) (fun h80 => ?_)
    · have h80 : ¬ q = 0 := fun z => h80 ((nI_eq (a := q) (b := 0) (by omega) (by omega)).mpr z)
      refine s_iload (pc := 87) (i := 4) dX11_ahead_87 rfl ?_
      refine s_ireturn (pc := 89) dX11_ahead_89 rfl rfl ?_
      have E : vAhd D S k q = nI (bs (fun b => decide (tin D S b k = 0)) (cb D)) := if_neg h80
      rw [E] at hq; exact hq
    · have h80 : q = 0 := (nI_eq (a := q) (b := 0) (by omega) (by omega)).mp h80
      refine s_iload_n (pc := 83) (i := 3) dX11_ahead_83 rfl rfl ?_
      refine s_goto (pc := 84) (tgt := 89) dX11_ahead_84 rfl ?_
      refine s_ireturn (pc := 89) dX11_ahead_89 rfl rfl ?_
      have E : vAhd D S k q = aI2 (fun b => nI (tin D S b k)) (cb D) := if_pos h80
      rw [E] at hq; exact hq
  | succ f ih =>
    intro i v6 hi
    have hb7 := hW.2.1.1
    refine s_iload (pc := 22) (i := 5) dX11_ahead_22 rfl ?_
    refine s_aload_n (pc := 24) (i := 0) dX11_ahead_24 rfl rfl ?_
    refine m_gr (pc := 25) dX11_ahead_25 ff_X11_19 rfl o_1 r_1_1 ?_
    refine m_gi (pc := 28) dX11_ahead_28 ff_X11_143 rfl o_4 ?_
    refine m_nm (v' := nI (cb D)) (hW.1.1) ?_
    refine s_icge (pc := 31) (tgt := 79) dX11_ahead_31 rfl (fun h31 => absurd h31 (nI_ge (a := i) (b := cb D) (by omega) (by omega))) (fun h31 => ?_)
    refine s_aload_n (pc := 34) (i := 0) dX11_ahead_34 rfl rfl ?_
    refine m_gr (pc := 35) dX11_ahead_35 ff_X11_58 rfl o_1 r_1_8 ?_
    refine s_aload_n (pc := 38) (i := 0) dX11_ahead_38 rfl rfl ?_
    refine m_gr (pc := 39) dX11_ahead_39 ff_X11_73 rfl o_1 r_1_10 ?_
    refine s_iload (pc := 42) (i := 5) dX11_ahead_42 rfl ?_
    refine s_iload_n (pc := 44) (i := 1) dX11_ahead_44 rfl rfl ?_
    refine m_v3 (pc := 45) dX11_ahead_45 lk_X11_284 ok_X3_tiredIn (rcO o_31 (by decide) rfl) rfl rfl (c_X3_tiredIn (o := 33) sO_33 (by decide) hW (by omega) hk (kt_s ?_))
    have hT := (hW.2.2.2.2.2.1 i).1
    have hT2 : tin D S i k ≤ sT S i := Nat.sub_le _ _
    refine s_istore (pc := 48) (i := 6) dX11_ahead_48 (Nat.le_of_ble_eq_true rfl) ?_
    dsimp only [List.set, List.filter]
    refine s_iload_n (pc := 50) (i := 3) dX11_ahead_50 rfl rfl ?_
    refine s_iload (pc := 51) (i := 6) dX11_ahead_51 rfl ?_
    refine s_iadd (pc := 53) dX11_ahead_53 ?_
    refine m_nm (v' := aI2 (fun b => nI (tin D S b k)) (i + 1)) (rfl) ?_
    refine s_istore_n (pc := 54) (i := 3) dX11_ahead_54 rfl (Nat.le_of_ble_eq_true rfl) ?_
    dsimp only [List.set, List.filter]
    refine s_iload (pc := 55) (i := 4) dX11_ahead_55 rfl ?_
    refine s_iload (pc := 57) (i := 6) dX11_ahead_57 rfl ?_
    refine s_ifne (pc := 59) (tgt := 69) dX11_ahead_59 rfl (fun h59 => ?_) (fun h59 => ?_)
    · have h59 : ¬ (tin D S i k) = 0 := fun z => h59 ((nI_eq (a := tin D S i k) (b := 0) (by omega) (by omega)).mpr z)
      refine m_ic (pc := 69) (v := 0) dX11_ahead_69 rfl ?_
      refine s_ior (pc := 70) dX11_ahead_70 ?_
      rw [bs_s0 (p := (fun b => decide (tin D S b k = 0))) (decide_eq_false h59)]
      refine s_istore (pc := 71) (i := 4) dX11_ahead_71 (Nat.le_of_ble_eq_true rfl) ?_
      dsimp only [List.set, List.filter]
      refine m_inc (pc := 73) (v := 1) dX11_ahead_73 rfl rfl ?_
      dsimp only [List.set, List.filter]
      rw [nI_1]
      refine s_goto (pc := 76) (tgt := 22) dX11_ahead_76 rfl ?_
      exact ih (i + 1) _ (by omega)
    · have h59 : (tin D S i k) = 0 := (nI_eq (a := tin D S i k) (b := 0) (by omega) (by omega)).mp h59
      refine m_ic (pc := 62) (v := 1) dX11_ahead_62 rfl ?_
      refine s_iload (pc := 63) (i := 5) dX11_ahead_63 rfl ?_
      refine s_ishl (pc := 65) dX11_ahead_65 ?_
      refine s_goto (pc := 66) (tgt := 70) dX11_ahead_66 rfl ?_
      refine s_ior (pc := 70) dX11_ahead_70 ?_
      rw [bs_s1 (p := (fun b => decide (tin D S b k = 0))) (by omega) (decide_eq_true h59)]
      refine s_istore (pc := 71) (i := 4) dX11_ahead_71 (Nat.le_of_ble_eq_true rfl) ?_
      dsimp only [List.set, List.filter]
      refine m_inc (pc := 73) (v := 1) dX11_ahead_73 rfl rfl ?_
      dsimp only [List.set, List.filter]
      rw [nI_1]
      refine s_goto (pc := 76) (tgt := 22) dX11_ahead_76 rfl ?_
      exact ih (i + 1) _ (by omega)
theorem c_X11_ahead (hW : Wc I 33 D cs S) (hn : n + 1 ≤ 600000 ∧ w + 6 ≤ 7000000) {x y : Int32} (r0 : ¬ iv 0 (100) x → Q (.inr 1) (Z (up I 1 18 (I 1 18 + 1)) J (n + 1) (w + 6))) (r1 : iv 0 (100) x → ¬ iv 0 (2) y → Q (.inr 1) (Z (up I 1 18 (I 1 18 + 1)) J (n + 1) (w + 6))) (hg : ∀ k, ∀ q, x = nI k → k < 100 → y = nI q → q < 2 → ∀ I', kc I I' → Q (.inl (some (.int (vAhd D S k q)))) (Z I' J n w)) : Cn g (d + 8) mX11_ahead [.ref 1, .int x, .int y] (Z I J n w) Q := by
  have hb7 := hW.2.1.1
  have hc12 := hW.2.1.2.1
  show Rn g (d + 8) mX11_ahead 0 [.ref 1, .int x, .int y, .retAddr 0, .retAddr 0, .retAddr 0, .retAddr 0] [] [] (Z I J n w) Q
  refine s_aload_n (pc := 0) (i := 0) dX11_ahead_0 rfl rfl ?_
  refine s_iload_n (pc := 1) (i := 1) dX11_ahead_1 rfl rfl ?_
  refine m_ic (pc := 2) (v := 0) dX11_ahead_2 rfl ?_
  refine m_bi (pc := 3) (v := 99) dX11_ahead_3 rfl ?_
  refine m_v3 (pc := 5) dX11_ahead_5 lk_X11_267 ok_X11_needRange (rcO o_1 (by decide) rfl) rfl rfl (c_nr (lo := 0) (m := 100) rfl rfl (by omega) hn (fun k ek lk hk => kt_v ?_) (fun z => kt_x ?_))
  · subst ek
    refine s_aload_n (pc := 8) (i := 0) dX11_ahead_8 rfl rfl ?_
    refine s_iload_n (pc := 9) (i := 2) dX11_ahead_9 rfl rfl ?_
    refine m_ic (pc := 10) (v := 2) dX11_ahead_10 rfl ?_
    refine m_v2 (pc := 11) dX11_ahead_11 lk_X11_181 ok_X11_needWhat (rcO o_1 (by decide) rfl) rfl rfl (c_nw (m := 2) rfl (by decide) hn (fun q eq hq => kt_v ?_) (fun z => kt_x ?_))
    · subst eq
      refine m_ic (pc := 14) (v := 0) dX11_ahead_14 rfl ?_
      refine s_istore_n (pc := 15) (i := 3) dX11_ahead_15 rfl (Nat.le_of_ble_eq_true rfl) ?_
      dsimp only [List.set, List.filter]
      refine m_ic (pc := 16) (v := 0) dX11_ahead_16 rfl ?_
      refine s_istore (pc := 17) (i := 4) dX11_ahead_17 (Nat.le_of_ble_eq_true rfl) ?_
      dsimp only [List.set, List.filter]
      refine m_ic (pc := 19) (v := 0) dX11_ahead_19 rfl ?_
      refine s_istore (pc := 20) (i := 5) dX11_ahead_20 (Nat.le_of_ble_eq_true rfl) ?_
      dsimp only [List.set, List.filter]
      exact ah_lp hW (by omega) hq (hg k q rfl hk rfl hq I kc_r) (cb D) 0 _ (by omega)
    · exact r1 ⟨k, rfl, Nat.zero_le _, hk⟩ z
  · exact r0  z
theorem mah_l2 {v1 v2 : Value} (h17 : I 534 17 = nI (cb D)) (hk0 : cOk D) (hF0 : ∀ b, b < cb D → I 550 (84 + b) = nI (tin D S b k)) (hT : ∀ b, tin D S b k ≤ 270) (hq : Q (.inl (some (.int (nI (bs (fun b => decide (tin D S b k = 0)) (cb D)))))) (Z I J n w)) : ∀ f i, i + f = cb D → Rn g (d + 3) mX12_ahead 81 [.ref 534, v1, v2, .int (nI (bs (fun b => decide (tin D S b k = 0)) i)), .int (nI i)] [] [] (Z I J n w) Q := by
  intro f
  induction f with
  | zero =>
    intro i hi
    have e : cb D = i := by omega
    subst e
    have hb7 := hk0.1
    refine s_iload (pc := 81) (i := 4) dX12_ahead_81 rfl ?_
    refine s_aload_n (pc := 83) (i := 0) dX12_ahead_83 rfl rfl ?_
    refine m_gi (pc := 84) dX12_ahead_84 ff_X12_154 rfl o_534 ?_
    refine m_nm (v' := nI (cb D)) (h17) ?_
    refine s_icge (pc := 87) (tgt := 120) dX12_ahead_87 rfl (fun h87 => ?_) (fun h87 => absurd (nI_le (a := cb D) (b := (cb D)) (by omega) (by omega)) h87)
    refine s_iload_n (pc := 120) (i := 3) dX12_ahead_120 rfl rfl ?_
    refine s_ireturn (pc := 121) dX12_ahead_121 rfl rfl ?_
    exact hq
  | succ f ih =>
    intro i hi
    have hb7 := hk0.1
    refine s_iload (pc := 81) (i := 4) dX12_ahead_81 rfl ?_
    refine s_aload_n (pc := 83) (i := 0) dX12_ahead_83 rfl rfl ?_
    refine m_gi (pc := 84) dX12_ahead_84 ff_X12_154 rfl o_534 ?_
    refine m_nm (v' := nI (cb D)) (h17) ?_
    refine s_icge (pc := 87) (tgt := 120) dX12_ahead_87 rfl (fun h87 => absurd h87 (nI_ge (a := i) (b := cb D) (by omega) (by omega))) (fun h87 => ?_)
    have hTi := hT i
    refine s_iload_n (pc := 90) (i := 3) dX12_ahead_90 rfl rfl ?_
    refine s_aload_n (pc := 91) (i := 0) dX12_ahead_91 rfl rfl ?_
    refine m_gr (pc := 92) dX12_ahead_92 ff_X12_62 rfl o_534 r_534_37 ?_
    refine m_bi (pc := 95) (v := 84) dX12_ahead_95 rfl ?_
    refine s_iload (pc := 97) (i := 4) dX12_ahead_97 rfl ?_
    refine s_iadd (pc := 99) dX12_ahead_99 ?_
    refine m_nm (v' := nI (84 + i)) (nI_add 84 i) ?_
    refine m_ia (pc := 100) dX12_ahead_100 a_550 (vp_in_nI (n := 84 + i) (by omega) (by decide)) ?_
    refine m_nm (v' := nI (tin D S i k)) (rdI (j := 84 + i) (hF0 i (by omega)) (by omega)) ?_
    refine s_ifne (pc := 101) (tgt := 111) dX12_ahead_101 rfl (fun h101 => ?_) (fun h101 => ?_)
    · have h101 : ¬ (tin D S i k) = 0 := fun z => h101 ((nI_eq (a := tin D S i k) (b := 0) (by omega) (by omega)).mpr z)
      refine m_ic (pc := 111) (v := 0) dX12_ahead_111 rfl ?_
      refine s_ior (pc := 112) dX12_ahead_112 ?_
      rw [bs_s0 (p := (fun b => decide (tin D S b k = 0))) (decide_eq_false h101)]
      refine s_istore_n (pc := 113) (i := 3) dX12_ahead_113 rfl (Nat.le_of_ble_eq_true rfl) ?_
      dsimp only [List.set, List.filter]
      refine m_inc (pc := 114) (v := 1) dX12_ahead_114 rfl rfl ?_
      dsimp only [List.set, List.filter]
      rw [nI_1]
      refine s_goto (pc := 117) (tgt := 81) dX12_ahead_117 rfl ?_
      exact ih (i + 1)  (by omega)
    · have h101 : (tin D S i k) = 0 := (nI_eq (a := tin D S i k) (b := 0) (by omega) (by omega)).mp h101
      refine m_ic (pc := 104) (v := 1) dX12_ahead_104 rfl ?_
      refine s_iload (pc := 105) (i := 4) dX12_ahead_105 rfl ?_
      refine s_ishl (pc := 107) dX12_ahead_107 ?_
      refine s_goto (pc := 108) (tgt := 112) dX12_ahead_108 rfl ?_
      refine s_ior (pc := 112) dX12_ahead_112 ?_
      rw [bs_s1 (p := (fun b => decide (tin D S b k = 0))) (by omega) (decide_eq_true h101)]
      refine s_istore_n (pc := 113) (i := 3) dX12_ahead_113 rfl (Nat.le_of_ble_eq_true rfl) ?_
      dsimp only [List.set, List.filter]
      refine m_inc (pc := 114) (v := 1) dX12_ahead_114 rfl rfl ?_
      dsimp only [List.set, List.filter]
      rw [nI_1]
      refine s_goto (pc := 117) (tgt := 81) dX12_ahead_117 rfl ?_
      exact ih (i + 1)  (by omega)
theorem mah_lp {q : Nat} (hM : Wm I D cs S) (hk : k ≤ 99) (hq2 : q < 2) (hq : ∀ I', fX I I' → Q (.inl (some (.int (vAhd D S k q)))) (Z I' J n w)) : ∀ f i I1 (v4 : Value), i + f = k → fX I I1 → Sm (I1 550) (psN D S i) → Rn g (d + 3) mX12_ahead 46 [.ref 534, .int (nI k), .int (nI q), .int (nI i), v4] [] [] (Z I1 J n w) Q := by
  intro f
  induction f with
  | zero =>
    intro i I1 v4 hi hF hS
    have e : k = i := by omega
    subst e
    have hb7 := hM.2.1.1
    have hV := Wm_fX hM hF hS (psN_ok hM.2.2.2.2.2 k)
    have hF0 : ∀ b, b < cb D → I1 550 (84 + b) = nI (tin D S b k) := fun b hb => by rw [(hS.1 b (by omega)).1, psN_T hb]
    have hT : ∀ b, tin D S b k ≤ 270 := fun b => Nat.le_trans (Nat.sub_le _ _) (hM.2.2.2.2.2.1 b).1
    refine s_iload_n (pc := 46) (i := 3) dX12_ahead_46 rfl rfl ?_
    refine s_iload_n (pc := 47) (i := 1) dX12_ahead_47 rfl rfl ?_
    refine s_icge (pc := 48) (tgt := 61) dX12_ahead_48 rfl (fun h48 => ?_) (fun h48 => absurd (nI_le (a := k) (b := k) (by omega) (by omega)) h48)
    refine s_iload_n (pc := 61) (i := 2) dX12_ahead_61 rfl rfl ?_
    refine s_ifne (pc := 62) (tgt := 76) dX12_ahead_62 rfl (fun h62 => ?_) (fun h62 => ?_)
    · have h62 : ¬ q = 0 := fun z => h62 ((nI_eq (a := q) (b := 0) (by omega) (by omega)).mpr z)
      refine m_ic (pc := 76) (v := 0) dX12_ahead_76 rfl ?_
      refine s_istore_n (pc := 77) (i := 3) dX12_ahead_77 rfl (Nat.le_of_ble_eq_true rfl) ?_
      dsimp only [List.set, List.filter]
      refine m_ic (pc := 78) (v := 0) dX12_ahead_78 rfl ?_
      refine s_istore (pc := 79) (i := 4) dX12_ahead_79 (Nat.le_of_ble_eq_true rfl) ?_
      dsimp only [List.set, List.filter]
      have E : vAhd D S k q = nI (bs (fun b => decide (tin D S b k = 0)) (cb D)) := if_neg h62
      rw [E] at hq
      exact mah_l2 hV.1.1 hM.2.1 hF0 hT (hq I1 hF) (cb D) 0 (by omega)
    · have h62 : q = 0 := (nI_eq (a := q) (b := 0) (by omega) (by omega)).mp h62
      refine s_aload_n (pc := 65) (i := 0) dX12_ahead_65 rfl rfl ?_
      refine m_bi (pc := 66) (v := 84) dX12_ahead_66 rfl ?_
      refine s_aload_n (pc := 68) (i := 0) dX12_ahead_68 rfl rfl ?_
      refine m_gi (pc := 69) dX12_ahead_69 ff_X12_154 rfl o_534 ?_
      refine m_nm (v' := nI (cb D)) (hV.1.1) ?_
      refine m_v2 (pc := 72) dX12_ahead_72 lk_X12_376 ok_X12_sumOf (rcO o_534 (by decide) rfl) rfl rfl (c_X12_sumOf (q := 84) (m := cb D) (F0 := (fun b => nI (tin D S b k))) rfl rfl (by omega) hF0 (kt_s ?_))
      refine s_ireturn (pc := 75) dX12_ahead_75 rfl rfl ?_
      have E : vAhd D S k q = aI2 (fun b => nI (tin D S b k)) (cb D) := if_pos h62
      rw [E] at hq; exact hq I1 hF
  | succ f ih =>
    intro i I1 v4 hi hF hS
    have hV := Wm_fX hM hF hS (psN_ok hM.2.2.2.2.2 i)
    refine s_iload_n (pc := 46) (i := 3) dX12_ahead_46 rfl rfl ?_
    refine s_iload_n (pc := 47) (i := 1) dX12_ahead_47 rfl rfl ?_
    refine s_icge (pc := 48) (tgt := 61) dX12_ahead_48 rfl (fun h48 => absurd h48 (nI_ge (a := i) (b := k) (by omega) (by omega))) (fun h48 => ?_)
    refine s_aload_n (pc := 51) (i := 0) dX12_ahead_51 rfl rfl ?_
    refine m_v0 (pc := 52) dX12_ahead_52 lk_X12_367 ok_X12_passes (rcO o_534 (by decide) rfl) rfl rfl (c_X12_passes hV (fun I3 f3 s3 => kt_v ?_))
    refine m_inc (pc := 55) (v := 1) dX12_ahead_55 rfl rfl ?_
    dsimp only [List.set, List.filter]
    rw [nI_1]
    refine s_goto (pc := 58) (tgt := 46) dX12_ahead_58 rfl ?_
    exact ih (i + 1) I3 _ (by omega) (fX_t hF f3) s3
theorem c_X12_ahead (hW : Wn I D cs S) {x y : Int32} (r0 : ¬ iv 0 (100) x → Q (.inl (some (.int 0))) (Z (thr I 1 1) J n w)) (r1 : iv 0 (100) x → ¬ iv 0 (2) y → Q (.inl (some (.int 0))) (Z (thr I 1 1) J n w)) (hg : ∀ k, ∀ q, x = nI k → k < 100 → y = nI q → q < 2 → ∀ I', km I I' → I' 534 0 = 0 → Q (.inl (some (.int (vAhd D S k q)))) (Z I' J n w)) : Cn g (d + 3) mX12_ahead [.ref 534, .int x, .int y] (Z I J n w) Q := by
  have hb7 := hW.2.1.1
  have hc12 := hW.2.1.2.1
  show Rn g (d + 3) mX12_ahead 0 [.ref 534, .int x, .int y, .retAddr 0, .retAddr 0] [] [] (Z I J n w) Q
  refine s_aload_n (pc := 0) (i := 0) dX12_ahead_0 rfl rfl ?_
  refine m_ic (pc := 1) (v := 0) dX12_ahead_1 rfl ?_
  refine m_pi (pc := 2) dX12_ahead_2 ff_X12_3 rfl rfl o_534 ?_
  refine s_aload_n (pc := 5) (i := 0) dX12_ahead_5 rfl rfl ?_
  refine s_iload_n (pc := 6) (i := 1) dX12_ahead_6 rfl rfl ?_
  refine m_ic (pc := 7) (v := 0) dX12_ahead_7 rfl ?_
  refine m_bi (pc := 8) (v := 99) dX12_ahead_8 rfl ?_
  refine m_s3 (pc := 10) dX12_ahead_10 lk_X12_373 ok_X12_within rfl rfl (c_win (lo := 0) (m := 100) rfl rfl (by omega) (fun k ek lk hk => kt_s ?_) (fun z => kt_s ?_))
  · subst ek
    refine s_ifeq (pc := 13) (tgt := 29) dX12_ahead_13 rfl (fun h13 => absurd h13 (by decide)) (fun h13 => ?_)
    refine s_iload_n (pc := 16) (i := 2) dX12_ahead_16 rfl rfl ?_
    refine m_ic (pc := 17) (v := 0) dX12_ahead_17 rfl ?_
    refine m_ic (pc := 18) (v := 1) dX12_ahead_18 rfl ?_
    refine m_s3 (pc := 19) dX12_ahead_19 lk_X12_373 ok_X12_within rfl rfl (c_win (lo := 0) (m := 2) rfl rfl (by omega) (fun q eq lq hq => kt_s ?_) (fun z => kt_s ?_))
    · subst eq
      refine s_ifeq (pc := 22) (tgt := 29) dX12_ahead_22 rfl (fun h22 => absurd h22 (by decide)) (fun h22 => ?_)
      refine m_ic (pc := 25) (v := 1) dX12_ahead_25 rfl ?_
      refine s_goto (pc := 26) (tgt := 30) dX12_ahead_26 rfl ?_
      refine m_ic (pc := 30) (v := 1) dX12_ahead_30 rfl ?_
      refine m_ic (pc := 31) (v := 1) dX12_ahead_31 rfl ?_
      refine m_v3 (pc := 32) dX12_ahead_32 lk_X12_192 ok_X12_may (rcO o_534 (by decide) rfl) rfl rfl (c_may1 (k := 1) (by decide) rfl up_s (by decide) (kt_s ?_))
      · refine s_ifne (pc := 35) (tgt := 40) dX12_ahead_35 rfl (fun h35 => ?_) (fun h35 => absurd h35 (by decide))
        refine s_aload_n (pc := 40) (i := 0) dX12_ahead_40 rfl rfl ?_
        refine m_v0 (pc := 41) dX12_ahead_41 lk_X12_310 ok_X12_take (rcO o_534 (by decide) rfl) rfl rfl (c_X12_take (kt_v ?_))
        have hM := tk_W hW
        have hK := tk_k (I := I)
        have h00 := tk_0 (I := I)
        obtain ⟨I1, e1⟩ : ∃ z, z = cpI (up I 534 0 0) 549 550 126 := ⟨_, rfl⟩
        rw [← e1] at hM hK h00 ⊢
        refine m_ic (pc := 44) (v := 0) dX12_ahead_44 rfl ?_
        refine s_istore_n (pc := 45) (i := 3) dX12_ahead_45 rfl (Nat.le_of_ble_eq_true rfl) ?_
        dsimp only [List.set, List.filter]
        exact mah_lp hM (by omega) hq (fun I' f => hg k q rfl hk rfl hq I' (km_t hK (km_X f)) ((fX_0 f).trans h00)) k 0 I1 _ (by omega) fX_r hM.2.2.2.2.1
    · refine s_ifeq (pc := 22) (tgt := 29) dX12_ahead_22 rfl (fun h22 => ?_) (fun h22 => absurd h22 (by decide))
      refine m_ic (pc := 29) (v := 0) dX12_ahead_29 rfl ?_
      refine m_ic (pc := 30) (v := 1) dX12_ahead_30 rfl ?_
      refine m_ic (pc := 31) (v := 1) dX12_ahead_31 rfl ?_
      refine m_v3 (pc := 32) dX12_ahead_32 lk_X12_192 ok_X12_may (rcO o_534 (by decide) rfl) rfl rfl (c_may0 (k := 1) (by decide) rfl up_s (by decide) (kt_s ?_))
      · refine s_ifne (pc := 35) (tgt := 40) dX12_ahead_35 rfl (fun h35 => absurd h35 (by decide)) (fun h35 => ?_)
        refine m_ic (pc := 38) (v := 0) dX12_ahead_38 rfl ?_
        refine s_ireturn (pc := 39) dX12_ahead_39 rfl rfl ?_
        rw [thr_0]
        exact r1 ⟨k, rfl, Nat.zero_le _, hk⟩ z
  · refine s_ifeq (pc := 13) (tgt := 29) dX12_ahead_13 rfl (fun h13 => ?_) (fun h13 => absurd h13 (by decide))
    refine m_ic (pc := 29) (v := 0) dX12_ahead_29 rfl ?_
    refine m_ic (pc := 30) (v := 1) dX12_ahead_30 rfl ?_
    refine m_ic (pc := 31) (v := 1) dX12_ahead_31 rfl ?_
    refine m_v3 (pc := 32) dX12_ahead_32 lk_X12_192 ok_X12_may (rcO o_534 (by decide) rfl) rfl rfl (c_may0 (k := 1) (by decide) rfl up_s (by decide) (kt_s ?_))
    · refine s_ifne (pc := 35) (tgt := 40) dX12_ahead_35 rfl (fun h35 => absurd h35 (by decide)) (fun h35 => ?_)
      refine m_ic (pc := 38) (v := 0) dX12_ahead_38 rfl ?_
      refine s_ireturn (pc := 39) dX12_ahead_39 rfl rfl ?_
      rw [thr_0]
      exact r0  z
end S
