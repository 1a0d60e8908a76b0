section S
variable {g : aG} {d : Nat} {I : Nat → Nat → Int32} {J : Nat → Nat → Int64} {n w : Nat} {Q : aO → aS → Prop}
variable {σ : aS} {S : sD} {D : cD} {cs : List Nat} {b c k : Nat}
theorem c_X12_isReign {y z : Int32} (h1 : ¬ iv 0 17 y → Q (.inl (some (.int 0))) σ) (h2 : iv 0 17 y → ¬ iv 1 49 z → Q (.inl (some (.int 0))) σ) (hg : ∀ q m, y = nI q → q < 17 → z = nI m → 1 ≤ m → m < 49 → Q (.inl (some (.int 1))) σ) : Cn g (d + 0) mX12_isReign [.int y, .int z] σ Q := by
  have e1 := iv_of (lo := 0) (m := 17) (x := y) (l := 0) (h := 16) rfl rfl (by decide)
  have e2 := iv_of (lo := 1) (m := 49) (x := z) (l := 1) (h := 48) rfl rfl (by decide)
  show Rn g (d + 0) mX12_isReign 0 [.int y, .int z] [] [] σ Q
  refine s_iload_n (pc := 0) (i := 0) dX12_isReign_0 rfl rfl ?_
  refine s_iflt (pc := 1) (tgt := 25) dX12_isReign_1 rfl (fun a1 => ?_) (fun a1 => ?_)
  · skip
    refine m_ic (pc := 25) (v := 0) dX12_isReign_25 rfl ?_
    refine s_ireturn (pc := 26) dX12_isReign_26 rfl rfl ?_
    exact h1 (fun u => absurd (e1.mpr u).1 (Int32.not_le.mpr a1))
  · skip
    refine s_iload_n (pc := 4) (i := 0) dX12_isReign_4 rfl rfl ?_
    refine m_bi (pc := 5) (v := 16) dX12_isReign_5 rfl ?_
    refine s_icgt (pc := 7) (tgt := 25) dX12_isReign_7 rfl (fun a2 => ?_) (fun a2 => ?_)
    · skip
      refine m_ic (pc := 25) (v := 0) dX12_isReign_25 rfl ?_
      refine s_ireturn (pc := 26) dX12_isReign_26 rfl rfl ?_
      exact h1 (fun u => absurd (e1.mpr u).2 (Int32.not_le.mpr a2))
    · have i1 := e1.mp ⟨Int32.not_lt.mp a1, Int32.not_lt.mp a2⟩
      refine s_iload_n (pc := 10) (i := 1) dX12_isReign_10 rfl rfl ?_
      refine m_ic (pc := 11) (v := 1) dX12_isReign_11 rfl ?_
      refine s_iclt (pc := 12) (tgt := 25) dX12_isReign_12 rfl (fun a3 => ?_) (fun a3 => ?_)
      · skip
        refine m_ic (pc := 25) (v := 0) dX12_isReign_25 rfl ?_
        refine s_ireturn (pc := 26) dX12_isReign_26 rfl rfl ?_
        exact h2 i1 (fun u => absurd (e2.mpr u).1 (Int32.not_le.mpr a3))
      · skip
        refine s_iload_n (pc := 15) (i := 1) dX12_isReign_15 rfl rfl ?_
        refine m_bi (pc := 16) (v := 48) dX12_isReign_16 rfl ?_
        refine s_icgt (pc := 18) (tgt := 25) dX12_isReign_18 rfl (fun a4 => ?_) (fun a4 => ?_)
        · skip
          refine m_ic (pc := 25) (v := 0) dX12_isReign_25 rfl ?_
          refine s_ireturn (pc := 26) dX12_isReign_26 rfl rfl ?_
          exact h2 i1 (fun u => absurd (e2.mpr u).2 (Int32.not_le.mpr a4))
        · obtain ⟨q, u1, u2, u3⟩ := i1
          obtain ⟨m, u4, u5, u6⟩ := e2.mp ⟨Int32.not_lt.mp a3, Int32.not_lt.mp a4⟩
          refine m_ic (pc := 21) (v := 1) dX12_isReign_21 rfl ?_
          refine s_goto (pc := 22) (tgt := 26) dX12_isReign_22 rfl ?_
          refine s_ireturn (pc := 26) dX12_isReign_26 rfl rfl ?_
          exact hg q m u1 u3 u4 u5 u6
def vRg (R : rD) (a : Nat) : Int32 := if a = 0 then nI R.2.1 else if a = 1 then nI (bs (sF R.2.2) 7) else if a = 2 then aI2 (fun b => nI (sT R.2.2 b)) 7 else oI (fun b => nI (bs (fun c => (sK R.2.2 b c).isSome) 12)) 7
theorem kc_R {I' : Nat → Nat → Int32} (h : fR I I') : kc I I' := fun y j a => h y j (by unfold kS at a; omega) (by unfold kS at a; omega) (by unfold kS at a; omega)
theorem c_X11_reign (hW : Wc I 33 D cs S) (hn : n + 1 ≤ 600000 ∧ w + 6 ≤ 7000000) {x y z u : Int32} (r0 : ¬ iv 0 (17) y → Q (.inr 1) (Z (up I 1 18 (I 1 18 + 1)) J (n + 1) (w + 6))) (r1 : iv 0 (17) y → ¬ iv 1 (49) z → Q (.inr 1) (Z (up I 1 18 (I 1 18 + 1)) J (n + 1) (w + 6))) (r2 : iv 0 (17) y → iv 1 (49) z → ¬ iv 0 (4) u → Q (.inr 1) (Z (up I 1 18 (I 1 18 + 1)) J (n + 1) (w + 6))) (hg : ∀ q, ∀ m, ∀ a, y = nI q → q < 17 → z = nI m → 1 ≤ m → m < 49 → u = nI a → a < 4 → ∀ I', kc I I' → Q (.inl (some (.int (vRg (rgn D cs q m (x, 0, S)) a)))) (Z I' J n w)) : Cn g (d + 9) mX11_reign [.ref 1, .int x, .int y, .int z, .int u] (Z I J n w) Q := by
  have hb7 := hW.2.1.1
  have hc12 := hW.2.1.2.1
  show Rn g (d + 9) mX11_reign 0 [.ref 1, .int x, .int y, .int z, .int u] [] [] (Z I J n w) Q
  refine s_aload_n (pc := 0) (i := 0) dX11_reign_0 rfl rfl ?_
  refine s_iload_n (pc := 1) (i := 2) dX11_reign_1 rfl rfl ?_
  refine m_ic (pc := 2) (v := 0) dX11_reign_2 rfl ?_
  refine m_bi (pc := 3) (v := 16) dX11_reign_3 rfl ?_
  refine m_v3 (pc := 5) dX11_reign_5 lk_X11_267 ok_X11_needRange (rcO o_1 (by decide) rfl) rfl rfl (c_nr (lo := 0) (m := 17) rfl rfl (by omega) hn (fun q eq lq hq => kt_v ?_) (fun z => kt_x ?_))
  · subst eq
    refine s_aload_n (pc := 8) (i := 0) dX11_reign_8 rfl rfl ?_
    refine s_iload_n (pc := 9) (i := 3) dX11_reign_9 rfl rfl ?_
    refine m_ic (pc := 10) (v := 1) dX11_reign_10 rfl ?_
    refine m_bi (pc := 11) (v := 48) dX11_reign_11 rfl ?_
    refine m_v3 (pc := 13) dX11_reign_13 lk_X11_267 ok_X11_needRange (rcO o_1 (by decide) rfl) rfl rfl (c_nr (lo := 1) (m := 49) rfl rfl (by omega) hn (fun m em lm hm => kt_v ?_) (fun z => kt_x ?_))
    · subst em
      refine s_aload_n (pc := 16) (i := 0) dX11_reign_16 rfl rfl ?_
      refine s_iload (pc := 17) (i := 4) dX11_reign_17 rfl ?_
      refine m_ic (pc := 19) (v := 4) dX11_reign_19 rfl ?_
      refine m_v2 (pc := 20) dX11_reign_20 lk_X11_181 ok_X11_needWhat (rcO o_1 (by decide) rfl) rfl rfl (c_nw (m := 4) rfl (by decide) hn (fun a ea ha => kt_v ?_) (fun z => kt_x ?_))
      · subst ea
        refine s_aload_n (pc := 23) (i := 0) dX11_reign_23 rfl rfl ?_
        refine m_gr (pc := 24) dX11_reign_24 ff_X11_99 rfl o_1 r_1_14 ?_
        refine s_aload_n (pc := 27) (i := 0) dX11_reign_27 rfl rfl ?_
        refine m_gr (pc := 28) dX11_reign_28 ff_X11_73 rfl o_1 r_1_10 ?_
        refine s_iload_n (pc := 31) (i := 1) dX11_reign_31 rfl rfl ?_
        refine s_iload_n (pc := 32) (i := 2) dX11_reign_32 rfl rfl ?_
        refine s_iload_n (pc := 33) (i := 3) dX11_reign_33 rfl rfl ?_
        refine m_v4 (pc := 34) dX11_reign_34 lk_X11_373 ok_X7_run (rcO o_526 (by decide) rfl) rfl rfl (c_X7_run hW (by omega) (by omega) (fun I1 f1 h1 => kt_v ?_))
        · obtain ⟨I0, h1⟩ := h1
          obtain ⟨R, eR⟩ : ∃ z, z = (rgn D cs q m (x, 0, S)) := ⟨_, rfl⟩
          replace hg := hg q m
          rw [← eR] at h1 hg
          rcases (show a = 0 ∨ a = 1 ∨ a = 2 ∨ a = 3 from by omega) with qe | qe | qe | qe
          · subst qe
            refine s_iload (pc := 37) (i := 4) dX11_reign_37 rfl ?_
            refine s_tabIn (pc := 39) (tgt := 64) dX11_reign_39 (by decide) (by decide) rfl rfl ?_
            refine s_aload_n (pc := 64) (i := 0) dX11_reign_64 rfl rfl ?_
            refine m_gr (pc := 65) dX11_reign_65 ff_X11_99 rfl o_1 r_1_14 ?_
            refine m_gi (pc := 68) dX11_reign_68 ff_X11_377 rfl o_526 ?_
            refine m_nm (v' := nI R.2.1) (h1.2.2.2.1) ?_
            refine s_ireturn (pc := 71) dX11_reign_71 rfl rfl ?_
            exact hg 0 rfl hq rfl lm hm rfl (by decide) I1 (kc_R f1)
          · subst qe
            refine s_iload (pc := 37) (i := 4) dX11_reign_37 rfl ?_
            refine s_tabIn (pc := 39) (tgt := 72) dX11_reign_39 (by decide) (by decide) rfl rfl ?_
            refine s_aload_n (pc := 72) (i := 0) dX11_reign_72 rfl rfl ?_
            refine m_gr (pc := 73) dX11_reign_73 ff_X11_99 rfl o_1 r_1_14 ?_
            refine m_gr (pc := 76) dX11_reign_76 ff_X11_380 rfl o_526 r_526_1 ?_
            refine m_gi (pc := 79) dX11_reign_79 ff_X11_198 rfl o_527 ?_
            refine m_nm (v' := nI (bs (sF R.2.2) 7)) (h1.2.1.2.2.2.2.1.2.2.2.1) ?_
            refine s_ireturn (pc := 82) dX11_reign_82 rfl rfl ?_
            exact hg 1 rfl hq rfl lm hm rfl (by decide) I1 (kc_R f1)
          · subst qe
            refine s_iload (pc := 37) (i := 4) dX11_reign_37 rfl ?_
            refine s_tabIn (pc := 39) (tgt := 83) dX11_reign_39 (by decide) (by decide) rfl rfl ?_
            refine s_aload_n (pc := 83) (i := 0) dX11_reign_83 rfl rfl ?_
            refine m_gr (pc := 84) dX11_reign_84 ff_X11_99 rfl o_1 r_1_14 ?_
            refine m_gr (pc := 87) dX11_reign_87 ff_X11_380 rfl o_526 r_526_1 ?_
            refine m_v0 (pc := 90) dX11_reign_90 lk_X11_201 ok_X9_tiredTogether (rcO o_527 (by decide) rfl) rfl rfl (c_X9_tiredTogether sO_527 h1.2.1.2.2.2.2.1 (kt_s ?_))
            refine s_ireturn (pc := 93) dX11_reign_93 rfl rfl ?_
            exact hg 2 rfl hq rfl lm hm rfl (by decide) I1 (kc_R f1)
          · subst qe
            refine s_iload (pc := 37) (i := 4) dX11_reign_37 rfl ?_
            refine s_tabOut (pc := 39) (tgt := 94) dX11_reign_39 (by decide) rfl ?_
            refine s_aload_n (pc := 94) (i := 0) dX11_reign_94 rfl rfl ?_
            refine m_gr (pc := 95) dX11_reign_95 ff_X11_99 rfl o_1 r_1_14 ?_
            refine m_gr (pc := 98) dX11_reign_98 ff_X11_380 rfl o_526 r_526_1 ?_
            refine m_v0 (pc := 101) dX11_reign_101 lk_X11_207 ok_X9_knownByAny (rcO o_527 (by decide) rfl) rfl rfl (c_X9_knownByAny sO_527 h1.2.1.2.2.2.2.1 (kt_s ?_))
            refine s_ireturn (pc := 104) dX11_reign_104 rfl rfl ?_
            exact hg 3 rfl hq rfl lm hm rfl (by decide) I1 (kc_R f1)
      · exact r2 ⟨q, rfl, Nat.zero_le _, hq⟩ ⟨m, rfl, lm, hm⟩ z
    · exact r1 ⟨q, rfl, Nat.zero_le _, hq⟩ z
  · exact r0  z
theorem c_X12_reign (hW : Wn I D cs S) {x y z u : Int32} (r0 : ¬ iv 0 (17) y → Q (.inl (some (.int 0))) (Z (thr I 1 1) J n w)) (r1 : iv 0 (17) y → ¬ iv 1 (49) z → Q (.inl (some (.int 0))) (Z (thr I 1 1) J n w)) (r2 : iv 0 (17) y → iv 1 (49) z → ¬ iv 0 (4) u → Q (.inl (some (.int 0))) (Z (thr I 1 1) J n w)) (hg : ∀ q, ∀ m, ∀ a, y = nI q → q < 17 → z = nI m → 1 ≤ m → m < 49 → u = nI a → a < 4 → ∀ I', km I I' → I' 534 0 = 0 → Q (.inl (some (.int (vRg (rgn D cs q m (x, 0, S)) a)))) (Z I' J n w)) : Cn g (d + 8) mX12_reign [.ref 534, .int x, .int y, .int z, .int u] (Z I J n w) Q := by
  have hb7 := hW.2.1.1
  have hc12 := hW.2.1.2.1
  show Rn g (d + 8) mX12_reign 0 [.ref 534, .int x, .int y, .int z, .int u] [] [] (Z I J n w) Q
  refine s_aload_n (pc := 0) (i := 0) dX12_reign_0 rfl rfl ?_
  refine m_ic (pc := 1) (v := 0) dX12_reign_1 rfl ?_
  refine m_pi (pc := 2) dX12_reign_2 ff_X12_3 rfl rfl o_534 ?_
  refine s_aload_n (pc := 5) (i := 0) dX12_reign_5 rfl rfl ?_
  refine s_iload_n (pc := 6) (i := 2) dX12_reign_6 rfl rfl ?_
  refine s_iload_n (pc := 7) (i := 3) dX12_reign_7 rfl rfl ?_
  refine m_s2 (pc := 8) dX12_reign_8 lk_X12_453 ok_X12_isReign rfl rfl (c_X12_isReign (fun z => kt_s ?_) (fun i1 z => kt_s ?_) (fun q m eq hq em lm hm => kt_s ?_))
  · refine s_ifeq (pc := 11) (tgt := 28) dX12_reign_11 rfl (fun h11 => ?_) (fun h11 => absurd h11 (by decide))
    refine m_ic (pc := 28) (v := 0) dX12_reign_28 rfl ?_
    refine m_ic (pc := 29) (v := 1) dX12_reign_29 rfl ?_
    refine m_ic (pc := 30) (v := 1) dX12_reign_30 rfl ?_
    refine m_v3 (pc := 31) dX12_reign_31 lk_X12_192 ok_X12_may (rcO o_534 (by decide) rfl) rfl rfl (c_may0 (k := 1) (by decide) rfl up_s (by decide) (kt_s ?_))
    · refine s_ifne (pc := 34) (tgt := 39) dX12_reign_34 rfl (fun h34 => absurd h34 (by decide)) (fun h34 => ?_)
      refine m_ic (pc := 37) (v := 0) dX12_reign_37 rfl ?_
      refine s_ireturn (pc := 38) dX12_reign_38 rfl rfl ?_
      rw [thr_0]
      exact r0  z
  · refine s_ifeq (pc := 11) (tgt := 28) dX12_reign_11 rfl (fun h11 => ?_) (fun h11 => absurd h11 (by decide))
    refine m_ic (pc := 28) (v := 0) dX12_reign_28 rfl ?_
    refine m_ic (pc := 29) (v := 1) dX12_reign_29 rfl ?_
    refine m_ic (pc := 30) (v := 1) dX12_reign_30 rfl ?_
    refine m_v3 (pc := 31) dX12_reign_31 lk_X12_192 ok_X12_may (rcO o_534 (by decide) rfl) rfl rfl (c_may0 (k := 1) (by decide) rfl up_s (by decide) (kt_s ?_))
    · refine s_ifne (pc := 34) (tgt := 39) dX12_reign_34 rfl (fun h34 => absurd h34 (by decide)) (fun h34 => ?_)
      refine m_ic (pc := 37) (v := 0) dX12_reign_37 rfl ?_
      refine s_ireturn (pc := 38) dX12_reign_38 rfl rfl ?_
      rw [thr_0]
      exact r1 i1 z
  · subst eq
    subst em
    refine s_ifeq (pc := 11) (tgt := 28) dX12_reign_11 rfl (fun h11 => absurd h11 (by decide)) (fun h11 => ?_)
    refine s_iload (pc := 14) (i := 4) dX12_reign_14 rfl ?_
    refine m_ic (pc := 16) (v := 0) dX12_reign_16 rfl ?_
    refine m_ic (pc := 17) (v := 3) dX12_reign_17 rfl ?_
    refine m_s3 (pc := 18) dX12_reign_18 lk_X12_373 ok_X12_within rfl rfl (c_win (lo := 0) (m := 4) rfl rfl (by omega) (fun a ea la ha => kt_s ?_) (fun z => kt_s ?_))
    · subst ea
      refine s_ifeq (pc := 21) (tgt := 28) dX12_reign_21 rfl (fun h21 => absurd h21 (by decide)) (fun h21 => ?_)
      refine m_ic (pc := 24) (v := 1) dX12_reign_24 rfl ?_
      refine s_goto (pc := 25) (tgt := 29) dX12_reign_25 rfl ?_
      refine m_ic (pc := 29) (v := 1) dX12_reign_29 rfl ?_
      refine m_ic (pc := 30) (v := 1) dX12_reign_30 rfl ?_
      refine m_v3 (pc := 31) dX12_reign_31 lk_X12_192 ok_X12_may (rcO o_534 (by decide) rfl) rfl rfl (c_may1 (k := 1) (by decide) rfl up_s (by decide) (kt_s ?_))
      · refine s_ifne (pc := 34) (tgt := 39) dX12_reign_34 rfl (fun h34 => ?_) (fun h34 => absurd h34 (by decide))
        refine s_aload_n (pc := 39) (i := 0) dX12_reign_39 rfl rfl ?_
        refine s_iload_n (pc := 40) (i := 1) dX12_reign_40 rfl rfl ?_
        refine s_iload_n (pc := 41) (i := 2) dX12_reign_41 rfl rfl ?_
        refine s_iload_n (pc := 42) (i := 3) dX12_reign_42 rfl rfl ?_
        refine m_v3 (pc := 43) dX12_reign_43 lk_X12_456 ok_X12_reignGoes (rcO o_534 (by decide) rfl) rfl rfl (c_X12_reignGoes (Wn_0 hW) (by omega) (by omega) (fun I1 f1 W1 R1 => kt_v ?_))
        · have S1 : Sm (I1 549) S := Sm_fr hW.2.2.2.2.1 (fun j _ => by rw [f1 549 j (by decide) (by decide) (by decide) (by omega), up_a (by decide)])
          obtain ⟨R, eR⟩ : ∃ z, z = (rgn D cs q m (x, 0, S)) := ⟨_, rfl⟩
          replace hg := hg q m
          rw [← eR] at W1 R1 hg
          rcases (show a = 0 ∨ a = 1 ∨ a = 2 ∨ a = 3 from by omega) with qe | qe | qe | qe
          · subst qe
            refine s_iload (pc := 46) (i := 4) dX12_reign_46 rfl ?_
            refine s_ifne (pc := 48) (tgt := 58) dX12_reign_48 rfl (fun h48 => absurd h48 (by decide)) (fun h48 => ?_)
            refine s_aload_n (pc := 51) (i := 0) dX12_reign_51 rfl rfl ?_
            refine m_v0 (pc := 52) dX12_reign_52 lk_X12_459 ok_X12_borneMore (rcO o_534 (by decide) rfl) rfl rfl (c_X12_borneMore W1.1.2.1 W1.2.1 S1 W1.2.2.2.2.1 R1 (kt_s ?_))
            refine s_goto (pc := 55) (tgt := 96) dX12_reign_55 rfl ?_
            refine s_ireturn (pc := 96) dX12_reign_96 rfl rfl ?_
            exact hg 0 rfl hq rfl lm hm rfl (by decide) I1 (km_t th_k (km_N f1)) ((f1 534 0 (by decide) (by decide) (by decide) (by decide)).trans up_s)
          · subst qe
            refine s_iload (pc := 46) (i := 4) dX12_reign_46 rfl ?_
            refine s_ifne (pc := 48) (tgt := 58) dX12_reign_48 rfl (fun h48 => ?_) (fun h48 => absurd h48 (by decide))
            refine s_iload (pc := 58) (i := 4) dX12_reign_58 rfl ?_
            refine m_ic (pc := 60) (v := 1) dX12_reign_60 rfl ?_
            refine s_icne (pc := 61) (tgt := 73) dX12_reign_61 rfl (fun h61 => absurd h61 (by decide)) (fun h61 => ?_)
            refine s_aload_n (pc := 64) (i := 0) dX12_reign_64 rfl rfl ?_
            refine m_bi (pc := 65) (v := 91) dX12_reign_65 rfl ?_
            refine m_v1 (pc := 67) dX12_reign_67 lk_X12_370 ok_X12_bitsOf (rcO o_534 (by decide) rfl) rfl rfl (c_X12_bitsOf W1 (kt_s ?_))
            refine s_goto (pc := 70) (tgt := 96) dX12_reign_70 rfl ?_
            refine s_ireturn (pc := 96) dX12_reign_96 rfl rfl ?_
            exact hg 1 rfl hq rfl lm hm rfl (by decide) I1 (km_t th_k (km_N f1)) ((f1 534 0 (by decide) (by decide) (by decide) (by decide)).trans up_s)
          · subst qe
            refine s_iload (pc := 46) (i := 4) dX12_reign_46 rfl ?_
            refine s_ifne (pc := 48) (tgt := 58) dX12_reign_48 rfl (fun h48 => ?_) (fun h48 => absurd h48 (by decide))
            refine s_iload (pc := 58) (i := 4) dX12_reign_58 rfl ?_
            refine m_ic (pc := 60) (v := 1) dX12_reign_60 rfl ?_
            refine s_icne (pc := 61) (tgt := 73) dX12_reign_61 rfl (fun h61 => ?_) (fun h61 => absurd h61 (by decide))
            refine s_iload (pc := 73) (i := 4) dX12_reign_73 rfl ?_
            refine m_ic (pc := 75) (v := 2) dX12_reign_75 rfl ?_
            refine s_icne (pc := 76) (tgt := 92) dX12_reign_76 rfl (fun h76 => absurd h76 (by decide)) (fun h76 => ?_)
            refine s_aload_n (pc := 79) (i := 0) dX12_reign_79 rfl rfl ?_
            refine m_bi (pc := 80) (v := 84) dX12_reign_80 rfl ?_
            refine s_aload_n (pc := 82) (i := 0) dX12_reign_82 rfl rfl ?_
            refine m_gi (pc := 83) dX12_reign_83 ff_X12_154 rfl o_534 ?_
            refine m_nm (v' := nI (cb D)) (W1.1.1) ?_
            refine m_v2 (pc := 86) dX12_reign_86 lk_X12_376 ok_X12_sumOf (rcO o_534 (by decide) rfl) rfl rfl (c_X12_sumOf (q := 84) (m := cb D) (F0 := (fun b => nI (sT R.2.2 b))) rfl rfl (by omega) (fun i hi => (W1.2.2.2.2.1.1 i (by omega)).1) (kt_s ?_))
            rw [sT7 W1.2.2.2.2.2 W1.2.1]
            refine s_goto (pc := 89) (tgt := 96) dX12_reign_89 rfl ?_
            refine s_ireturn (pc := 96) dX12_reign_96 rfl rfl ?_
            exact hg 2 rfl hq rfl lm hm rfl (by decide) I1 (km_t th_k (km_N f1)) ((f1 534 0 (by decide) (by decide) (by decide) (by decide)).trans up_s)
          · subst qe
            refine s_iload (pc := 46) (i := 4) dX12_reign_46 rfl ?_
            refine s_ifne (pc := 48) (tgt := 58) dX12_reign_48 rfl (fun h48 => ?_) (fun h48 => absurd h48 (by decide))
            refine s_iload (pc := 58) (i := 4) dX12_reign_58 rfl ?_
            refine m_ic (pc := 60) (v := 1) dX12_reign_60 rfl ?_
            refine s_icne (pc := 61) (tgt := 73) dX12_reign_61 rfl (fun h61 => ?_) (fun h61 => absurd h61 (by decide))
            refine s_iload (pc := 73) (i := 4) dX12_reign_73 rfl ?_
            refine m_ic (pc := 75) (v := 2) dX12_reign_75 rfl ?_
            refine s_icne (pc := 76) (tgt := 92) dX12_reign_76 rfl (fun h76 => ?_) (fun h76 => absurd h76 (by decide))
            refine s_aload_n (pc := 92) (i := 0) dX12_reign_92 rfl rfl ?_
            refine m_v0 (pc := 93) dX12_reign_93 lk_X12_379 ok_X12_knownAny (rcO o_534 (by decide) rfl) rfl rfl (c_X12_knownAny W1 (kt_s ?_))
            refine s_ireturn (pc := 96) dX12_reign_96 rfl rfl ?_
            exact hg 3 rfl hq rfl lm hm rfl (by decide) I1 (km_t th_k (km_N f1)) ((f1 534 0 (by decide) (by decide) (by decide) (by decide)).trans up_s)
    · refine s_ifeq (pc := 21) (tgt := 28) dX12_reign_21 rfl (fun h21 => ?_) (fun h21 => absurd h21 (by decide))
      refine m_ic (pc := 28) (v := 0) dX12_reign_28 rfl ?_
      refine m_ic (pc := 29) (v := 1) dX12_reign_29 rfl ?_
      refine m_ic (pc := 30) (v := 1) dX12_reign_30 rfl ?_
      refine m_v3 (pc := 31) dX12_reign_31 lk_X12_192 ok_X12_may (rcO o_534 (by decide) rfl) rfl rfl (c_may0 (k := 1) (by decide) rfl up_s (by decide) (kt_s ?_))
      · refine s_ifne (pc := 34) (tgt := 39) dX12_reign_34 rfl (fun h34 => absurd h34 (by decide)) (fun h34 => ?_)
        refine m_ic (pc := 37) (v := 0) dX12_reign_37 rfl ?_
        refine s_ireturn (pc := 38) dX12_reign_38 rfl rfl ?_
        rw [thr_0]
        exact r2 ⟨q, rfl, Nat.zero_le _, hq⟩ ⟨m, rfl, lm, hm⟩ z
theorem hlf1_b {R : rD} : (hlf1 D cs R).2.1 ≤ R.2.1 + 1 := by
  unfold hlf1; dsimp only; split
  · exact Nat.le_succ _
  · exact Nat.le_refl _
theorem hlf2_b {R : rD} {q : Nat} : (hlf2 D q R).2.1 = R.2.1 := by
  unfold hlf2; split
  · split <;> rfl
  · rfl
theorem hlf_b {R : rD} {q : Nat} : (hlf D cs q R).2.1 ≤ R.2.1 + 1 := by
  unfold hlf; split
  · rw [hlf2_b]; exact hlf1_b
  · exact Nat.le_succ _
theorem rgn_b {q : Nat} : ∀ k R, (rgn D cs q k R).2.1 ≤ R.2.1 + 2 * k
  | 0, _ => Nat.le_refl _
  | k + 1, R => by
    have h1 := rgn_b (q := q) k (dayR D cs q R)
    have h2 := hlf_b (D := D) (cs := cs) (R := hlf D cs q R) (q := q)
    have h3 := hlf_b (D := D) (cs := cs) (R := R) (q := q)
    have h4 : (dayR D cs q R).2.1 = (hlf D cs q (hlf D cs q R)).2.1 := rfl
    show (rgn D cs q k (dayR D cs q R)).2.1 ≤ _
    omega
/-- the fewest of the first i, the most -/
def few (f : Nat → Nat) : Nat → Option Nat
  | 0 => none
  | i + 1 => some (match few f i with
    | none => f i
    | some v => min v (f i))
def mst (f : Nat → Nat) : Nat → Nat
  | 0 => 0
  | i + 1 => max (mst f i) (f i)
theorem few_b {f : Nat → Nat} {M : Nat} (hf : ∀ i, f i ≤ M) : ∀ i v, few f i = some v → v ≤ M
  | 0, v, h => by cases h
  | i + 1, v, h => by
    rw [few] at h
    injection h with h
    have := hf i
    cases e : few f i with
    | none => rw [e] at h; simp only [] at h; omega
    | some u => rw [e] at h; simp only [] at h; omega
theorem mst_b {f : Nat → Nat} {M : Nat} (hf : ∀ i, f i ≤ M) : ∀ i, mst f i ≤ M
  | 0 => Nat.zero_le _
  | i + 1 => by have := hf i; have := mst_b hf i; show max _ _ ≤ _; omega
def spR (D : cD) (cs : List Nat) (S : sD) (q m : Nat) (x : Int32) (i : Nat) : rD := rgn D cs q m (x + nI i, 0, S)
def vSp (D : cD) (cs : List Nat) (S : sD) (x : Int32) (l q m a b : Nat) : Int32 := if a = 0 then ob (few (fun i => (spR D cs S q m x i).2.1) l) else if a = 1 then nI (mst (fun i => (spR D cs S q m x i).2.1) l) else nI (bc (fun i => sF (spR D cs S q m x i).2.2 b) l)
theorem min_n {a b : Nat} (ha : a ≤ 200) (hb : b ≤ 200) : (if nI b < nI a then nI b else nI a) = nI (min a b) := by
  by_cases h : b < a
  · rw [if_pos (nI_lt h (by omega)), Nat.min_eq_right (by omega)]
  · rw [if_neg (nI_nlt (by omega) (by omega)), Nat.min_eq_left (by omega)]
theorem max_n {a b : Nat} (ha : a ≤ 200) (hb : b ≤ 200) : (if nI a < nI b then nI b else nI a) = nI (max a b) := by
  by_cases h : a < b
  · rw [if_pos (nI_lt h (by omega)), Nat.max_eq_right (by omega)]
  · rw [if_neg (nI_nlt (by omega) (by omega)), Nat.max_eq_left (by omega)]
end S
