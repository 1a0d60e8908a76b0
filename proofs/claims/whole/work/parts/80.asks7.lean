section S
variable {g : aG} {d : Nat} {I : Nat → Nat → Int32} {J : Nat → Nat → Int64} {n w : Nat} {Q : aO → aS → Prop}
variable {σ : aS} {S : sD} {D : cD} {cs : List Nat} {b c k : Nat}
theorem c_X11_kneel (hW : Wc I 33 D cs S) (hn : n + 1 ≤ 600000 ∧ w + 6 ≤ 7000000) {x y z : Int32} (r0 : ¬ iv 0 (100) x → Q (.inr 1) (Z (up I 1 18 (I 1 18 + 1)) J (n + 1) (w + 6))) (r1 : iv 0 (100) x → ¬ iv 0 (100) y → Q (.inr 1) (Z (up I 1 18 (I 1 18 + 1)) J (n + 1) (w + 6))) (r2 : iv 0 (100) x → iv 0 (100) y → ¬ iv 0 (3) z → Q (.inr 1) (Z (up I 1 18 (I 1 18 + 1)) J (n + 1) (w + 6))) (hg : ∀ v, ∀ u, ∀ q, x = nI v → v < 100 → y = nI u → u < 100 → z = nI q → q < 3 → ∀ I', kc I I' → Q (.inl (some (.int (vKn v u q)))) (Z I' J n w)) : Cn g (d + 8) mX11_kneel [.ref 1, .int x, .int y, .int z] (Z I J n w) Q := by
  have hb7 := hW.2.1.1
  have hc12 := hW.2.1.2.1
  show Rn g (d + 8) mX11_kneel 0 [.ref 1, .int x, .int y, .int z, .retAddr 0, .retAddr 0, .retAddr 0, .retAddr 0, .retAddr 0] [] [] (Z I J n w) Q
  refine s_aload_n (pc := 0) (i := 0) dX11_kneel_0 rfl rfl ?_
  refine s_iload_n (pc := 1) (i := 1) dX11_kneel_1 rfl rfl ?_
  refine m_ic (pc := 2) (v := 0) dX11_kneel_2 rfl ?_
  refine m_bi (pc := 3) (v := 99) dX11_kneel_3 rfl ?_
  refine m_v3 (pc := 5) dX11_kneel_5 lk_X11_267 ok_X11_needRange (rcO o_1 (by decide) rfl) rfl rfl (c_nr (lo := 0) (m := 100) rfl rfl (by omega) hn (fun v ev lv hv => kt_v ?_) (fun z => kt_x ?_))
  · subst ev
    refine s_aload_n (pc := 8) (i := 0) dX11_kneel_8 rfl rfl ?_
    refine s_iload_n (pc := 9) (i := 2) dX11_kneel_9 rfl rfl ?_
    refine m_ic (pc := 10) (v := 0) dX11_kneel_10 rfl ?_
    refine m_bi (pc := 11) (v := 99) dX11_kneel_11 rfl ?_
    refine m_v3 (pc := 13) dX11_kneel_13 lk_X11_267 ok_X11_needRange (rcO o_1 (by decide) rfl) rfl rfl (c_nr (lo := 0) (m := 100) rfl rfl (by omega) hn (fun u eu lu hu => kt_v ?_) (fun z => kt_x ?_))
    · subst eu
      refine s_aload_n (pc := 16) (i := 0) dX11_kneel_16 rfl rfl ?_
      refine s_iload_n (pc := 17) (i := 3) dX11_kneel_17 rfl rfl ?_
      refine m_ic (pc := 18) (v := 3) dX11_kneel_18 rfl ?_
      refine m_v2 (pc := 19) dX11_kneel_19 lk_X11_181 ok_X11_needWhat (rcO o_1 (by decide) rfl) rfl rfl (c_nw (m := 3) rfl (by decide) hn (fun q eq hq => kt_v ?_) (fun z => kt_x ?_))
      · subst eq
        by_cases eu : u = 0 <;> by_cases ev : v = 0
        · skip
          refine m_ic (pc := 22) (v := 0) dX11_kneel_22 rfl ?_
          refine s_istore (pc := 23) (i := 4) dX11_kneel_23 (Nat.le_of_ble_eq_true rfl) ?_
          dsimp only [List.set, List.filter]
          refine m_ic (pc := 25) (v := -1) dX11_kneel_25 rfl ?_
          refine s_istore (pc := 26) (i := 5) dX11_kneel_26 (Nat.le_of_ble_eq_true rfl) ?_
          dsimp only [List.set, List.filter]
          refine m_ic (pc := 28) (v := 0) dX11_kneel_28 rfl ?_
          refine s_istore (pc := 29) (i := 6) dX11_kneel_29 (Nat.le_of_ble_eq_true rfl) ?_
          dsimp only [List.set, List.filter]
          refine m_ic (pc := 31) (v := 0) dX11_kneel_31 rfl ?_
          refine s_istore (pc := 32) (i := 7) dX11_kneel_32 (Nat.le_of_ble_eq_true rfl) ?_
          dsimp only [List.set, List.filter]
          refine s_iload (pc := 34) (i := 7) dX11_kneel_34 rfl ?_
          refine m_ic (pc := 36) (v := 2) dX11_kneel_36 rfl ?_
          refine s_icge (pc := 37) (tgt := 115) dX11_kneel_37 rfl (fun h37 => absurd h37 (by decide)) (fun h37 => ?_)
          refine m_ic (pc := 40) (v := 0) dX11_kneel_40 rfl ?_
          refine s_istore (pc := 41) (i := 8) dX11_kneel_41 (Nat.le_of_ble_eq_true rfl) ?_
          dsimp only [List.set, List.filter]
          refine s_iload (pc := 43) (i := 8) dX11_kneel_43 rfl ?_
          refine m_ic (pc := 45) (v := 2) dX11_kneel_45 rfl ?_
          refine s_icge (pc := 46) (tgt := 109) dX11_kneel_46 rfl (fun h46 => absurd h46 (by decide)) (fun h46 => ?_)
          refine s_iload (pc := 49) (i := 7) dX11_kneel_49 rfl ?_
          refine s_iload (pc := 51) (i := 8) dX11_kneel_51 rfl ?_
          refine s_iload_n (pc := 53) (i := 1) dX11_kneel_53 rfl rfl ?_
          refine s_iload_n (pc := 54) (i := 2) dX11_kneel_54 rfl rfl ?_
          refine m_s4 (pc := 55) dX11_kneel_55 lk_X11_359 ok_X11_isRest rfl rfl (c_rest_00 hv hu (fun _ => kt_s ?_) (fun z => absurd trivial z))
          · refine s_ifne (pc := 58) (tgt := 64) dX11_kneel_58 rfl (fun h58 => ?_) (fun h58 => absurd h58 (by decide))
            refine s_iload (pc := 64) (i := 4) dX11_kneel_64 rfl ?_
            refine s_ifne (pc := 66) (tgt := 100) dX11_kneel_66 rfl (fun h66 => absurd h66 (by decide)) (fun h66 => ?_)
            refine m_bi (pc := 69) (v := 10) dX11_kneel_69 rfl ?_
            refine s_iload (pc := 71) (i := 7) dX11_kneel_71 rfl ?_
            refine s_imul (pc := 73) dX11_kneel_73 ?_
            refine m_nm (v' := 0) rfl ?_
            refine s_iload (pc := 74) (i := 8) dX11_kneel_74 rfl ?_
            refine s_iadd (pc := 76) dX11_kneel_76 ?_
            refine m_nm (v' := 0) rfl ?_
            refine s_istore (pc := 77) (i := 5) dX11_kneel_77 (Nat.le_of_ble_eq_true rfl) ?_
            dsimp only [List.set, List.filter]
            refine s_iload (pc := 79) (i := 7) dX11_kneel_79 rfl ?_
            refine s_iload (pc := 81) (i := 8) dX11_kneel_81 rfl ?_
            refine s_iload_n (pc := 83) (i := 1) dX11_kneel_83 rfl rfl ?_
            refine s_iload_n (pc := 84) (i := 2) dX11_kneel_84 rfl rfl ?_
            refine m_s4 (pc := 85) dX11_kneel_85 lk_X11_363 ok_X11_hasBy rfl rfl (c_X11_hasBy_00 (kt_s ?_))
            refine s_iload (pc := 88) (i := 8) dX11_kneel_88 rfl ?_
            refine s_iload (pc := 90) (i := 7) dX11_kneel_90 rfl ?_
            refine s_iload_n (pc := 92) (i := 1) dX11_kneel_92 rfl rfl ?_
            refine s_iload_n (pc := 93) (i := 2) dX11_kneel_93 rfl rfl ?_
            refine m_s4 (pc := 94) dX11_kneel_94 lk_X11_363 ok_X11_hasBy rfl rfl (c_X11_hasBy_00 (kt_s ?_))
            refine s_iadd (pc := 97) dX11_kneel_97 ?_
            refine m_nm (v' := 0) (rfl) ?_
            refine s_istore (pc := 98) (i := 6) dX11_kneel_98 (Nat.le_of_ble_eq_true rfl) ?_
            dsimp only [List.set, List.filter]
            refine m_inc (pc := 100) (v := 1) dX11_kneel_100 rfl rfl ?_
            dsimp only [List.set, List.filter]
            rw [show (0 : Int32) + 1 = 1 from rfl]
            refine m_inc (pc := 103) (v := 1) dX11_kneel_103 rfl rfl ?_
            dsimp only [List.set, List.filter]
            rw [show (0 : Int32) + 1 = 1 from rfl]
            refine s_goto (pc := 106) (tgt := 43) dX11_kneel_106 rfl ?_
            refine s_iload (pc := 43) (i := 8) dX11_kneel_43 rfl ?_
            refine m_ic (pc := 45) (v := 2) dX11_kneel_45 rfl ?_
            refine s_icge (pc := 46) (tgt := 109) dX11_kneel_46 rfl (fun h46 => absurd h46 (by decide)) (fun h46 => ?_)
            refine s_iload (pc := 49) (i := 7) dX11_kneel_49 rfl ?_
            refine s_iload (pc := 51) (i := 8) dX11_kneel_51 rfl ?_
            refine s_iload_n (pc := 53) (i := 1) dX11_kneel_53 rfl rfl ?_
            refine s_iload_n (pc := 54) (i := 2) dX11_kneel_54 rfl rfl ?_
            refine m_s4 (pc := 55) dX11_kneel_55 lk_X11_359 ok_X11_isRest rfl rfl (c_rest_01 hv hu (fun _ => kt_s ?_) (fun z => absurd eu z))
            · refine s_ifne (pc := 58) (tgt := 64) dX11_kneel_58 rfl (fun h58 => ?_) (fun h58 => absurd h58 (by decide))
              refine s_iload (pc := 64) (i := 4) dX11_kneel_64 rfl ?_
              refine s_ifne (pc := 66) (tgt := 100) dX11_kneel_66 rfl (fun h66 => ?_) (fun h66 => absurd h66 (by decide))
              refine m_inc (pc := 100) (v := 1) dX11_kneel_100 rfl rfl ?_
              dsimp only [List.set, List.filter]
              rw [show (1 : Int32) + 1 = 2 from rfl]
              refine m_inc (pc := 103) (v := 1) dX11_kneel_103 rfl rfl ?_
              dsimp only [List.set, List.filter]
              rw [show (1 : Int32) + 1 = 2 from rfl]
              refine s_goto (pc := 106) (tgt := 43) dX11_kneel_106 rfl ?_
              refine s_iload (pc := 43) (i := 8) dX11_kneel_43 rfl ?_
              refine m_ic (pc := 45) (v := 2) dX11_kneel_45 rfl ?_
              refine s_icge (pc := 46) (tgt := 109) dX11_kneel_46 rfl (fun h46 => ?_) (fun h46 => absurd h46 (by decide))
              refine m_inc (pc := 109) (v := 1) dX11_kneel_109 rfl rfl ?_
              dsimp only [List.set, List.filter]
              rw [show (0 : Int32) + 1 = 1 from rfl]
              refine s_goto (pc := 112) (tgt := 34) dX11_kneel_112 rfl ?_
              refine s_iload (pc := 34) (i := 7) dX11_kneel_34 rfl ?_
              refine m_ic (pc := 36) (v := 2) dX11_kneel_36 rfl ?_
              refine s_icge (pc := 37) (tgt := 115) dX11_kneel_37 rfl (fun h37 => absurd h37 (by decide)) (fun h37 => ?_)
              refine m_ic (pc := 40) (v := 0) dX11_kneel_40 rfl ?_
              refine s_istore (pc := 41) (i := 8) dX11_kneel_41 (Nat.le_of_ble_eq_true rfl) ?_
              dsimp only [List.set, List.filter]
              refine s_iload (pc := 43) (i := 8) dX11_kneel_43 rfl ?_
              refine m_ic (pc := 45) (v := 2) dX11_kneel_45 rfl ?_
              refine s_icge (pc := 46) (tgt := 109) dX11_kneel_46 rfl (fun h46 => absurd h46 (by decide)) (fun h46 => ?_)
              refine s_iload (pc := 49) (i := 7) dX11_kneel_49 rfl ?_
              refine s_iload (pc := 51) (i := 8) dX11_kneel_51 rfl ?_
              refine s_iload_n (pc := 53) (i := 1) dX11_kneel_53 rfl rfl ?_
              refine s_iload_n (pc := 54) (i := 2) dX11_kneel_54 rfl rfl ?_
              refine m_s4 (pc := 55) dX11_kneel_55 lk_X11_359 ok_X11_isRest rfl rfl (c_rest_10 hv hu (fun _ => kt_s ?_) (fun z => absurd eu z))
              · refine s_ifne (pc := 58) (tgt := 64) dX11_kneel_58 rfl (fun h58 => ?_) (fun h58 => absurd h58 (by decide))
                refine s_iload (pc := 64) (i := 4) dX11_kneel_64 rfl ?_
                refine s_ifne (pc := 66) (tgt := 100) dX11_kneel_66 rfl (fun h66 => ?_) (fun h66 => absurd h66 (by decide))
                refine m_inc (pc := 100) (v := 1) dX11_kneel_100 rfl rfl ?_
                dsimp only [List.set, List.filter]
                rw [show (2 : Int32) + 1 = 3 from rfl]
                refine m_inc (pc := 103) (v := 1) dX11_kneel_103 rfl rfl ?_
                dsimp only [List.set, List.filter]
                rw [show (0 : Int32) + 1 = 1 from rfl]
                refine s_goto (pc := 106) (tgt := 43) dX11_kneel_106 rfl ?_
                refine s_iload (pc := 43) (i := 8) dX11_kneel_43 rfl ?_
                refine m_ic (pc := 45) (v := 2) dX11_kneel_45 rfl ?_
                refine s_icge (pc := 46) (tgt := 109) dX11_kneel_46 rfl (fun h46 => absurd h46 (by decide)) (fun h46 => ?_)
                refine s_iload (pc := 49) (i := 7) dX11_kneel_49 rfl ?_
                refine s_iload (pc := 51) (i := 8) dX11_kneel_51 rfl ?_
                refine s_iload_n (pc := 53) (i := 1) dX11_kneel_53 rfl rfl ?_
                refine s_iload_n (pc := 54) (i := 2) dX11_kneel_54 rfl rfl ?_
                refine m_s4 (pc := 55) dX11_kneel_55 lk_X11_359 ok_X11_isRest rfl rfl (c_rest_11 hv hu (fun _ => kt_s ?_) (fun z => absurd ev z))
                · refine s_ifne (pc := 58) (tgt := 64) dX11_kneel_58 rfl (fun h58 => ?_) (fun h58 => absurd h58 (by decide))
                  refine s_iload (pc := 64) (i := 4) dX11_kneel_64 rfl ?_
                  refine s_ifne (pc := 66) (tgt := 100) dX11_kneel_66 rfl (fun h66 => ?_) (fun h66 => absurd h66 (by decide))
                  refine m_inc (pc := 100) (v := 1) dX11_kneel_100 rfl rfl ?_
                  dsimp only [List.set, List.filter]
                  rw [show (3 : Int32) + 1 = 4 from rfl]
                  refine m_inc (pc := 103) (v := 1) dX11_kneel_103 rfl rfl ?_
                  dsimp only [List.set, List.filter]
                  rw [show (1 : Int32) + 1 = 2 from rfl]
                  refine s_goto (pc := 106) (tgt := 43) dX11_kneel_106 rfl ?_
                  refine s_iload (pc := 43) (i := 8) dX11_kneel_43 rfl ?_
                  refine m_ic (pc := 45) (v := 2) dX11_kneel_45 rfl ?_
                  refine s_icge (pc := 46) (tgt := 109) dX11_kneel_46 rfl (fun h46 => ?_) (fun h46 => absurd h46 (by decide))
                  refine m_inc (pc := 109) (v := 1) dX11_kneel_109 rfl rfl ?_
                  dsimp only [List.set, List.filter]
                  rw [show (1 : Int32) + 1 = 2 from rfl]
                  refine s_goto (pc := 112) (tgt := 34) dX11_kneel_112 rfl ?_
                  refine s_iload (pc := 34) (i := 7) dX11_kneel_34 rfl ?_
                  refine m_ic (pc := 36) (v := 2) dX11_kneel_36 rfl ?_
                  refine s_icge (pc := 37) (tgt := 115) dX11_kneel_37 rfl (fun h37 => ?_) (fun h37 => absurd h37 (by decide))
                  rcases (show q = 0 ∨ q = 1 ∨ q = 2 from by omega) with qe | qe | qe
                  · subst qe
                    refine s_iload_n (pc := 115) (i := 3) dX11_kneel_115 rfl rfl ?_
                    refine s_ifne (pc := 116) (tgt := 124) dX11_kneel_116 rfl (fun h116 => absurd h116 (by decide)) (fun h116 => ?_)
                    refine s_iload (pc := 119) (i := 4) dX11_kneel_119 rfl ?_
                    refine s_goto (pc := 121) (tgt := 136) dX11_kneel_121 rfl ?_
                    refine s_ireturn (pc := 136) dX11_kneel_136 rfl rfl ?_
                    have E : vKn v u 0 = 4 := by unfold vKn; rw [if_pos rfl, if_pos eu, if_pos ev]; rfl
                    have h := hg v u 0 rfl hv rfl hu rfl (by decide) I kc_r
                    rw [E] at h; exact h
                  · subst qe
                    refine s_iload_n (pc := 115) (i := 3) dX11_kneel_115 rfl rfl ?_
                    refine s_ifne (pc := 116) (tgt := 124) dX11_kneel_116 rfl (fun h116 => ?_) (fun h116 => absurd h116 (by decide))
                    refine s_iload_n (pc := 124) (i := 3) dX11_kneel_124 rfl rfl ?_
                    refine m_ic (pc := 125) (v := 1) dX11_kneel_125 rfl ?_
                    refine s_icne (pc := 126) (tgt := 134) dX11_kneel_126 rfl (fun h126 => absurd h126 (by decide)) (fun h126 => ?_)
                    refine s_iload (pc := 129) (i := 5) dX11_kneel_129 rfl ?_
                    refine s_goto (pc := 131) (tgt := 136) dX11_kneel_131 rfl ?_
                    refine s_ireturn (pc := 136) dX11_kneel_136 rfl rfl ?_
                    have E : vKn v u 1 = 0 := by unfold vKn; rw [if_neg (by decide)]
                    have h := hg v u 1 rfl hv rfl hu rfl (by decide) I kc_r
                    rw [E] at h; exact h
                  · subst qe
                    refine s_iload_n (pc := 115) (i := 3) dX11_kneel_115 rfl rfl ?_
                    refine s_ifne (pc := 116) (tgt := 124) dX11_kneel_116 rfl (fun h116 => ?_) (fun h116 => absurd h116 (by decide))
                    refine s_iload_n (pc := 124) (i := 3) dX11_kneel_124 rfl rfl ?_
                    refine m_ic (pc := 125) (v := 1) dX11_kneel_125 rfl ?_
                    refine s_icne (pc := 126) (tgt := 134) dX11_kneel_126 rfl (fun h126 => ?_) (fun h126 => absurd h126 (by decide))
                    refine s_iload (pc := 134) (i := 6) dX11_kneel_134 rfl ?_
                    refine s_ireturn (pc := 136) dX11_kneel_136 rfl rfl ?_
                    have E : vKn v u 2 = 0 := by unfold vKn; rw [if_neg (by decide)]
                    have h := hg v u 2 rfl hv rfl hu rfl (by decide) I kc_r
                    rw [E] at h; exact h
        · skip
          refine m_ic (pc := 22) (v := 0) dX11_kneel_22 rfl ?_
          refine s_istore (pc := 23) (i := 4) dX11_kneel_23 (Nat.le_of_ble_eq_true rfl) ?_
          dsimp only [List.set, List.filter]
          refine m_ic (pc := 25) (v := -1) dX11_kneel_25 rfl ?_
          refine s_istore (pc := 26) (i := 5) dX11_kneel_26 (Nat.le_of_ble_eq_true rfl) ?_
          dsimp only [List.set, List.filter]
          refine m_ic (pc := 28) (v := 0) dX11_kneel_28 rfl ?_
          refine s_istore (pc := 29) (i := 6) dX11_kneel_29 (Nat.le_of_ble_eq_true rfl) ?_
          dsimp only [List.set, List.filter]
          refine m_ic (pc := 31) (v := 0) dX11_kneel_31 rfl ?_
          refine s_istore (pc := 32) (i := 7) dX11_kneel_32 (Nat.le_of_ble_eq_true rfl) ?_
          dsimp only [List.set, List.filter]
          refine s_iload (pc := 34) (i := 7) dX11_kneel_34 rfl ?_
          refine m_ic (pc := 36) (v := 2) dX11_kneel_36 rfl ?_
          refine s_icge (pc := 37) (tgt := 115) dX11_kneel_37 rfl (fun h37 => absurd h37 (by decide)) (fun h37 => ?_)
          refine m_ic (pc := 40) (v := 0) dX11_kneel_40 rfl ?_
          refine s_istore (pc := 41) (i := 8) dX11_kneel_41 (Nat.le_of_ble_eq_true rfl) ?_
          dsimp only [List.set, List.filter]
          refine s_iload (pc := 43) (i := 8) dX11_kneel_43 rfl ?_
          refine m_ic (pc := 45) (v := 2) dX11_kneel_45 rfl ?_
          refine s_icge (pc := 46) (tgt := 109) dX11_kneel_46 rfl (fun h46 => absurd h46 (by decide)) (fun h46 => ?_)
          refine s_iload (pc := 49) (i := 7) dX11_kneel_49 rfl ?_
          refine s_iload (pc := 51) (i := 8) dX11_kneel_51 rfl ?_
          refine s_iload_n (pc := 53) (i := 1) dX11_kneel_53 rfl rfl ?_
          refine s_iload_n (pc := 54) (i := 2) dX11_kneel_54 rfl rfl ?_
          refine m_s4 (pc := 55) dX11_kneel_55 lk_X11_359 ok_X11_isRest rfl rfl (c_rest_00 hv hu (fun _ => kt_s ?_) (fun z => absurd trivial z))
          · refine s_ifne (pc := 58) (tgt := 64) dX11_kneel_58 rfl (fun h58 => ?_) (fun h58 => absurd h58 (by decide))
            refine s_iload (pc := 64) (i := 4) dX11_kneel_64 rfl ?_
            refine s_ifne (pc := 66) (tgt := 100) dX11_kneel_66 rfl (fun h66 => absurd h66 (by decide)) (fun h66 => ?_)
            refine m_bi (pc := 69) (v := 10) dX11_kneel_69 rfl ?_
            refine s_iload (pc := 71) (i := 7) dX11_kneel_71 rfl ?_
            refine s_imul (pc := 73) dX11_kneel_73 ?_
            refine m_nm (v' := 0) rfl ?_
            refine s_iload (pc := 74) (i := 8) dX11_kneel_74 rfl ?_
            refine s_iadd (pc := 76) dX11_kneel_76 ?_
            refine m_nm (v' := 0) rfl ?_
            refine s_istore (pc := 77) (i := 5) dX11_kneel_77 (Nat.le_of_ble_eq_true rfl) ?_
            dsimp only [List.set, List.filter]
            refine s_iload (pc := 79) (i := 7) dX11_kneel_79 rfl ?_
            refine s_iload (pc := 81) (i := 8) dX11_kneel_81 rfl ?_
            refine s_iload_n (pc := 83) (i := 1) dX11_kneel_83 rfl rfl ?_
            refine s_iload_n (pc := 84) (i := 2) dX11_kneel_84 rfl rfl ?_
            refine m_s4 (pc := 85) dX11_kneel_85 lk_X11_363 ok_X11_hasBy rfl rfl (c_X11_hasBy_00 (kt_s ?_))
            refine s_iload (pc := 88) (i := 8) dX11_kneel_88 rfl ?_
            refine s_iload (pc := 90) (i := 7) dX11_kneel_90 rfl ?_
            refine s_iload_n (pc := 92) (i := 1) dX11_kneel_92 rfl rfl ?_
            refine s_iload_n (pc := 93) (i := 2) dX11_kneel_93 rfl rfl ?_
            refine m_s4 (pc := 94) dX11_kneel_94 lk_X11_363 ok_X11_hasBy rfl rfl (c_X11_hasBy_00 (kt_s ?_))
            refine s_iadd (pc := 97) dX11_kneel_97 ?_
            refine m_nm (v' := 0) (rfl) ?_
            refine s_istore (pc := 98) (i := 6) dX11_kneel_98 (Nat.le_of_ble_eq_true rfl) ?_
            dsimp only [List.set, List.filter]
            refine m_inc (pc := 100) (v := 1) dX11_kneel_100 rfl rfl ?_
            dsimp only [List.set, List.filter]
            rw [show (0 : Int32) + 1 = 1 from rfl]
            refine m_inc (pc := 103) (v := 1) dX11_kneel_103 rfl rfl ?_
            dsimp only [List.set, List.filter]
            rw [show (0 : Int32) + 1 = 1 from rfl]
            refine s_goto (pc := 106) (tgt := 43) dX11_kneel_106 rfl ?_
            refine s_iload (pc := 43) (i := 8) dX11_kneel_43 rfl ?_
            refine m_ic (pc := 45) (v := 2) dX11_kneel_45 rfl ?_
            refine s_icge (pc := 46) (tgt := 109) dX11_kneel_46 rfl (fun h46 => absurd h46 (by decide)) (fun h46 => ?_)
            refine s_iload (pc := 49) (i := 7) dX11_kneel_49 rfl ?_
            refine s_iload (pc := 51) (i := 8) dX11_kneel_51 rfl ?_
            refine s_iload_n (pc := 53) (i := 1) dX11_kneel_53 rfl rfl ?_
            refine s_iload_n (pc := 54) (i := 2) dX11_kneel_54 rfl rfl ?_
            refine m_s4 (pc := 55) dX11_kneel_55 lk_X11_359 ok_X11_isRest rfl rfl (c_rest_01 hv hu (fun _ => kt_s ?_) (fun z => absurd eu z))
            · refine s_ifne (pc := 58) (tgt := 64) dX11_kneel_58 rfl (fun h58 => ?_) (fun h58 => absurd h58 (by decide))
              refine s_iload (pc := 64) (i := 4) dX11_kneel_64 rfl ?_
              refine s_ifne (pc := 66) (tgt := 100) dX11_kneel_66 rfl (fun h66 => ?_) (fun h66 => absurd h66 (by decide))
              refine m_inc (pc := 100) (v := 1) dX11_kneel_100 rfl rfl ?_
              dsimp only [List.set, List.filter]
              rw [show (1 : Int32) + 1 = 2 from rfl]
              refine m_inc (pc := 103) (v := 1) dX11_kneel_103 rfl rfl ?_
              dsimp only [List.set, List.filter]
              rw [show (1 : Int32) + 1 = 2 from rfl]
              refine s_goto (pc := 106) (tgt := 43) dX11_kneel_106 rfl ?_
              refine s_iload (pc := 43) (i := 8) dX11_kneel_43 rfl ?_
              refine m_ic (pc := 45) (v := 2) dX11_kneel_45 rfl ?_
              refine s_icge (pc := 46) (tgt := 109) dX11_kneel_46 rfl (fun h46 => ?_) (fun h46 => absurd h46 (by decide))
              refine m_inc (pc := 109) (v := 1) dX11_kneel_109 rfl rfl ?_
              dsimp only [List.set, List.filter]
              rw [show (0 : Int32) + 1 = 1 from rfl]
              refine s_goto (pc := 112) (tgt := 34) dX11_kneel_112 rfl ?_
              refine s_iload (pc := 34) (i := 7) dX11_kneel_34 rfl ?_
              refine m_ic (pc := 36) (v := 2) dX11_kneel_36 rfl ?_
              refine s_icge (pc := 37) (tgt := 115) dX11_kneel_37 rfl (fun h37 => absurd h37 (by decide)) (fun h37 => ?_)
              refine m_ic (pc := 40) (v := 0) dX11_kneel_40 rfl ?_
              refine s_istore (pc := 41) (i := 8) dX11_kneel_41 (Nat.le_of_ble_eq_true rfl) ?_
              dsimp only [List.set, List.filter]
              refine s_iload (pc := 43) (i := 8) dX11_kneel_43 rfl ?_
              refine m_ic (pc := 45) (v := 2) dX11_kneel_45 rfl ?_
              refine s_icge (pc := 46) (tgt := 109) dX11_kneel_46 rfl (fun h46 => absurd h46 (by decide)) (fun h46 => ?_)
              refine s_iload (pc := 49) (i := 7) dX11_kneel_49 rfl ?_
              refine s_iload (pc := 51) (i := 8) dX11_kneel_51 rfl ?_
              refine s_iload_n (pc := 53) (i := 1) dX11_kneel_53 rfl rfl ?_
              refine s_iload_n (pc := 54) (i := 2) dX11_kneel_54 rfl rfl ?_
              refine m_s4 (pc := 55) dX11_kneel_55 lk_X11_359 ok_X11_isRest rfl rfl (c_rest_10 hv hu (fun _ => kt_s ?_) (fun z => absurd eu z))
              · refine s_ifne (pc := 58) (tgt := 64) dX11_kneel_58 rfl (fun h58 => ?_) (fun h58 => absurd h58 (by decide))
                refine s_iload (pc := 64) (i := 4) dX11_kneel_64 rfl ?_
                refine s_ifne (pc := 66) (tgt := 100) dX11_kneel_66 rfl (fun h66 => ?_) (fun h66 => absurd h66 (by decide))
                refine m_inc (pc := 100) (v := 1) dX11_kneel_100 rfl rfl ?_
                dsimp only [List.set, List.filter]
                rw [show (2 : Int32) + 1 = 3 from rfl]
                refine m_inc (pc := 103) (v := 1) dX11_kneel_103 rfl rfl ?_
                dsimp only [List.set, List.filter]
                rw [show (0 : Int32) + 1 = 1 from rfl]
                refine s_goto (pc := 106) (tgt := 43) dX11_kneel_106 rfl ?_
                refine s_iload (pc := 43) (i := 8) dX11_kneel_43 rfl ?_
                refine m_ic (pc := 45) (v := 2) dX11_kneel_45 rfl ?_
                refine s_icge (pc := 46) (tgt := 109) dX11_kneel_46 rfl (fun h46 => absurd h46 (by decide)) (fun h46 => ?_)
                refine s_iload (pc := 49) (i := 7) dX11_kneel_49 rfl ?_
                refine s_iload (pc := 51) (i := 8) dX11_kneel_51 rfl ?_
                refine s_iload_n (pc := 53) (i := 1) dX11_kneel_53 rfl rfl ?_
                refine s_iload_n (pc := 54) (i := 2) dX11_kneel_54 rfl rfl ?_
                refine m_s4 (pc := 55) dX11_kneel_55 lk_X11_359 ok_X11_isRest rfl rfl (c_rest_11 hv hu (fun z => absurd z ev) (fun _ => kt_s ?_))
                · refine s_ifne (pc := 58) (tgt := 64) dX11_kneel_58 rfl (fun h58 => absurd h58 (by decide)) (fun h58 => ?_)
                  refine s_goto (pc := 61) (tgt := 103) dX11_kneel_61 rfl ?_
                  refine m_inc (pc := 103) (v := 1) dX11_kneel_103 rfl rfl ?_
                  dsimp only [List.set, List.filter]
                  rw [show (1 : Int32) + 1 = 2 from rfl]
                  refine s_goto (pc := 106) (tgt := 43) dX11_kneel_106 rfl ?_
                  refine s_iload (pc := 43) (i := 8) dX11_kneel_43 rfl ?_
                  refine m_ic (pc := 45) (v := 2) dX11_kneel_45 rfl ?_
                  refine s_icge (pc := 46) (tgt := 109) dX11_kneel_46 rfl (fun h46 => ?_) (fun h46 => absurd h46 (by decide))
                  refine m_inc (pc := 109) (v := 1) dX11_kneel_109 rfl rfl ?_
                  dsimp only [List.set, List.filter]
                  rw [show (1 : Int32) + 1 = 2 from rfl]
                  refine s_goto (pc := 112) (tgt := 34) dX11_kneel_112 rfl ?_
                  refine s_iload (pc := 34) (i := 7) dX11_kneel_34 rfl ?_
                  refine m_ic (pc := 36) (v := 2) dX11_kneel_36 rfl ?_
                  refine s_icge (pc := 37) (tgt := 115) dX11_kneel_37 rfl (fun h37 => ?_) (fun h37 => absurd h37 (by decide))
                  rcases (show q = 0 ∨ q = 1 ∨ q = 2 from by omega) with qe | qe | qe
                  · subst qe
                    refine s_iload_n (pc := 115) (i := 3) dX11_kneel_115 rfl rfl ?_
                    refine s_ifne (pc := 116) (tgt := 124) dX11_kneel_116 rfl (fun h116 => absurd h116 (by decide)) (fun h116 => ?_)
                    refine s_iload (pc := 119) (i := 4) dX11_kneel_119 rfl ?_
                    refine s_goto (pc := 121) (tgt := 136) dX11_kneel_121 rfl ?_
                    refine s_ireturn (pc := 136) dX11_kneel_136 rfl rfl ?_
                    have E : vKn v u 0 = 3 := by unfold vKn; rw [if_pos rfl, if_pos eu, if_neg ev]; rfl
                    have h := hg v u 0 rfl hv rfl hu rfl (by decide) I kc_r
                    rw [E] at h; exact h
                  · subst qe
                    refine s_iload_n (pc := 115) (i := 3) dX11_kneel_115 rfl rfl ?_
                    refine s_ifne (pc := 116) (tgt := 124) dX11_kneel_116 rfl (fun h116 => ?_) (fun h116 => absurd h116 (by decide))
                    refine s_iload_n (pc := 124) (i := 3) dX11_kneel_124 rfl rfl ?_
                    refine m_ic (pc := 125) (v := 1) dX11_kneel_125 rfl ?_
                    refine s_icne (pc := 126) (tgt := 134) dX11_kneel_126 rfl (fun h126 => absurd h126 (by decide)) (fun h126 => ?_)
                    refine s_iload (pc := 129) (i := 5) dX11_kneel_129 rfl ?_
                    refine s_goto (pc := 131) (tgt := 136) dX11_kneel_131 rfl ?_
                    refine s_ireturn (pc := 136) dX11_kneel_136 rfl rfl ?_
                    have E : vKn v u 1 = 0 := by unfold vKn; rw [if_neg (by decide)]
                    have h := hg v u 1 rfl hv rfl hu rfl (by decide) I kc_r
                    rw [E] at h; exact h
                  · subst qe
                    refine s_iload_n (pc := 115) (i := 3) dX11_kneel_115 rfl rfl ?_
                    refine s_ifne (pc := 116) (tgt := 124) dX11_kneel_116 rfl (fun h116 => ?_) (fun h116 => absurd h116 (by decide))
                    refine s_iload_n (pc := 124) (i := 3) dX11_kneel_124 rfl rfl ?_
                    refine m_ic (pc := 125) (v := 1) dX11_kneel_125 rfl ?_
                    refine s_icne (pc := 126) (tgt := 134) dX11_kneel_126 rfl (fun h126 => ?_) (fun h126 => absurd h126 (by decide))
                    refine s_iload (pc := 134) (i := 6) dX11_kneel_134 rfl ?_
                    refine s_ireturn (pc := 136) dX11_kneel_136 rfl rfl ?_
                    have E : vKn v u 2 = 0 := by unfold vKn; rw [if_neg (by decide)]
                    have h := hg v u 2 rfl hv rfl hu rfl (by decide) I kc_r
                    rw [E] at h; exact h
        · skip
          refine m_ic (pc := 22) (v := 0) dX11_kneel_22 rfl ?_
          refine s_istore (pc := 23) (i := 4) dX11_kneel_23 (Nat.le_of_ble_eq_true rfl) ?_
          dsimp only [List.set, List.filter]
          refine m_ic (pc := 25) (v := -1) dX11_kneel_25 rfl ?_
          refine s_istore (pc := 26) (i := 5) dX11_kneel_26 (Nat.le_of_ble_eq_true rfl) ?_
          dsimp only [List.set, List.filter]
          refine m_ic (pc := 28) (v := 0) dX11_kneel_28 rfl ?_
          refine s_istore (pc := 29) (i := 6) dX11_kneel_29 (Nat.le_of_ble_eq_true rfl) ?_
          dsimp only [List.set, List.filter]
          refine m_ic (pc := 31) (v := 0) dX11_kneel_31 rfl ?_
          refine s_istore (pc := 32) (i := 7) dX11_kneel_32 (Nat.le_of_ble_eq_true rfl) ?_
          dsimp only [List.set, List.filter]
          refine s_iload (pc := 34) (i := 7) dX11_kneel_34 rfl ?_
          refine m_ic (pc := 36) (v := 2) dX11_kneel_36 rfl ?_
          refine s_icge (pc := 37) (tgt := 115) dX11_kneel_37 rfl (fun h37 => absurd h37 (by decide)) (fun h37 => ?_)
          refine m_ic (pc := 40) (v := 0) dX11_kneel_40 rfl ?_
          refine s_istore (pc := 41) (i := 8) dX11_kneel_41 (Nat.le_of_ble_eq_true rfl) ?_
          dsimp only [List.set, List.filter]
          refine s_iload (pc := 43) (i := 8) dX11_kneel_43 rfl ?_
          refine m_ic (pc := 45) (v := 2) dX11_kneel_45 rfl ?_
          refine s_icge (pc := 46) (tgt := 109) dX11_kneel_46 rfl (fun h46 => absurd h46 (by decide)) (fun h46 => ?_)
          refine s_iload (pc := 49) (i := 7) dX11_kneel_49 rfl ?_
          refine s_iload (pc := 51) (i := 8) dX11_kneel_51 rfl ?_
          refine s_iload_n (pc := 53) (i := 1) dX11_kneel_53 rfl rfl ?_
          refine s_iload_n (pc := 54) (i := 2) dX11_kneel_54 rfl rfl ?_
          refine m_s4 (pc := 55) dX11_kneel_55 lk_X11_359 ok_X11_isRest rfl rfl (c_rest_00 hv hu (fun _ => kt_s ?_) (fun z => absurd trivial z))
          · refine s_ifne (pc := 58) (tgt := 64) dX11_kneel_58 rfl (fun h58 => ?_) (fun h58 => absurd h58 (by decide))
            refine s_iload (pc := 64) (i := 4) dX11_kneel_64 rfl ?_
            refine s_ifne (pc := 66) (tgt := 100) dX11_kneel_66 rfl (fun h66 => absurd h66 (by decide)) (fun h66 => ?_)
            refine m_bi (pc := 69) (v := 10) dX11_kneel_69 rfl ?_
            refine s_iload (pc := 71) (i := 7) dX11_kneel_71 rfl ?_
            refine s_imul (pc := 73) dX11_kneel_73 ?_
            refine m_nm (v' := 0) rfl ?_
            refine s_iload (pc := 74) (i := 8) dX11_kneel_74 rfl ?_
            refine s_iadd (pc := 76) dX11_kneel_76 ?_
            refine m_nm (v' := 0) rfl ?_
            refine s_istore (pc := 77) (i := 5) dX11_kneel_77 (Nat.le_of_ble_eq_true rfl) ?_
            dsimp only [List.set, List.filter]
            refine s_iload (pc := 79) (i := 7) dX11_kneel_79 rfl ?_
            refine s_iload (pc := 81) (i := 8) dX11_kneel_81 rfl ?_
            refine s_iload_n (pc := 83) (i := 1) dX11_kneel_83 rfl rfl ?_
            refine s_iload_n (pc := 84) (i := 2) dX11_kneel_84 rfl rfl ?_
            refine m_s4 (pc := 85) dX11_kneel_85 lk_X11_363 ok_X11_hasBy rfl rfl (c_X11_hasBy_00 (kt_s ?_))
            refine s_iload (pc := 88) (i := 8) dX11_kneel_88 rfl ?_
            refine s_iload (pc := 90) (i := 7) dX11_kneel_90 rfl ?_
            refine s_iload_n (pc := 92) (i := 1) dX11_kneel_92 rfl rfl ?_
            refine s_iload_n (pc := 93) (i := 2) dX11_kneel_93 rfl rfl ?_
            refine m_s4 (pc := 94) dX11_kneel_94 lk_X11_363 ok_X11_hasBy rfl rfl (c_X11_hasBy_00 (kt_s ?_))
            refine s_iadd (pc := 97) dX11_kneel_97 ?_
            refine m_nm (v' := 0) (rfl) ?_
            refine s_istore (pc := 98) (i := 6) dX11_kneel_98 (Nat.le_of_ble_eq_true rfl) ?_
            dsimp only [List.set, List.filter]
            refine m_inc (pc := 100) (v := 1) dX11_kneel_100 rfl rfl ?_
            dsimp only [List.set, List.filter]
            rw [show (0 : Int32) + 1 = 1 from rfl]
            refine m_inc (pc := 103) (v := 1) dX11_kneel_103 rfl rfl ?_
            dsimp only [List.set, List.filter]
            rw [show (0 : Int32) + 1 = 1 from rfl]
            refine s_goto (pc := 106) (tgt := 43) dX11_kneel_106 rfl ?_
            refine s_iload (pc := 43) (i := 8) dX11_kneel_43 rfl ?_
            refine m_ic (pc := 45) (v := 2) dX11_kneel_45 rfl ?_
            refine s_icge (pc := 46) (tgt := 109) dX11_kneel_46 rfl (fun h46 => absurd h46 (by decide)) (fun h46 => ?_)
            refine s_iload (pc := 49) (i := 7) dX11_kneel_49 rfl ?_
            refine s_iload (pc := 51) (i := 8) dX11_kneel_51 rfl ?_
            refine s_iload_n (pc := 53) (i := 1) dX11_kneel_53 rfl rfl ?_
            refine s_iload_n (pc := 54) (i := 2) dX11_kneel_54 rfl rfl ?_
            refine m_s4 (pc := 55) dX11_kneel_55 lk_X11_359 ok_X11_isRest rfl rfl (c_rest_01 hv hu (fun z => absurd z eu) (fun _ => kt_s ?_))
            · refine s_ifne (pc := 58) (tgt := 64) dX11_kneel_58 rfl (fun h58 => absurd h58 (by decide)) (fun h58 => ?_)
              refine s_goto (pc := 61) (tgt := 103) dX11_kneel_61 rfl ?_
              refine m_inc (pc := 103) (v := 1) dX11_kneel_103 rfl rfl ?_
              dsimp only [List.set, List.filter]
              rw [show (1 : Int32) + 1 = 2 from rfl]
              refine s_goto (pc := 106) (tgt := 43) dX11_kneel_106 rfl ?_
              refine s_iload (pc := 43) (i := 8) dX11_kneel_43 rfl ?_
              refine m_ic (pc := 45) (v := 2) dX11_kneel_45 rfl ?_
              refine s_icge (pc := 46) (tgt := 109) dX11_kneel_46 rfl (fun h46 => ?_) (fun h46 => absurd h46 (by decide))
              refine m_inc (pc := 109) (v := 1) dX11_kneel_109 rfl rfl ?_
              dsimp only [List.set, List.filter]
              rw [show (0 : Int32) + 1 = 1 from rfl]
              refine s_goto (pc := 112) (tgt := 34) dX11_kneel_112 rfl ?_
              refine s_iload (pc := 34) (i := 7) dX11_kneel_34 rfl ?_
              refine m_ic (pc := 36) (v := 2) dX11_kneel_36 rfl ?_
              refine s_icge (pc := 37) (tgt := 115) dX11_kneel_37 rfl (fun h37 => absurd h37 (by decide)) (fun h37 => ?_)
              refine m_ic (pc := 40) (v := 0) dX11_kneel_40 rfl ?_
              refine s_istore (pc := 41) (i := 8) dX11_kneel_41 (Nat.le_of_ble_eq_true rfl) ?_
              dsimp only [List.set, List.filter]
              refine s_iload (pc := 43) (i := 8) dX11_kneel_43 rfl ?_
              refine m_ic (pc := 45) (v := 2) dX11_kneel_45 rfl ?_
              refine s_icge (pc := 46) (tgt := 109) dX11_kneel_46 rfl (fun h46 => absurd h46 (by decide)) (fun h46 => ?_)
              refine s_iload (pc := 49) (i := 7) dX11_kneel_49 rfl ?_
              refine s_iload (pc := 51) (i := 8) dX11_kneel_51 rfl ?_
              refine s_iload_n (pc := 53) (i := 1) dX11_kneel_53 rfl rfl ?_
              refine s_iload_n (pc := 54) (i := 2) dX11_kneel_54 rfl rfl ?_
              refine m_s4 (pc := 55) dX11_kneel_55 lk_X11_359 ok_X11_isRest rfl rfl (c_rest_10 hv hu (fun z => absurd z eu) (fun _ => kt_s ?_))
              · refine s_ifne (pc := 58) (tgt := 64) dX11_kneel_58 rfl (fun h58 => absurd h58 (by decide)) (fun h58 => ?_)
                refine s_goto (pc := 61) (tgt := 103) dX11_kneel_61 rfl ?_
                refine m_inc (pc := 103) (v := 1) dX11_kneel_103 rfl rfl ?_
                dsimp only [List.set, List.filter]
                rw [show (0 : Int32) + 1 = 1 from rfl]
                refine s_goto (pc := 106) (tgt := 43) dX11_kneel_106 rfl ?_
                refine s_iload (pc := 43) (i := 8) dX11_kneel_43 rfl ?_
                refine m_ic (pc := 45) (v := 2) dX11_kneel_45 rfl ?_
                refine s_icge (pc := 46) (tgt := 109) dX11_kneel_46 rfl (fun h46 => absurd h46 (by decide)) (fun h46 => ?_)
                refine s_iload (pc := 49) (i := 7) dX11_kneel_49 rfl ?_
                refine s_iload (pc := 51) (i := 8) dX11_kneel_51 rfl ?_
                refine s_iload_n (pc := 53) (i := 1) dX11_kneel_53 rfl rfl ?_
                refine s_iload_n (pc := 54) (i := 2) dX11_kneel_54 rfl rfl ?_
                refine m_s4 (pc := 55) dX11_kneel_55 lk_X11_359 ok_X11_isRest rfl rfl (c_rest_11 hv hu (fun _ => kt_s ?_) (fun z => absurd ev z))
                · refine s_ifne (pc := 58) (tgt := 64) dX11_kneel_58 rfl (fun h58 => ?_) (fun h58 => absurd h58 (by decide))
                  refine s_iload (pc := 64) (i := 4) dX11_kneel_64 rfl ?_
                  refine s_ifne (pc := 66) (tgt := 100) dX11_kneel_66 rfl (fun h66 => ?_) (fun h66 => absurd h66 (by decide))
                  refine m_inc (pc := 100) (v := 1) dX11_kneel_100 rfl rfl ?_
                  dsimp only [List.set, List.filter]
                  rw [show (1 : Int32) + 1 = 2 from rfl]
                  refine m_inc (pc := 103) (v := 1) dX11_kneel_103 rfl rfl ?_
                  dsimp only [List.set, List.filter]
                  rw [show (1 : Int32) + 1 = 2 from rfl]
                  refine s_goto (pc := 106) (tgt := 43) dX11_kneel_106 rfl ?_
                  refine s_iload (pc := 43) (i := 8) dX11_kneel_43 rfl ?_
                  refine m_ic (pc := 45) (v := 2) dX11_kneel_45 rfl ?_
                  refine s_icge (pc := 46) (tgt := 109) dX11_kneel_46 rfl (fun h46 => ?_) (fun h46 => absurd h46 (by decide))
                  refine m_inc (pc := 109) (v := 1) dX11_kneel_109 rfl rfl ?_
                  dsimp only [List.set, List.filter]
                  rw [show (1 : Int32) + 1 = 2 from rfl]
                  refine s_goto (pc := 112) (tgt := 34) dX11_kneel_112 rfl ?_
                  refine s_iload (pc := 34) (i := 7) dX11_kneel_34 rfl ?_
                  refine m_ic (pc := 36) (v := 2) dX11_kneel_36 rfl ?_
                  refine s_icge (pc := 37) (tgt := 115) dX11_kneel_37 rfl (fun h37 => ?_) (fun h37 => absurd h37 (by decide))
                  rcases (show q = 0 ∨ q = 1 ∨ q = 2 from by omega) with qe | qe | qe
                  · subst qe
                    refine s_iload_n (pc := 115) (i := 3) dX11_kneel_115 rfl rfl ?_
                    refine s_ifne (pc := 116) (tgt := 124) dX11_kneel_116 rfl (fun h116 => absurd h116 (by decide)) (fun h116 => ?_)
                    refine s_iload (pc := 119) (i := 4) dX11_kneel_119 rfl ?_
                    refine s_goto (pc := 121) (tgt := 136) dX11_kneel_121 rfl ?_
                    refine s_ireturn (pc := 136) dX11_kneel_136 rfl rfl ?_
                    have E : vKn v u 0 = 2 := by unfold vKn; rw [if_pos rfl, if_neg eu, if_pos ev]; rfl
                    have h := hg v u 0 rfl hv rfl hu rfl (by decide) I kc_r
                    rw [E] at h; exact h
                  · subst qe
                    refine s_iload_n (pc := 115) (i := 3) dX11_kneel_115 rfl rfl ?_
                    refine s_ifne (pc := 116) (tgt := 124) dX11_kneel_116 rfl (fun h116 => ?_) (fun h116 => absurd h116 (by decide))
                    refine s_iload_n (pc := 124) (i := 3) dX11_kneel_124 rfl rfl ?_
                    refine m_ic (pc := 125) (v := 1) dX11_kneel_125 rfl ?_
                    refine s_icne (pc := 126) (tgt := 134) dX11_kneel_126 rfl (fun h126 => absurd h126 (by decide)) (fun h126 => ?_)
                    refine s_iload (pc := 129) (i := 5) dX11_kneel_129 rfl ?_
                    refine s_goto (pc := 131) (tgt := 136) dX11_kneel_131 rfl ?_
                    refine s_ireturn (pc := 136) dX11_kneel_136 rfl rfl ?_
                    have E : vKn v u 1 = 0 := by unfold vKn; rw [if_neg (by decide)]
                    have h := hg v u 1 rfl hv rfl hu rfl (by decide) I kc_r
                    rw [E] at h; exact h
                  · subst qe
                    refine s_iload_n (pc := 115) (i := 3) dX11_kneel_115 rfl rfl ?_
                    refine s_ifne (pc := 116) (tgt := 124) dX11_kneel_116 rfl (fun h116 => ?_) (fun h116 => absurd h116 (by decide))
                    refine s_iload_n (pc := 124) (i := 3) dX11_kneel_124 rfl rfl ?_
                    refine m_ic (pc := 125) (v := 1) dX11_kneel_125 rfl ?_
                    refine s_icne (pc := 126) (tgt := 134) dX11_kneel_126 rfl (fun h126 => ?_) (fun h126 => absurd h126 (by decide))
                    refine s_iload (pc := 134) (i := 6) dX11_kneel_134 rfl ?_
                    refine s_ireturn (pc := 136) dX11_kneel_136 rfl rfl ?_
                    have E : vKn v u 2 = 0 := by unfold vKn; rw [if_neg (by decide)]
                    have h := hg v u 2 rfl hv rfl hu rfl (by decide) I kc_r
                    rw [E] at h; exact h
        · skip
          refine m_ic (pc := 22) (v := 0) dX11_kneel_22 rfl ?_
          refine s_istore (pc := 23) (i := 4) dX11_kneel_23 (Nat.le_of_ble_eq_true rfl) ?_
          dsimp only [List.set, List.filter]
          refine m_ic (pc := 25) (v := -1) dX11_kneel_25 rfl ?_
          refine s_istore (pc := 26) (i := 5) dX11_kneel_26 (Nat.le_of_ble_eq_true rfl) ?_
          dsimp only [List.set, List.filter]
          refine m_ic (pc := 28) (v := 0) dX11_kneel_28 rfl ?_
          refine s_istore (pc := 29) (i := 6) dX11_kneel_29 (Nat.le_of_ble_eq_true rfl) ?_
          dsimp only [List.set, List.filter]
          refine m_ic (pc := 31) (v := 0) dX11_kneel_31 rfl ?_
          refine s_istore (pc := 32) (i := 7) dX11_kneel_32 (Nat.le_of_ble_eq_true rfl) ?_
          dsimp only [List.set, List.filter]
          refine s_iload (pc := 34) (i := 7) dX11_kneel_34 rfl ?_
          refine m_ic (pc := 36) (v := 2) dX11_kneel_36 rfl ?_
          refine s_icge (pc := 37) (tgt := 115) dX11_kneel_37 rfl (fun h37 => absurd h37 (by decide)) (fun h37 => ?_)
          refine m_ic (pc := 40) (v := 0) dX11_kneel_40 rfl ?_
          refine s_istore (pc := 41) (i := 8) dX11_kneel_41 (Nat.le_of_ble_eq_true rfl) ?_
          dsimp only [List.set, List.filter]
          refine s_iload (pc := 43) (i := 8) dX11_kneel_43 rfl ?_
          refine m_ic (pc := 45) (v := 2) dX11_kneel_45 rfl ?_
          refine s_icge (pc := 46) (tgt := 109) dX11_kneel_46 rfl (fun h46 => absurd h46 (by decide)) (fun h46 => ?_)
          refine s_iload (pc := 49) (i := 7) dX11_kneel_49 rfl ?_
          refine s_iload (pc := 51) (i := 8) dX11_kneel_51 rfl ?_
          refine s_iload_n (pc := 53) (i := 1) dX11_kneel_53 rfl rfl ?_
          refine s_iload_n (pc := 54) (i := 2) dX11_kneel_54 rfl rfl ?_
          refine m_s4 (pc := 55) dX11_kneel_55 lk_X11_359 ok_X11_isRest rfl rfl (c_rest_00 hv hu (fun _ => kt_s ?_) (fun z => absurd trivial z))
          · refine s_ifne (pc := 58) (tgt := 64) dX11_kneel_58 rfl (fun h58 => ?_) (fun h58 => absurd h58 (by decide))
            refine s_iload (pc := 64) (i := 4) dX11_kneel_64 rfl ?_
            refine s_ifne (pc := 66) (tgt := 100) dX11_kneel_66 rfl (fun h66 => absurd h66 (by decide)) (fun h66 => ?_)
            refine m_bi (pc := 69) (v := 10) dX11_kneel_69 rfl ?_
            refine s_iload (pc := 71) (i := 7) dX11_kneel_71 rfl ?_
            refine s_imul (pc := 73) dX11_kneel_73 ?_
            refine m_nm (v' := 0) rfl ?_
            refine s_iload (pc := 74) (i := 8) dX11_kneel_74 rfl ?_
            refine s_iadd (pc := 76) dX11_kneel_76 ?_
            refine m_nm (v' := 0) rfl ?_
            refine s_istore (pc := 77) (i := 5) dX11_kneel_77 (Nat.le_of_ble_eq_true rfl) ?_
            dsimp only [List.set, List.filter]
            refine s_iload (pc := 79) (i := 7) dX11_kneel_79 rfl ?_
            refine s_iload (pc := 81) (i := 8) dX11_kneel_81 rfl ?_
            refine s_iload_n (pc := 83) (i := 1) dX11_kneel_83 rfl rfl ?_
            refine s_iload_n (pc := 84) (i := 2) dX11_kneel_84 rfl rfl ?_
            refine m_s4 (pc := 85) dX11_kneel_85 lk_X11_363 ok_X11_hasBy rfl rfl (c_X11_hasBy_00 (kt_s ?_))
            refine s_iload (pc := 88) (i := 8) dX11_kneel_88 rfl ?_
            refine s_iload (pc := 90) (i := 7) dX11_kneel_90 rfl ?_
            refine s_iload_n (pc := 92) (i := 1) dX11_kneel_92 rfl rfl ?_
            refine s_iload_n (pc := 93) (i := 2) dX11_kneel_93 rfl rfl ?_
            refine m_s4 (pc := 94) dX11_kneel_94 lk_X11_363 ok_X11_hasBy rfl rfl (c_X11_hasBy_00 (kt_s ?_))
            refine s_iadd (pc := 97) dX11_kneel_97 ?_
            refine m_nm (v' := 0) (rfl) ?_
            refine s_istore (pc := 98) (i := 6) dX11_kneel_98 (Nat.le_of_ble_eq_true rfl) ?_
            dsimp only [List.set, List.filter]
            refine m_inc (pc := 100) (v := 1) dX11_kneel_100 rfl rfl ?_
            dsimp only [List.set, List.filter]
            rw [show (0 : Int32) + 1 = 1 from rfl]
            refine m_inc (pc := 103) (v := 1) dX11_kneel_103 rfl rfl ?_
            dsimp only [List.set, List.filter]
            rw [show (0 : Int32) + 1 = 1 from rfl]
            refine s_goto (pc := 106) (tgt := 43) dX11_kneel_106 rfl ?_
            refine s_iload (pc := 43) (i := 8) dX11_kneel_43 rfl ?_
            refine m_ic (pc := 45) (v := 2) dX11_kneel_45 rfl ?_
            refine s_icge (pc := 46) (tgt := 109) dX11_kneel_46 rfl (fun h46 => absurd h46 (by decide)) (fun h46 => ?_)
            refine s_iload (pc := 49) (i := 7) dX11_kneel_49 rfl ?_
            refine s_iload (pc := 51) (i := 8) dX11_kneel_51 rfl ?_
            refine s_iload_n (pc := 53) (i := 1) dX11_kneel_53 rfl rfl ?_
            refine s_iload_n (pc := 54) (i := 2) dX11_kneel_54 rfl rfl ?_
            refine m_s4 (pc := 55) dX11_kneel_55 lk_X11_359 ok_X11_isRest rfl rfl (c_rest_01 hv hu (fun z => absurd z eu) (fun _ => kt_s ?_))
            · refine s_ifne (pc := 58) (tgt := 64) dX11_kneel_58 rfl (fun h58 => absurd h58 (by decide)) (fun h58 => ?_)
              refine s_goto (pc := 61) (tgt := 103) dX11_kneel_61 rfl ?_
              refine m_inc (pc := 103) (v := 1) dX11_kneel_103 rfl rfl ?_
              dsimp only [List.set, List.filter]
              rw [show (1 : Int32) + 1 = 2 from rfl]
              refine s_goto (pc := 106) (tgt := 43) dX11_kneel_106 rfl ?_
              refine s_iload (pc := 43) (i := 8) dX11_kneel_43 rfl ?_
              refine m_ic (pc := 45) (v := 2) dX11_kneel_45 rfl ?_
              refine s_icge (pc := 46) (tgt := 109) dX11_kneel_46 rfl (fun h46 => ?_) (fun h46 => absurd h46 (by decide))
              refine m_inc (pc := 109) (v := 1) dX11_kneel_109 rfl rfl ?_
              dsimp only [List.set, List.filter]
              rw [show (0 : Int32) + 1 = 1 from rfl]
              refine s_goto (pc := 112) (tgt := 34) dX11_kneel_112 rfl ?_
              refine s_iload (pc := 34) (i := 7) dX11_kneel_34 rfl ?_
              refine m_ic (pc := 36) (v := 2) dX11_kneel_36 rfl ?_
              refine s_icge (pc := 37) (tgt := 115) dX11_kneel_37 rfl (fun h37 => absurd h37 (by decide)) (fun h37 => ?_)
              refine m_ic (pc := 40) (v := 0) dX11_kneel_40 rfl ?_
              refine s_istore (pc := 41) (i := 8) dX11_kneel_41 (Nat.le_of_ble_eq_true rfl) ?_
              dsimp only [List.set, List.filter]
              refine s_iload (pc := 43) (i := 8) dX11_kneel_43 rfl ?_
              refine m_ic (pc := 45) (v := 2) dX11_kneel_45 rfl ?_
              refine s_icge (pc := 46) (tgt := 109) dX11_kneel_46 rfl (fun h46 => absurd h46 (by decide)) (fun h46 => ?_)
              refine s_iload (pc := 49) (i := 7) dX11_kneel_49 rfl ?_
              refine s_iload (pc := 51) (i := 8) dX11_kneel_51 rfl ?_
              refine s_iload_n (pc := 53) (i := 1) dX11_kneel_53 rfl rfl ?_
              refine s_iload_n (pc := 54) (i := 2) dX11_kneel_54 rfl rfl ?_
              refine m_s4 (pc := 55) dX11_kneel_55 lk_X11_359 ok_X11_isRest rfl rfl (c_rest_10 hv hu (fun z => absurd z eu) (fun _ => kt_s ?_))
              · refine s_ifne (pc := 58) (tgt := 64) dX11_kneel_58 rfl (fun h58 => absurd h58 (by decide)) (fun h58 => ?_)
                refine s_goto (pc := 61) (tgt := 103) dX11_kneel_61 rfl ?_
                refine m_inc (pc := 103) (v := 1) dX11_kneel_103 rfl rfl ?_
                dsimp only [List.set, List.filter]
                rw [show (0 : Int32) + 1 = 1 from rfl]
                refine s_goto (pc := 106) (tgt := 43) dX11_kneel_106 rfl ?_
                refine s_iload (pc := 43) (i := 8) dX11_kneel_43 rfl ?_
                refine m_ic (pc := 45) (v := 2) dX11_kneel_45 rfl ?_
                refine s_icge (pc := 46) (tgt := 109) dX11_kneel_46 rfl (fun h46 => absurd h46 (by decide)) (fun h46 => ?_)
                refine s_iload (pc := 49) (i := 7) dX11_kneel_49 rfl ?_
                refine s_iload (pc := 51) (i := 8) dX11_kneel_51 rfl ?_
                refine s_iload_n (pc := 53) (i := 1) dX11_kneel_53 rfl rfl ?_
                refine s_iload_n (pc := 54) (i := 2) dX11_kneel_54 rfl rfl ?_
                refine m_s4 (pc := 55) dX11_kneel_55 lk_X11_359 ok_X11_isRest rfl rfl (c_rest_11 hv hu (fun z => absurd z ev) (fun _ => kt_s ?_))
                · refine s_ifne (pc := 58) (tgt := 64) dX11_kneel_58 rfl (fun h58 => absurd h58 (by decide)) (fun h58 => ?_)
                  refine s_goto (pc := 61) (tgt := 103) dX11_kneel_61 rfl ?_
                  refine m_inc (pc := 103) (v := 1) dX11_kneel_103 rfl rfl ?_
                  dsimp only [List.set, List.filter]
                  rw [show (1 : Int32) + 1 = 2 from rfl]
                  refine s_goto (pc := 106) (tgt := 43) dX11_kneel_106 rfl ?_
                  refine s_iload (pc := 43) (i := 8) dX11_kneel_43 rfl ?_
                  refine m_ic (pc := 45) (v := 2) dX11_kneel_45 rfl ?_
                  refine s_icge (pc := 46) (tgt := 109) dX11_kneel_46 rfl (fun h46 => ?_) (fun h46 => absurd h46 (by decide))
                  refine m_inc (pc := 109) (v := 1) dX11_kneel_109 rfl rfl ?_
                  dsimp only [List.set, List.filter]
                  rw [show (1 : Int32) + 1 = 2 from rfl]
                  refine s_goto (pc := 112) (tgt := 34) dX11_kneel_112 rfl ?_
                  refine s_iload (pc := 34) (i := 7) dX11_kneel_34 rfl ?_
                  refine m_ic (pc := 36) (v := 2) dX11_kneel_36 rfl ?_
                  refine s_icge (pc := 37) (tgt := 115) dX11_kneel_37 rfl (fun h37 => ?_) (fun h37 => absurd h37 (by decide))
                  rcases (show q = 0 ∨ q = 1 ∨ q = 2 from by omega) with qe | qe | qe
                  · subst qe
                    refine s_iload_n (pc := 115) (i := 3) dX11_kneel_115 rfl rfl ?_
                    refine s_ifne (pc := 116) (tgt := 124) dX11_kneel_116 rfl (fun h116 => absurd h116 (by decide)) (fun h116 => ?_)
                    refine s_iload (pc := 119) (i := 4) dX11_kneel_119 rfl ?_
                    refine s_goto (pc := 121) (tgt := 136) dX11_kneel_121 rfl ?_
                    refine s_ireturn (pc := 136) dX11_kneel_136 rfl rfl ?_
                    have E : vKn v u 0 = 1 := by unfold vKn; rw [if_pos rfl, if_neg eu, if_neg ev]; rfl
                    have h := hg v u 0 rfl hv rfl hu rfl (by decide) I kc_r
                    rw [E] at h; exact h
                  · subst qe
                    refine s_iload_n (pc := 115) (i := 3) dX11_kneel_115 rfl rfl ?_
                    refine s_ifne (pc := 116) (tgt := 124) dX11_kneel_116 rfl (fun h116 => ?_) (fun h116 => absurd h116 (by decide))
                    refine s_iload_n (pc := 124) (i := 3) dX11_kneel_124 rfl rfl ?_
                    refine m_ic (pc := 125) (v := 1) dX11_kneel_125 rfl ?_
                    refine s_icne (pc := 126) (tgt := 134) dX11_kneel_126 rfl (fun h126 => absurd h126 (by decide)) (fun h126 => ?_)
                    refine s_iload (pc := 129) (i := 5) dX11_kneel_129 rfl ?_
                    refine s_goto (pc := 131) (tgt := 136) dX11_kneel_131 rfl ?_
                    refine s_ireturn (pc := 136) dX11_kneel_136 rfl rfl ?_
                    have E : vKn v u 1 = 0 := by unfold vKn; rw [if_neg (by decide)]
                    have h := hg v u 1 rfl hv rfl hu rfl (by decide) I kc_r
                    rw [E] at h; exact h
                  · subst qe
                    refine s_iload_n (pc := 115) (i := 3) dX11_kneel_115 rfl rfl ?_
                    refine s_ifne (pc := 116) (tgt := 124) dX11_kneel_116 rfl (fun h116 => ?_) (fun h116 => absurd h116 (by decide))
                    refine s_iload_n (pc := 124) (i := 3) dX11_kneel_124 rfl rfl ?_
                    refine m_ic (pc := 125) (v := 1) dX11_kneel_125 rfl ?_
                    refine s_icne (pc := 126) (tgt := 134) dX11_kneel_126 rfl (fun h126 => ?_) (fun h126 => absurd h126 (by decide))
                    refine s_iload (pc := 134) (i := 6) dX11_kneel_134 rfl ?_
                    refine s_ireturn (pc := 136) dX11_kneel_136 rfl rfl ?_
                    have E : vKn v u 2 = 0 := by unfold vKn; rw [if_neg (by decide)]
                    have h := hg v u 2 rfl hv rfl hu rfl (by decide) I kc_r
                    rw [E] at h; exact h
      · exact r2 ⟨v, rfl, Nat.zero_le _, hv⟩ ⟨u, rfl, Nat.zero_le _, hu⟩ z
    · exact r1 ⟨v, rfl, Nat.zero_le _, hv⟩ z
  · exact r0  z
theorem c_X12_kneel (hW : Wn I D cs S) {x y z : Int32} (r0 : ¬ iv 0 (100) x → Q (.inl (some (.int 0))) (Z (thr I 1 1) J n w)) (r1 : iv 0 (100) x → ¬ iv 0 (100) y → Q (.inl (some (.int 0))) (Z (thr I 1 1) J n w)) (r2 : iv 0 (100) x → iv 0 (100) y → ¬ iv 0 (3) z → Q (.inl (some (.int 0))) (Z (thr I 1 1) J n w)) (hg : ∀ v, ∀ u, ∀ q, x = nI v → v < 100 → y = nI u → u < 100 → z = nI q → q < 3 → ∀ I', km I I' → I' 534 0 = 0 → Q (.inl (some (.int (vKn v u q)))) (Z I' J n w)) : Cn g (d + 3) mX12_kneel [.ref 534, .int x, .int y, .int z] (Z I J n w) Q := by
  have hb7 := hW.2.1.1
  have hc12 := hW.2.1.2.1
  show Rn g (d + 3) mX12_kneel 0 [.ref 534, .int x, .int y, .int z, .retAddr 0, .retAddr 0, .retAddr 0, .retAddr 0, .retAddr 0] [] [] (Z I J n w) Q
  refine s_aload_n (pc := 0) (i := 0) dX12_kneel_0 rfl rfl ?_
  refine m_ic (pc := 1) (v := 0) dX12_kneel_1 rfl ?_
  refine m_pi (pc := 2) dX12_kneel_2 ff_X12_3 rfl rfl o_534 ?_
  refine s_aload_n (pc := 5) (i := 0) dX12_kneel_5 rfl rfl ?_
  refine s_iload_n (pc := 6) (i := 1) dX12_kneel_6 rfl rfl ?_
  refine m_ic (pc := 7) (v := 0) dX12_kneel_7 rfl ?_
  refine m_bi (pc := 8) (v := 99) dX12_kneel_8 rfl ?_
  refine m_s3 (pc := 10) dX12_kneel_10 lk_X12_373 ok_X12_within rfl rfl (c_win (lo := 0) (m := 100) rfl rfl (by omega) (fun v ev lv hv => kt_s ?_) (fun z => kt_s ?_))
  · subst ev
    refine s_ifeq (pc := 13) (tgt := 39) dX12_kneel_13 rfl (fun h13 => absurd h13 (by decide)) (fun h13 => ?_)
    refine s_iload_n (pc := 16) (i := 2) dX12_kneel_16 rfl rfl ?_
    refine m_ic (pc := 17) (v := 0) dX12_kneel_17 rfl ?_
    refine m_bi (pc := 18) (v := 99) dX12_kneel_18 rfl ?_
    refine m_s3 (pc := 20) dX12_kneel_20 lk_X12_373 ok_X12_within rfl rfl (c_win (lo := 0) (m := 100) rfl rfl (by omega) (fun u eu lu hu => kt_s ?_) (fun z => kt_s ?_))
    · subst eu
      refine s_ifeq (pc := 23) (tgt := 39) dX12_kneel_23 rfl (fun h23 => absurd h23 (by decide)) (fun h23 => ?_)
      refine s_iload_n (pc := 26) (i := 3) dX12_kneel_26 rfl rfl ?_
      refine m_ic (pc := 27) (v := 0) dX12_kneel_27 rfl ?_
      refine m_ic (pc := 28) (v := 2) dX12_kneel_28 rfl ?_
      refine m_s3 (pc := 29) dX12_kneel_29 lk_X12_373 ok_X12_within rfl rfl (c_win (lo := 0) (m := 3) rfl rfl (by omega) (fun q eq lq hq => kt_s ?_) (fun z => kt_s ?_))
      · subst eq
        refine s_ifeq (pc := 32) (tgt := 39) dX12_kneel_32 rfl (fun h32 => absurd h32 (by decide)) (fun h32 => ?_)
        refine m_ic (pc := 35) (v := 1) dX12_kneel_35 rfl ?_
        refine s_goto (pc := 36) (tgt := 40) dX12_kneel_36 rfl ?_
        refine m_ic (pc := 40) (v := 1) dX12_kneel_40 rfl ?_
        refine m_ic (pc := 41) (v := 1) dX12_kneel_41 rfl ?_
        refine m_v3 (pc := 42) dX12_kneel_42 lk_X12_192 ok_X12_may (rcO o_534 (by decide) rfl) rfl rfl (c_may1 (k := 1) (by decide) rfl up_s (by decide) (kt_s ?_))
        · refine s_ifne (pc := 45) (tgt := 50) dX12_kneel_45 rfl (fun h45 => ?_) (fun h45 => absurd h45 (by decide))
          by_cases eu : u = 0 <;> by_cases ev : v = 0
          · skip
            refine m_ic (pc := 50) (v := 0) dX12_kneel_50 rfl ?_
            refine s_istore (pc := 51) (i := 4) dX12_kneel_51 (Nat.le_of_ble_eq_true rfl) ?_
            dsimp only [List.set, List.filter]
            refine m_ic (pc := 53) (v := -1) dX12_kneel_53 rfl ?_
            refine s_istore (pc := 54) (i := 5) dX12_kneel_54 (Nat.le_of_ble_eq_true rfl) ?_
            dsimp only [List.set, List.filter]
            refine m_ic (pc := 56) (v := 0) dX12_kneel_56 rfl ?_
            refine s_istore (pc := 57) (i := 6) dX12_kneel_57 (Nat.le_of_ble_eq_true rfl) ?_
            dsimp only [List.set, List.filter]
            refine s_iload (pc := 59) (i := 6) dX12_kneel_59 rfl ?_
            refine m_ic (pc := 61) (v := 4) dX12_kneel_61 rfl ?_
            refine s_icge (pc := 62) (tgt := 156) dX12_kneel_62 rfl (fun h62 => absurd h62 (by decide)) (fun h62 => ?_)
            refine s_iload (pc := 65) (i := 6) dX12_kneel_65 rfl ?_
            refine m_ic (pc := 67) (v := 2) dX12_kneel_67 rfl ?_
            refine s_idiv (pc := 68) dX12_kneel_68 (by decide) ?_
            refine m_nm (v' := 0) (rfl) ?_
            refine s_istore (pc := 69) (i := 7) dX12_kneel_69 (Nat.le_of_ble_eq_true rfl) ?_
            dsimp only [List.set, List.filter]
            refine s_iload (pc := 71) (i := 6) dX12_kneel_71 rfl ?_
            refine m_ic (pc := 73) (v := 2) dX12_kneel_73 rfl ?_
            refine s_irem (pc := 74) dX12_kneel_74 (by decide) ?_
            refine m_nm (v' := 0) (rfl) ?_
            refine s_istore (pc := 75) (i := 8) dX12_kneel_75 (Nat.le_of_ble_eq_true rfl) ?_
            dsimp only [List.set, List.filter]
            refine m_ic (pc := 77) (v := 1) dX12_kneel_77 rfl ?_
            refine s_iload (pc := 78) (i := 7) dX12_kneel_78 rfl ?_
            refine s_isub (pc := 80) dX12_kneel_80 ?_
            refine m_nm (v' := 1) rfl ?_
            refine s_iload (pc := 81) (i := 8) dX12_kneel_81 rfl ?_
            refine s_iload_n (pc := 83) (i := 1) dX12_kneel_83 rfl rfl ?_
            refine s_iload_n (pc := 84) (i := 2) dX12_kneel_84 rfl rfl ?_
            refine m_s4 (pc := 85) dX12_kneel_85 lk_X12_436 ok_X12_hasBy rfl rfl (c_X12_hasBy_10 (kt_s ?_))
            refine s_iload (pc := 88) (i := 7) dX12_kneel_88 rfl ?_
            refine s_iload (pc := 90) (i := 8) dX12_kneel_90 rfl ?_
            refine s_iload_n (pc := 92) (i := 1) dX12_kneel_92 rfl rfl ?_
            refine s_iload_n (pc := 93) (i := 2) dX12_kneel_93 rfl rfl ?_
            refine m_s4 (pc := 94) dX12_kneel_94 lk_X12_436 ok_X12_hasBy rfl rfl (c_X12_hasBy_00 (kt_s ?_))
            refine s_icgt (pc := 97) (tgt := 150) dX12_kneel_97 rfl (fun h97 => absurd h97 (ng_0 hu)) (fun h97 => ?_)
            refine m_ic (pc := 100) (v := 1) dX12_kneel_100 rfl ?_
            refine s_iload (pc := 101) (i := 8) dX12_kneel_101 rfl ?_
            refine s_isub (pc := 103) dX12_kneel_103 ?_
            refine m_nm (v' := 1) rfl ?_
            refine s_iload (pc := 104) (i := 7) dX12_kneel_104 rfl ?_
            refine s_iload_n (pc := 106) (i := 1) dX12_kneel_106 rfl rfl ?_
            refine s_iload_n (pc := 107) (i := 2) dX12_kneel_107 rfl rfl ?_
            refine m_s4 (pc := 108) dX12_kneel_108 lk_X12_436 ok_X12_hasBy rfl rfl (c_X12_hasBy_10 (kt_s ?_))
            refine s_iload (pc := 111) (i := 8) dX12_kneel_111 rfl ?_
            refine s_iload (pc := 113) (i := 7) dX12_kneel_113 rfl ?_
            refine s_iload_n (pc := 115) (i := 1) dX12_kneel_115 rfl rfl ?_
            refine s_iload_n (pc := 116) (i := 2) dX12_kneel_116 rfl rfl ?_
            refine m_s4 (pc := 117) dX12_kneel_117 lk_X12_436 ok_X12_hasBy rfl rfl (c_X12_hasBy_00 (kt_s ?_))
            refine s_icle (pc := 120) (tgt := 126) dX12_kneel_120 rfl (fun h120 => ?_) (fun h120 => absurd (Int32.not_lt.mp (ng_0 hu)) h120)
            refine m_inc (pc := 126) (v := 1) dX12_kneel_126 rfl rfl ?_
            dsimp only [List.set, List.filter]
            rw [show (0 : Int32) + 1 = 1 from rfl]
            refine s_iload (pc := 129) (i := 5) dX12_kneel_129 rfl ?_
            refine m_ic (pc := 131) (v := -1) dX12_kneel_131 rfl ?_
            refine s_icne (pc := 132) (tgt := 146) dX12_kneel_132 rfl (fun h132 => absurd h132 (by decide)) (fun h132 => ?_)
            refine m_bi (pc := 135) (v := 10) dX12_kneel_135 rfl ?_
            refine s_iload (pc := 137) (i := 7) dX12_kneel_137 rfl ?_
            refine s_imul (pc := 139) dX12_kneel_139 ?_
            refine m_nm (v' := 0) rfl ?_
            refine s_iload (pc := 140) (i := 8) dX12_kneel_140 rfl ?_
            refine s_iadd (pc := 142) dX12_kneel_142 ?_
            refine m_nm (v' := 0) rfl ?_
            refine s_goto (pc := 143) (tgt := 148) dX12_kneel_143 rfl ?_
            refine s_istore (pc := 148) (i := 5) dX12_kneel_148 (Nat.le_of_ble_eq_true rfl) ?_
            dsimp only [List.set, List.filter]
            refine m_inc (pc := 150) (v := 1) dX12_kneel_150 rfl rfl ?_
            dsimp only [List.set, List.filter]
            rw [show (0 : Int32) + 1 = 1 from rfl]
            refine s_goto (pc := 153) (tgt := 59) dX12_kneel_153 rfl ?_
            refine s_iload (pc := 59) (i := 6) dX12_kneel_59 rfl ?_
            refine m_ic (pc := 61) (v := 4) dX12_kneel_61 rfl ?_
            refine s_icge (pc := 62) (tgt := 156) dX12_kneel_62 rfl (fun h62 => absurd h62 (by decide)) (fun h62 => ?_)
            refine s_iload (pc := 65) (i := 6) dX12_kneel_65 rfl ?_
            refine m_ic (pc := 67) (v := 2) dX12_kneel_67 rfl ?_
            refine s_idiv (pc := 68) dX12_kneel_68 (by decide) ?_
            refine m_nm (v' := 0) (rfl) ?_
            refine s_istore (pc := 69) (i := 7) dX12_kneel_69 (Nat.le_of_ble_eq_true rfl) ?_
            dsimp only [List.set, List.filter]
            refine s_iload (pc := 71) (i := 6) dX12_kneel_71 rfl ?_
            refine m_ic (pc := 73) (v := 2) dX12_kneel_73 rfl ?_
            refine s_irem (pc := 74) dX12_kneel_74 (by decide) ?_
            refine m_nm (v' := 1) (rfl) ?_
            refine s_istore (pc := 75) (i := 8) dX12_kneel_75 (Nat.le_of_ble_eq_true rfl) ?_
            dsimp only [List.set, List.filter]
            refine m_ic (pc := 77) (v := 1) dX12_kneel_77 rfl ?_
            refine s_iload (pc := 78) (i := 7) dX12_kneel_78 rfl ?_
            refine s_isub (pc := 80) dX12_kneel_80 ?_
            refine m_nm (v' := 1) rfl ?_
            refine s_iload (pc := 81) (i := 8) dX12_kneel_81 rfl ?_
            refine s_iload_n (pc := 83) (i := 1) dX12_kneel_83 rfl rfl ?_
            refine s_iload_n (pc := 84) (i := 2) dX12_kneel_84 rfl rfl ?_
            refine m_s4 (pc := 85) dX12_kneel_85 lk_X12_436 ok_X12_hasBy rfl rfl (c_X12_hasBy_11 (kt_s ?_))
            refine s_iload (pc := 88) (i := 7) dX12_kneel_88 rfl ?_
            refine s_iload (pc := 90) (i := 8) dX12_kneel_90 rfl ?_
            refine s_iload_n (pc := 92) (i := 1) dX12_kneel_92 rfl rfl ?_
            refine s_iload_n (pc := 93) (i := 2) dX12_kneel_93 rfl rfl ?_
            refine m_s4 (pc := 94) dX12_kneel_94 lk_X12_436 ok_X12_hasBy rfl rfl (c_X12_hasBy_01 (kt_s ?_))
            refine s_icgt (pc := 97) (tgt := 150) dX12_kneel_97 rfl (fun h97 => absurd h97 (ng_2 hv)) (fun h97 => ?_)
            refine m_ic (pc := 100) (v := 1) dX12_kneel_100 rfl ?_
            refine s_iload (pc := 101) (i := 8) dX12_kneel_101 rfl ?_
            refine s_isub (pc := 103) dX12_kneel_103 ?_
            refine m_nm (v' := 0) rfl ?_
            refine s_iload (pc := 104) (i := 7) dX12_kneel_104 rfl ?_
            refine s_iload_n (pc := 106) (i := 1) dX12_kneel_106 rfl rfl ?_
            refine s_iload_n (pc := 107) (i := 2) dX12_kneel_107 rfl rfl ?_
            refine m_s4 (pc := 108) dX12_kneel_108 lk_X12_436 ok_X12_hasBy rfl rfl (c_X12_hasBy_00 (kt_s ?_))
            refine s_iload (pc := 111) (i := 8) dX12_kneel_111 rfl ?_
            refine s_iload (pc := 113) (i := 7) dX12_kneel_113 rfl ?_
            refine s_iload_n (pc := 115) (i := 1) dX12_kneel_115 rfl rfl ?_
            refine s_iload_n (pc := 116) (i := 2) dX12_kneel_116 rfl rfl ?_
            refine m_s4 (pc := 117) dX12_kneel_117 lk_X12_436 ok_X12_hasBy rfl rfl (c_X12_hasBy_10 (kt_s ?_))
            refine s_icle (pc := 120) (tgt := 126) dX12_kneel_120 rfl (fun h120 => ?_) (fun h120 => absurd (Int32.not_lt.mp (fun z => (ng_1 hu).mp z eu)) h120)
            refine m_inc (pc := 126) (v := 1) dX12_kneel_126 rfl rfl ?_
            dsimp only [List.set, List.filter]
            rw [show (1 : Int32) + 1 = 2 from rfl]
            refine s_iload (pc := 129) (i := 5) dX12_kneel_129 rfl ?_
            refine m_ic (pc := 131) (v := -1) dX12_kneel_131 rfl ?_
            refine s_icne (pc := 132) (tgt := 146) dX12_kneel_132 rfl (fun h132 => ?_) (fun h132 => absurd h132 (by decide))
            refine s_iload (pc := 146) (i := 5) dX12_kneel_146 rfl ?_
            refine s_istore (pc := 148) (i := 5) dX12_kneel_148 (Nat.le_of_ble_eq_true rfl) ?_
            dsimp only [List.set, List.filter]
            refine m_inc (pc := 150) (v := 1) dX12_kneel_150 rfl rfl ?_
            dsimp only [List.set, List.filter]
            rw [show (1 : Int32) + 1 = 2 from rfl]
            refine s_goto (pc := 153) (tgt := 59) dX12_kneel_153 rfl ?_
            refine s_iload (pc := 59) (i := 6) dX12_kneel_59 rfl ?_
            refine m_ic (pc := 61) (v := 4) dX12_kneel_61 rfl ?_
            refine s_icge (pc := 62) (tgt := 156) dX12_kneel_62 rfl (fun h62 => absurd h62 (by decide)) (fun h62 => ?_)
            refine s_iload (pc := 65) (i := 6) dX12_kneel_65 rfl ?_
            refine m_ic (pc := 67) (v := 2) dX12_kneel_67 rfl ?_
            refine s_idiv (pc := 68) dX12_kneel_68 (by decide) ?_
            refine m_nm (v' := 1) (rfl) ?_
            refine s_istore (pc := 69) (i := 7) dX12_kneel_69 (Nat.le_of_ble_eq_true rfl) ?_
            dsimp only [List.set, List.filter]
            refine s_iload (pc := 71) (i := 6) dX12_kneel_71 rfl ?_
            refine m_ic (pc := 73) (v := 2) dX12_kneel_73 rfl ?_
            refine s_irem (pc := 74) dX12_kneel_74 (by decide) ?_
            refine m_nm (v' := 0) (rfl) ?_
            refine s_istore (pc := 75) (i := 8) dX12_kneel_75 (Nat.le_of_ble_eq_true rfl) ?_
            dsimp only [List.set, List.filter]
            refine m_ic (pc := 77) (v := 1) dX12_kneel_77 rfl ?_
            refine s_iload (pc := 78) (i := 7) dX12_kneel_78 rfl ?_
            refine s_isub (pc := 80) dX12_kneel_80 ?_
            refine m_nm (v' := 0) rfl ?_
            refine s_iload (pc := 81) (i := 8) dX12_kneel_81 rfl ?_
            refine s_iload_n (pc := 83) (i := 1) dX12_kneel_83 rfl rfl ?_
            refine s_iload_n (pc := 84) (i := 2) dX12_kneel_84 rfl rfl ?_
            refine m_s4 (pc := 85) dX12_kneel_85 lk_X12_436 ok_X12_hasBy rfl rfl (c_X12_hasBy_00 (kt_s ?_))
            refine s_iload (pc := 88) (i := 7) dX12_kneel_88 rfl ?_
            refine s_iload (pc := 90) (i := 8) dX12_kneel_90 rfl ?_
            refine s_iload_n (pc := 92) (i := 1) dX12_kneel_92 rfl rfl ?_
            refine s_iload_n (pc := 93) (i := 2) dX12_kneel_93 rfl rfl ?_
            refine m_s4 (pc := 94) dX12_kneel_94 lk_X12_436 ok_X12_hasBy rfl rfl (c_X12_hasBy_10 (kt_s ?_))
            refine s_icgt (pc := 97) (tgt := 150) dX12_kneel_97 rfl (fun h97 => absurd h97 (fun z => (ng_1 hu).mp z eu)) (fun h97 => ?_)
            refine m_ic (pc := 100) (v := 1) dX12_kneel_100 rfl ?_
            refine s_iload (pc := 101) (i := 8) dX12_kneel_101 rfl ?_
            refine s_isub (pc := 103) dX12_kneel_103 ?_
            refine m_nm (v' := 1) rfl ?_
            refine s_iload (pc := 104) (i := 7) dX12_kneel_104 rfl ?_
            refine s_iload_n (pc := 106) (i := 1) dX12_kneel_106 rfl rfl ?_
            refine s_iload_n (pc := 107) (i := 2) dX12_kneel_107 rfl rfl ?_
            refine m_s4 (pc := 108) dX12_kneel_108 lk_X12_436 ok_X12_hasBy rfl rfl (c_X12_hasBy_11 (kt_s ?_))
            refine s_iload (pc := 111) (i := 8) dX12_kneel_111 rfl ?_
            refine s_iload (pc := 113) (i := 7) dX12_kneel_113 rfl ?_
            refine s_iload_n (pc := 115) (i := 1) dX12_kneel_115 rfl rfl ?_
            refine s_iload_n (pc := 116) (i := 2) dX12_kneel_116 rfl rfl ?_
            refine m_s4 (pc := 117) dX12_kneel_117 lk_X12_436 ok_X12_hasBy rfl rfl (c_X12_hasBy_01 (kt_s ?_))
            refine s_icle (pc := 120) (tgt := 126) dX12_kneel_120 rfl (fun h120 => ?_) (fun h120 => absurd (Int32.not_lt.mp (ng_2 hv)) h120)
            refine m_inc (pc := 126) (v := 1) dX12_kneel_126 rfl rfl ?_
            dsimp only [List.set, List.filter]
            rw [show (2 : Int32) + 1 = 3 from rfl]
            refine s_iload (pc := 129) (i := 5) dX12_kneel_129 rfl ?_
            refine m_ic (pc := 131) (v := -1) dX12_kneel_131 rfl ?_
            refine s_icne (pc := 132) (tgt := 146) dX12_kneel_132 rfl (fun h132 => ?_) (fun h132 => absurd h132 (by decide))
            refine s_iload (pc := 146) (i := 5) dX12_kneel_146 rfl ?_
            refine s_istore (pc := 148) (i := 5) dX12_kneel_148 (Nat.le_of_ble_eq_true rfl) ?_
            dsimp only [List.set, List.filter]
            refine m_inc (pc := 150) (v := 1) dX12_kneel_150 rfl rfl ?_
            dsimp only [List.set, List.filter]
            rw [show (2 : Int32) + 1 = 3 from rfl]
            refine s_goto (pc := 153) (tgt := 59) dX12_kneel_153 rfl ?_
            refine s_iload (pc := 59) (i := 6) dX12_kneel_59 rfl ?_
            refine m_ic (pc := 61) (v := 4) dX12_kneel_61 rfl ?_
            refine s_icge (pc := 62) (tgt := 156) dX12_kneel_62 rfl (fun h62 => absurd h62 (by decide)) (fun h62 => ?_)
            refine s_iload (pc := 65) (i := 6) dX12_kneel_65 rfl ?_
            refine m_ic (pc := 67) (v := 2) dX12_kneel_67 rfl ?_
            refine s_idiv (pc := 68) dX12_kneel_68 (by decide) ?_
            refine m_nm (v' := 1) (rfl) ?_
            refine s_istore (pc := 69) (i := 7) dX12_kneel_69 (Nat.le_of_ble_eq_true rfl) ?_
            dsimp only [List.set, List.filter]
            refine s_iload (pc := 71) (i := 6) dX12_kneel_71 rfl ?_
            refine m_ic (pc := 73) (v := 2) dX12_kneel_73 rfl ?_
            refine s_irem (pc := 74) dX12_kneel_74 (by decide) ?_
            refine m_nm (v' := 1) (rfl) ?_
            refine s_istore (pc := 75) (i := 8) dX12_kneel_75 (Nat.le_of_ble_eq_true rfl) ?_
            dsimp only [List.set, List.filter]
            refine m_ic (pc := 77) (v := 1) dX12_kneel_77 rfl ?_
            refine s_iload (pc := 78) (i := 7) dX12_kneel_78 rfl ?_
            refine s_isub (pc := 80) dX12_kneel_80 ?_
            refine m_nm (v' := 0) rfl ?_
            refine s_iload (pc := 81) (i := 8) dX12_kneel_81 rfl ?_
            refine s_iload_n (pc := 83) (i := 1) dX12_kneel_83 rfl rfl ?_
            refine s_iload_n (pc := 84) (i := 2) dX12_kneel_84 rfl rfl ?_
            refine m_s4 (pc := 85) dX12_kneel_85 lk_X12_436 ok_X12_hasBy rfl rfl (c_X12_hasBy_01 (kt_s ?_))
            refine s_iload (pc := 88) (i := 7) dX12_kneel_88 rfl ?_
            refine s_iload (pc := 90) (i := 8) dX12_kneel_90 rfl ?_
            refine s_iload_n (pc := 92) (i := 1) dX12_kneel_92 rfl rfl ?_
            refine s_iload_n (pc := 93) (i := 2) dX12_kneel_93 rfl rfl ?_
            refine m_s4 (pc := 94) dX12_kneel_94 lk_X12_436 ok_X12_hasBy rfl rfl (c_X12_hasBy_11 (kt_s ?_))
            refine s_icgt (pc := 97) (tgt := 150) dX12_kneel_97 rfl (fun h97 => absurd h97 (fun z => (ng_3 hv).mp z ev)) (fun h97 => ?_)
            refine m_ic (pc := 100) (v := 1) dX12_kneel_100 rfl ?_
            refine s_iload (pc := 101) (i := 8) dX12_kneel_101 rfl ?_
            refine s_isub (pc := 103) dX12_kneel_103 ?_
            refine m_nm (v' := 0) rfl ?_
            refine s_iload (pc := 104) (i := 7) dX12_kneel_104 rfl ?_
            refine s_iload_n (pc := 106) (i := 1) dX12_kneel_106 rfl rfl ?_
            refine s_iload_n (pc := 107) (i := 2) dX12_kneel_107 rfl rfl ?_
            refine m_s4 (pc := 108) dX12_kneel_108 lk_X12_436 ok_X12_hasBy rfl rfl (c_X12_hasBy_01 (kt_s ?_))
            refine s_iload (pc := 111) (i := 8) dX12_kneel_111 rfl ?_
            refine s_iload (pc := 113) (i := 7) dX12_kneel_113 rfl ?_
            refine s_iload_n (pc := 115) (i := 1) dX12_kneel_115 rfl rfl ?_
            refine s_iload_n (pc := 116) (i := 2) dX12_kneel_116 rfl rfl ?_
            refine m_s4 (pc := 117) dX12_kneel_117 lk_X12_436 ok_X12_hasBy rfl rfl (c_X12_hasBy_11 (kt_s ?_))
            refine s_icle (pc := 120) (tgt := 126) dX12_kneel_120 rfl (fun h120 => ?_) (fun h120 => absurd (Int32.not_lt.mp (fun z => (ng_3 hv).mp z ev)) h120)
            refine m_inc (pc := 126) (v := 1) dX12_kneel_126 rfl rfl ?_
            dsimp only [List.set, List.filter]
            rw [show (3 : Int32) + 1 = 4 from rfl]
            refine s_iload (pc := 129) (i := 5) dX12_kneel_129 rfl ?_
            refine m_ic (pc := 131) (v := -1) dX12_kneel_131 rfl ?_
            refine s_icne (pc := 132) (tgt := 146) dX12_kneel_132 rfl (fun h132 => ?_) (fun h132 => absurd h132 (by decide))
            refine s_iload (pc := 146) (i := 5) dX12_kneel_146 rfl ?_
            refine s_istore (pc := 148) (i := 5) dX12_kneel_148 (Nat.le_of_ble_eq_true rfl) ?_
            dsimp only [List.set, List.filter]
            refine m_inc (pc := 150) (v := 1) dX12_kneel_150 rfl rfl ?_
            dsimp only [List.set, List.filter]
            rw [show (3 : Int32) + 1 = 4 from rfl]
            refine s_goto (pc := 153) (tgt := 59) dX12_kneel_153 rfl ?_
            refine s_iload (pc := 59) (i := 6) dX12_kneel_59 rfl ?_
            refine m_ic (pc := 61) (v := 4) dX12_kneel_61 rfl ?_
            refine s_icge (pc := 62) (tgt := 156) dX12_kneel_62 rfl (fun h62 => ?_) (fun h62 => absurd h62 (by decide))
            rcases (show q = 0 ∨ q = 1 ∨ q = 2 from by omega) with qe | qe | qe
            · subst qe
              refine s_iload_n (pc := 156) (i := 3) dX12_kneel_156 rfl rfl ?_
              refine s_ifne (pc := 157) (tgt := 165) dX12_kneel_157 rfl (fun h157 => absurd h157 (by decide)) (fun h157 => ?_)
              refine s_iload (pc := 160) (i := 4) dX12_kneel_160 rfl ?_
              refine s_goto (pc := 162) (tgt := 216) dX12_kneel_162 rfl ?_
              refine s_ireturn (pc := 216) dX12_kneel_216 rfl rfl ?_
              have E : vKn v u 0 = 4 := by unfold vKn; rw [if_pos rfl, if_pos eu, if_pos ev]; rfl
              have h := hg v u 0 rfl hv rfl hu rfl (by decide) _ th_k up_s
              rw [E] at h; exact h
            · subst qe
              refine s_iload_n (pc := 156) (i := 3) dX12_kneel_156 rfl rfl ?_
              refine s_ifne (pc := 157) (tgt := 165) dX12_kneel_157 rfl (fun h157 => ?_) (fun h157 => absurd h157 (by decide))
              refine s_iload_n (pc := 165) (i := 3) dX12_kneel_165 rfl rfl ?_
              refine m_ic (pc := 166) (v := 1) dX12_kneel_166 rfl ?_
              refine s_icne (pc := 167) (tgt := 175) dX12_kneel_167 rfl (fun h167 => absurd h167 (by decide)) (fun h167 => ?_)
              refine s_iload (pc := 170) (i := 5) dX12_kneel_170 rfl ?_
              refine s_goto (pc := 172) (tgt := 216) dX12_kneel_172 rfl ?_
              refine s_ireturn (pc := 216) dX12_kneel_216 rfl rfl ?_
              have E : vKn v u 1 = 0 := by unfold vKn; rw [if_neg (by decide)]
              have h := hg v u 1 rfl hv rfl hu rfl (by decide) _ th_k up_s
              rw [E] at h; exact h
            · subst qe
              refine s_iload_n (pc := 156) (i := 3) dX12_kneel_156 rfl rfl ?_
              refine s_ifne (pc := 157) (tgt := 165) dX12_kneel_157 rfl (fun h157 => ?_) (fun h157 => absurd h157 (by decide))
              refine s_iload_n (pc := 165) (i := 3) dX12_kneel_165 rfl rfl ?_
              refine m_ic (pc := 166) (v := 1) dX12_kneel_166 rfl ?_
              refine s_icne (pc := 167) (tgt := 175) dX12_kneel_167 rfl (fun h167 => ?_) (fun h167 => absurd h167 (by decide))
              refine s_iload (pc := 175) (i := 5) dX12_kneel_175 rfl ?_
              refine m_ic (pc := 177) (v := -1) dX12_kneel_177 rfl ?_
              refine s_icne (pc := 178) (tgt := 185) dX12_kneel_178 rfl (fun h178 => ?_) (fun h178 => absurd h178 (by decide))
              refine s_iload (pc := 185) (i := 5) dX12_kneel_185 rfl ?_
              refine m_bi (pc := 187) (v := 10) dX12_kneel_187 rfl ?_
              refine s_idiv (pc := 189) dX12_kneel_189 (by decide) ?_
              refine m_nm (v' := 0) (rfl) ?_
              refine s_iload (pc := 190) (i := 5) dX12_kneel_190 rfl ?_
              refine m_bi (pc := 192) (v := 10) dX12_kneel_192 rfl ?_
              refine s_irem (pc := 194) dX12_kneel_194 (by decide) ?_
              refine m_nm (v' := 0) (rfl) ?_
              refine s_iload_n (pc := 195) (i := 1) dX12_kneel_195 rfl rfl ?_
              refine s_iload_n (pc := 196) (i := 2) dX12_kneel_196 rfl rfl ?_
              refine m_s4 (pc := 197) dX12_kneel_197 lk_X12_436 ok_X12_hasBy rfl rfl (c_X12_hasBy_00 (kt_s ?_))
              refine s_iload (pc := 200) (i := 5) dX12_kneel_200 rfl ?_
              refine m_bi (pc := 202) (v := 10) dX12_kneel_202 rfl ?_
              refine s_irem (pc := 204) dX12_kneel_204 (by decide) ?_
              refine m_nm (v' := 0) (rfl) ?_
              refine s_iload (pc := 205) (i := 5) dX12_kneel_205 rfl ?_
              refine m_bi (pc := 207) (v := 10) dX12_kneel_207 rfl ?_
              refine s_idiv (pc := 209) dX12_kneel_209 (by decide) ?_
              refine m_nm (v' := 0) (rfl) ?_
              refine s_iload_n (pc := 210) (i := 1) dX12_kneel_210 rfl rfl ?_
              refine s_iload_n (pc := 211) (i := 2) dX12_kneel_211 rfl rfl ?_
              refine m_s4 (pc := 212) dX12_kneel_212 lk_X12_436 ok_X12_hasBy rfl rfl (c_X12_hasBy_00 (kt_s ?_))
              refine s_iadd (pc := 215) dX12_kneel_215 ?_
              refine m_nm (v' := 0) (rfl) ?_
              refine s_ireturn (pc := 216) dX12_kneel_216 rfl rfl ?_
              have E : vKn v u 2 = 0 := by unfold vKn; rw [if_neg (by decide)]
              have h := hg v u 2 rfl hv rfl hu rfl (by decide) _ th_k up_s
              rw [E] at h; exact h
          · skip
            refine m_ic (pc := 50) (v := 0) dX12_kneel_50 rfl ?_
            refine s_istore (pc := 51) (i := 4) dX12_kneel_51 (Nat.le_of_ble_eq_true rfl) ?_
            dsimp only [List.set, List.filter]
            refine m_ic (pc := 53) (v := -1) dX12_kneel_53 rfl ?_
            refine s_istore (pc := 54) (i := 5) dX12_kneel_54 (Nat.le_of_ble_eq_true rfl) ?_
            dsimp only [List.set, List.filter]
            refine m_ic (pc := 56) (v := 0) dX12_kneel_56 rfl ?_
            refine s_istore (pc := 57) (i := 6) dX12_kneel_57 (Nat.le_of_ble_eq_true rfl) ?_
            dsimp only [List.set, List.filter]
            refine s_iload (pc := 59) (i := 6) dX12_kneel_59 rfl ?_
            refine m_ic (pc := 61) (v := 4) dX12_kneel_61 rfl ?_
            refine s_icge (pc := 62) (tgt := 156) dX12_kneel_62 rfl (fun h62 => absurd h62 (by decide)) (fun h62 => ?_)
            refine s_iload (pc := 65) (i := 6) dX12_kneel_65 rfl ?_
            refine m_ic (pc := 67) (v := 2) dX12_kneel_67 rfl ?_
            refine s_idiv (pc := 68) dX12_kneel_68 (by decide) ?_
            refine m_nm (v' := 0) (rfl) ?_
            refine s_istore (pc := 69) (i := 7) dX12_kneel_69 (Nat.le_of_ble_eq_true rfl) ?_
            dsimp only [List.set, List.filter]
            refine s_iload (pc := 71) (i := 6) dX12_kneel_71 rfl ?_
            refine m_ic (pc := 73) (v := 2) dX12_kneel_73 rfl ?_
            refine s_irem (pc := 74) dX12_kneel_74 (by decide) ?_
            refine m_nm (v' := 0) (rfl) ?_
            refine s_istore (pc := 75) (i := 8) dX12_kneel_75 (Nat.le_of_ble_eq_true rfl) ?_
            dsimp only [List.set, List.filter]
            refine m_ic (pc := 77) (v := 1) dX12_kneel_77 rfl ?_
            refine s_iload (pc := 78) (i := 7) dX12_kneel_78 rfl ?_
            refine s_isub (pc := 80) dX12_kneel_80 ?_
            refine m_nm (v' := 1) rfl ?_
            refine s_iload (pc := 81) (i := 8) dX12_kneel_81 rfl ?_
            refine s_iload_n (pc := 83) (i := 1) dX12_kneel_83 rfl rfl ?_
            refine s_iload_n (pc := 84) (i := 2) dX12_kneel_84 rfl rfl ?_
            refine m_s4 (pc := 85) dX12_kneel_85 lk_X12_436 ok_X12_hasBy rfl rfl (c_X12_hasBy_10 (kt_s ?_))
            refine s_iload (pc := 88) (i := 7) dX12_kneel_88 rfl ?_
            refine s_iload (pc := 90) (i := 8) dX12_kneel_90 rfl ?_
            refine s_iload_n (pc := 92) (i := 1) dX12_kneel_92 rfl rfl ?_
            refine s_iload_n (pc := 93) (i := 2) dX12_kneel_93 rfl rfl ?_
            refine m_s4 (pc := 94) dX12_kneel_94 lk_X12_436 ok_X12_hasBy rfl rfl (c_X12_hasBy_00 (kt_s ?_))
            refine s_icgt (pc := 97) (tgt := 150) dX12_kneel_97 rfl (fun h97 => absurd h97 (ng_0 hu)) (fun h97 => ?_)
            refine m_ic (pc := 100) (v := 1) dX12_kneel_100 rfl ?_
            refine s_iload (pc := 101) (i := 8) dX12_kneel_101 rfl ?_
            refine s_isub (pc := 103) dX12_kneel_103 ?_
            refine m_nm (v' := 1) rfl ?_
            refine s_iload (pc := 104) (i := 7) dX12_kneel_104 rfl ?_
            refine s_iload_n (pc := 106) (i := 1) dX12_kneel_106 rfl rfl ?_
            refine s_iload_n (pc := 107) (i := 2) dX12_kneel_107 rfl rfl ?_
            refine m_s4 (pc := 108) dX12_kneel_108 lk_X12_436 ok_X12_hasBy rfl rfl (c_X12_hasBy_10 (kt_s ?_))
            refine s_iload (pc := 111) (i := 8) dX12_kneel_111 rfl ?_
            refine s_iload (pc := 113) (i := 7) dX12_kneel_113 rfl ?_
            refine s_iload_n (pc := 115) (i := 1) dX12_kneel_115 rfl rfl ?_
            refine s_iload_n (pc := 116) (i := 2) dX12_kneel_116 rfl rfl ?_
            refine m_s4 (pc := 117) dX12_kneel_117 lk_X12_436 ok_X12_hasBy rfl rfl (c_X12_hasBy_00 (kt_s ?_))
            refine s_icle (pc := 120) (tgt := 126) dX12_kneel_120 rfl (fun h120 => ?_) (fun h120 => absurd (Int32.not_lt.mp (ng_0 hu)) h120)
            refine m_inc (pc := 126) (v := 1) dX12_kneel_126 rfl rfl ?_
            dsimp only [List.set, List.filter]
            rw [show (0 : Int32) + 1 = 1 from rfl]
            refine s_iload (pc := 129) (i := 5) dX12_kneel_129 rfl ?_
            refine m_ic (pc := 131) (v := -1) dX12_kneel_131 rfl ?_
            refine s_icne (pc := 132) (tgt := 146) dX12_kneel_132 rfl (fun h132 => absurd h132 (by decide)) (fun h132 => ?_)
            refine m_bi (pc := 135) (v := 10) dX12_kneel_135 rfl ?_
            refine s_iload (pc := 137) (i := 7) dX12_kneel_137 rfl ?_
            refine s_imul (pc := 139) dX12_kneel_139 ?_
            refine m_nm (v' := 0) rfl ?_
            refine s_iload (pc := 140) (i := 8) dX12_kneel_140 rfl ?_
            refine s_iadd (pc := 142) dX12_kneel_142 ?_
            refine m_nm (v' := 0) rfl ?_
            refine s_goto (pc := 143) (tgt := 148) dX12_kneel_143 rfl ?_
            refine s_istore (pc := 148) (i := 5) dX12_kneel_148 (Nat.le_of_ble_eq_true rfl) ?_
            dsimp only [List.set, List.filter]
            refine m_inc (pc := 150) (v := 1) dX12_kneel_150 rfl rfl ?_
            dsimp only [List.set, List.filter]
            rw [show (0 : Int32) + 1 = 1 from rfl]
            refine s_goto (pc := 153) (tgt := 59) dX12_kneel_153 rfl ?_
            refine s_iload (pc := 59) (i := 6) dX12_kneel_59 rfl ?_
            refine m_ic (pc := 61) (v := 4) dX12_kneel_61 rfl ?_
            refine s_icge (pc := 62) (tgt := 156) dX12_kneel_62 rfl (fun h62 => absurd h62 (by decide)) (fun h62 => ?_)
            refine s_iload (pc := 65) (i := 6) dX12_kneel_65 rfl ?_
            refine m_ic (pc := 67) (v := 2) dX12_kneel_67 rfl ?_
            refine s_idiv (pc := 68) dX12_kneel_68 (by decide) ?_
            refine m_nm (v' := 0) (rfl) ?_
            refine s_istore (pc := 69) (i := 7) dX12_kneel_69 (Nat.le_of_ble_eq_true rfl) ?_
            dsimp only [List.set, List.filter]
            refine s_iload (pc := 71) (i := 6) dX12_kneel_71 rfl ?_
            refine m_ic (pc := 73) (v := 2) dX12_kneel_73 rfl ?_
            refine s_irem (pc := 74) dX12_kneel_74 (by decide) ?_
            refine m_nm (v' := 1) (rfl) ?_
            refine s_istore (pc := 75) (i := 8) dX12_kneel_75 (Nat.le_of_ble_eq_true rfl) ?_
            dsimp only [List.set, List.filter]
            refine m_ic (pc := 77) (v := 1) dX12_kneel_77 rfl ?_
            refine s_iload (pc := 78) (i := 7) dX12_kneel_78 rfl ?_
            refine s_isub (pc := 80) dX12_kneel_80 ?_
            refine m_nm (v' := 1) rfl ?_
            refine s_iload (pc := 81) (i := 8) dX12_kneel_81 rfl ?_
            refine s_iload_n (pc := 83) (i := 1) dX12_kneel_83 rfl rfl ?_
            refine s_iload_n (pc := 84) (i := 2) dX12_kneel_84 rfl rfl ?_
            refine m_s4 (pc := 85) dX12_kneel_85 lk_X12_436 ok_X12_hasBy rfl rfl (c_X12_hasBy_11 (kt_s ?_))
            refine s_iload (pc := 88) (i := 7) dX12_kneel_88 rfl ?_
            refine s_iload (pc := 90) (i := 8) dX12_kneel_90 rfl ?_
            refine s_iload_n (pc := 92) (i := 1) dX12_kneel_92 rfl rfl ?_
            refine s_iload_n (pc := 93) (i := 2) dX12_kneel_93 rfl rfl ?_
            refine m_s4 (pc := 94) dX12_kneel_94 lk_X12_436 ok_X12_hasBy rfl rfl (c_X12_hasBy_01 (kt_s ?_))
            refine s_icgt (pc := 97) (tgt := 150) dX12_kneel_97 rfl (fun h97 => absurd h97 (ng_2 hv)) (fun h97 => ?_)
            refine m_ic (pc := 100) (v := 1) dX12_kneel_100 rfl ?_
            refine s_iload (pc := 101) (i := 8) dX12_kneel_101 rfl ?_
            refine s_isub (pc := 103) dX12_kneel_103 ?_
            refine m_nm (v' := 0) rfl ?_
            refine s_iload (pc := 104) (i := 7) dX12_kneel_104 rfl ?_
            refine s_iload_n (pc := 106) (i := 1) dX12_kneel_106 rfl rfl ?_
            refine s_iload_n (pc := 107) (i := 2) dX12_kneel_107 rfl rfl ?_
            refine m_s4 (pc := 108) dX12_kneel_108 lk_X12_436 ok_X12_hasBy rfl rfl (c_X12_hasBy_00 (kt_s ?_))
            refine s_iload (pc := 111) (i := 8) dX12_kneel_111 rfl ?_
            refine s_iload (pc := 113) (i := 7) dX12_kneel_113 rfl ?_
            refine s_iload_n (pc := 115) (i := 1) dX12_kneel_115 rfl rfl ?_
            refine s_iload_n (pc := 116) (i := 2) dX12_kneel_116 rfl rfl ?_
            refine m_s4 (pc := 117) dX12_kneel_117 lk_X12_436 ok_X12_hasBy rfl rfl (c_X12_hasBy_10 (kt_s ?_))
            refine s_icle (pc := 120) (tgt := 126) dX12_kneel_120 rfl (fun h120 => ?_) (fun h120 => absurd (Int32.not_lt.mp (fun z => (ng_1 hu).mp z eu)) h120)
            refine m_inc (pc := 126) (v := 1) dX12_kneel_126 rfl rfl ?_
            dsimp only [List.set, List.filter]
            rw [show (1 : Int32) + 1 = 2 from rfl]
            refine s_iload (pc := 129) (i := 5) dX12_kneel_129 rfl ?_
            refine m_ic (pc := 131) (v := -1) dX12_kneel_131 rfl ?_
            refine s_icne (pc := 132) (tgt := 146) dX12_kneel_132 rfl (fun h132 => ?_) (fun h132 => absurd h132 (by decide))
            refine s_iload (pc := 146) (i := 5) dX12_kneel_146 rfl ?_
            refine s_istore (pc := 148) (i := 5) dX12_kneel_148 (Nat.le_of_ble_eq_true rfl) ?_
            dsimp only [List.set, List.filter]
            refine m_inc (pc := 150) (v := 1) dX12_kneel_150 rfl rfl ?_
            dsimp only [List.set, List.filter]
            rw [show (1 : Int32) + 1 = 2 from rfl]
            refine s_goto (pc := 153) (tgt := 59) dX12_kneel_153 rfl ?_
            refine s_iload (pc := 59) (i := 6) dX12_kneel_59 rfl ?_
            refine m_ic (pc := 61) (v := 4) dX12_kneel_61 rfl ?_
            refine s_icge (pc := 62) (tgt := 156) dX12_kneel_62 rfl (fun h62 => absurd h62 (by decide)) (fun h62 => ?_)
            refine s_iload (pc := 65) (i := 6) dX12_kneel_65 rfl ?_
            refine m_ic (pc := 67) (v := 2) dX12_kneel_67 rfl ?_
            refine s_idiv (pc := 68) dX12_kneel_68 (by decide) ?_
            refine m_nm (v' := 1) (rfl) ?_
            refine s_istore (pc := 69) (i := 7) dX12_kneel_69 (Nat.le_of_ble_eq_true rfl) ?_
            dsimp only [List.set, List.filter]
            refine s_iload (pc := 71) (i := 6) dX12_kneel_71 rfl ?_
            refine m_ic (pc := 73) (v := 2) dX12_kneel_73 rfl ?_
            refine s_irem (pc := 74) dX12_kneel_74 (by decide) ?_
            refine m_nm (v' := 0) (rfl) ?_
            refine s_istore (pc := 75) (i := 8) dX12_kneel_75 (Nat.le_of_ble_eq_true rfl) ?_
            dsimp only [List.set, List.filter]
            refine m_ic (pc := 77) (v := 1) dX12_kneel_77 rfl ?_
            refine s_iload (pc := 78) (i := 7) dX12_kneel_78 rfl ?_
            refine s_isub (pc := 80) dX12_kneel_80 ?_
            refine m_nm (v' := 0) rfl ?_
            refine s_iload (pc := 81) (i := 8) dX12_kneel_81 rfl ?_
            refine s_iload_n (pc := 83) (i := 1) dX12_kneel_83 rfl rfl ?_
            refine s_iload_n (pc := 84) (i := 2) dX12_kneel_84 rfl rfl ?_
            refine m_s4 (pc := 85) dX12_kneel_85 lk_X12_436 ok_X12_hasBy rfl rfl (c_X12_hasBy_00 (kt_s ?_))
            refine s_iload (pc := 88) (i := 7) dX12_kneel_88 rfl ?_
            refine s_iload (pc := 90) (i := 8) dX12_kneel_90 rfl ?_
            refine s_iload_n (pc := 92) (i := 1) dX12_kneel_92 rfl rfl ?_
            refine s_iload_n (pc := 93) (i := 2) dX12_kneel_93 rfl rfl ?_
            refine m_s4 (pc := 94) dX12_kneel_94 lk_X12_436 ok_X12_hasBy rfl rfl (c_X12_hasBy_10 (kt_s ?_))
            refine s_icgt (pc := 97) (tgt := 150) dX12_kneel_97 rfl (fun h97 => absurd h97 (fun z => (ng_1 hu).mp z eu)) (fun h97 => ?_)
            refine m_ic (pc := 100) (v := 1) dX12_kneel_100 rfl ?_
            refine s_iload (pc := 101) (i := 8) dX12_kneel_101 rfl ?_
            refine s_isub (pc := 103) dX12_kneel_103 ?_
            refine m_nm (v' := 1) rfl ?_
            refine s_iload (pc := 104) (i := 7) dX12_kneel_104 rfl ?_
            refine s_iload_n (pc := 106) (i := 1) dX12_kneel_106 rfl rfl ?_
            refine s_iload_n (pc := 107) (i := 2) dX12_kneel_107 rfl rfl ?_
            refine m_s4 (pc := 108) dX12_kneel_108 lk_X12_436 ok_X12_hasBy rfl rfl (c_X12_hasBy_11 (kt_s ?_))
            refine s_iload (pc := 111) (i := 8) dX12_kneel_111 rfl ?_
            refine s_iload (pc := 113) (i := 7) dX12_kneel_113 rfl ?_
            refine s_iload_n (pc := 115) (i := 1) dX12_kneel_115 rfl rfl ?_
            refine s_iload_n (pc := 116) (i := 2) dX12_kneel_116 rfl rfl ?_
            refine m_s4 (pc := 117) dX12_kneel_117 lk_X12_436 ok_X12_hasBy rfl rfl (c_X12_hasBy_01 (kt_s ?_))
            refine s_icle (pc := 120) (tgt := 126) dX12_kneel_120 rfl (fun h120 => ?_) (fun h120 => absurd (Int32.not_lt.mp (ng_2 hv)) h120)
            refine m_inc (pc := 126) (v := 1) dX12_kneel_126 rfl rfl ?_
            dsimp only [List.set, List.filter]
            rw [show (2 : Int32) + 1 = 3 from rfl]
            refine s_iload (pc := 129) (i := 5) dX12_kneel_129 rfl ?_
            refine m_ic (pc := 131) (v := -1) dX12_kneel_131 rfl ?_
            refine s_icne (pc := 132) (tgt := 146) dX12_kneel_132 rfl (fun h132 => ?_) (fun h132 => absurd h132 (by decide))
            refine s_iload (pc := 146) (i := 5) dX12_kneel_146 rfl ?_
            refine s_istore (pc := 148) (i := 5) dX12_kneel_148 (Nat.le_of_ble_eq_true rfl) ?_
            dsimp only [List.set, List.filter]
            refine m_inc (pc := 150) (v := 1) dX12_kneel_150 rfl rfl ?_
            dsimp only [List.set, List.filter]
            rw [show (2 : Int32) + 1 = 3 from rfl]
            refine s_goto (pc := 153) (tgt := 59) dX12_kneel_153 rfl ?_
            refine s_iload (pc := 59) (i := 6) dX12_kneel_59 rfl ?_
            refine m_ic (pc := 61) (v := 4) dX12_kneel_61 rfl ?_
            refine s_icge (pc := 62) (tgt := 156) dX12_kneel_62 rfl (fun h62 => absurd h62 (by decide)) (fun h62 => ?_)
            refine s_iload (pc := 65) (i := 6) dX12_kneel_65 rfl ?_
            refine m_ic (pc := 67) (v := 2) dX12_kneel_67 rfl ?_
            refine s_idiv (pc := 68) dX12_kneel_68 (by decide) ?_
            refine m_nm (v' := 1) (rfl) ?_
            refine s_istore (pc := 69) (i := 7) dX12_kneel_69 (Nat.le_of_ble_eq_true rfl) ?_
            dsimp only [List.set, List.filter]
            refine s_iload (pc := 71) (i := 6) dX12_kneel_71 rfl ?_
            refine m_ic (pc := 73) (v := 2) dX12_kneel_73 rfl ?_
            refine s_irem (pc := 74) dX12_kneel_74 (by decide) ?_
            refine m_nm (v' := 1) (rfl) ?_
            refine s_istore (pc := 75) (i := 8) dX12_kneel_75 (Nat.le_of_ble_eq_true rfl) ?_
            dsimp only [List.set, List.filter]
            refine m_ic (pc := 77) (v := 1) dX12_kneel_77 rfl ?_
            refine s_iload (pc := 78) (i := 7) dX12_kneel_78 rfl ?_
            refine s_isub (pc := 80) dX12_kneel_80 ?_
            refine m_nm (v' := 0) rfl ?_
            refine s_iload (pc := 81) (i := 8) dX12_kneel_81 rfl ?_
            refine s_iload_n (pc := 83) (i := 1) dX12_kneel_83 rfl rfl ?_
            refine s_iload_n (pc := 84) (i := 2) dX12_kneel_84 rfl rfl ?_
            refine m_s4 (pc := 85) dX12_kneel_85 lk_X12_436 ok_X12_hasBy rfl rfl (c_X12_hasBy_01 (kt_s ?_))
            refine s_iload (pc := 88) (i := 7) dX12_kneel_88 rfl ?_
            refine s_iload (pc := 90) (i := 8) dX12_kneel_90 rfl ?_
            refine s_iload_n (pc := 92) (i := 1) dX12_kneel_92 rfl rfl ?_
            refine s_iload_n (pc := 93) (i := 2) dX12_kneel_93 rfl rfl ?_
            refine m_s4 (pc := 94) dX12_kneel_94 lk_X12_436 ok_X12_hasBy rfl rfl (c_X12_hasBy_11 (kt_s ?_))
            refine s_icgt (pc := 97) (tgt := 150) dX12_kneel_97 rfl (fun h97 => ?_) (fun h97 => absurd ((ng_3 hv).mpr ev) h97)
            refine m_inc (pc := 150) (v := 1) dX12_kneel_150 rfl rfl ?_
            dsimp only [List.set, List.filter]
            rw [show (3 : Int32) + 1 = 4 from rfl]
            refine s_goto (pc := 153) (tgt := 59) dX12_kneel_153 rfl ?_
            refine s_iload (pc := 59) (i := 6) dX12_kneel_59 rfl ?_
            refine m_ic (pc := 61) (v := 4) dX12_kneel_61 rfl ?_
            refine s_icge (pc := 62) (tgt := 156) dX12_kneel_62 rfl (fun h62 => ?_) (fun h62 => absurd h62 (by decide))
            rcases (show q = 0 ∨ q = 1 ∨ q = 2 from by omega) with qe | qe | qe
            · subst qe
              refine s_iload_n (pc := 156) (i := 3) dX12_kneel_156 rfl rfl ?_
              refine s_ifne (pc := 157) (tgt := 165) dX12_kneel_157 rfl (fun h157 => absurd h157 (by decide)) (fun h157 => ?_)
              refine s_iload (pc := 160) (i := 4) dX12_kneel_160 rfl ?_
              refine s_goto (pc := 162) (tgt := 216) dX12_kneel_162 rfl ?_
              refine s_ireturn (pc := 216) dX12_kneel_216 rfl rfl ?_
              have E : vKn v u 0 = 3 := by unfold vKn; rw [if_pos rfl, if_pos eu, if_neg ev]; rfl
              have h := hg v u 0 rfl hv rfl hu rfl (by decide) _ th_k up_s
              rw [E] at h; exact h
            · subst qe
              refine s_iload_n (pc := 156) (i := 3) dX12_kneel_156 rfl rfl ?_
              refine s_ifne (pc := 157) (tgt := 165) dX12_kneel_157 rfl (fun h157 => ?_) (fun h157 => absurd h157 (by decide))
              refine s_iload_n (pc := 165) (i := 3) dX12_kneel_165 rfl rfl ?_
              refine m_ic (pc := 166) (v := 1) dX12_kneel_166 rfl ?_
              refine s_icne (pc := 167) (tgt := 175) dX12_kneel_167 rfl (fun h167 => absurd h167 (by decide)) (fun h167 => ?_)
              refine s_iload (pc := 170) (i := 5) dX12_kneel_170 rfl ?_
              refine s_goto (pc := 172) (tgt := 216) dX12_kneel_172 rfl ?_
              refine s_ireturn (pc := 216) dX12_kneel_216 rfl rfl ?_
              have E : vKn v u 1 = 0 := by unfold vKn; rw [if_neg (by decide)]
              have h := hg v u 1 rfl hv rfl hu rfl (by decide) _ th_k up_s
              rw [E] at h; exact h
            · subst qe
              refine s_iload_n (pc := 156) (i := 3) dX12_kneel_156 rfl rfl ?_
              refine s_ifne (pc := 157) (tgt := 165) dX12_kneel_157 rfl (fun h157 => ?_) (fun h157 => absurd h157 (by decide))
              refine s_iload_n (pc := 165) (i := 3) dX12_kneel_165 rfl rfl ?_
              refine m_ic (pc := 166) (v := 1) dX12_kneel_166 rfl ?_
              refine s_icne (pc := 167) (tgt := 175) dX12_kneel_167 rfl (fun h167 => ?_) (fun h167 => absurd h167 (by decide))
              refine s_iload (pc := 175) (i := 5) dX12_kneel_175 rfl ?_
              refine m_ic (pc := 177) (v := -1) dX12_kneel_177 rfl ?_
              refine s_icne (pc := 178) (tgt := 185) dX12_kneel_178 rfl (fun h178 => ?_) (fun h178 => absurd h178 (by decide))
              refine s_iload (pc := 185) (i := 5) dX12_kneel_185 rfl ?_
              refine m_bi (pc := 187) (v := 10) dX12_kneel_187 rfl ?_
              refine s_idiv (pc := 189) dX12_kneel_189 (by decide) ?_
              refine m_nm (v' := 0) (rfl) ?_
              refine s_iload (pc := 190) (i := 5) dX12_kneel_190 rfl ?_
              refine m_bi (pc := 192) (v := 10) dX12_kneel_192 rfl ?_
              refine s_irem (pc := 194) dX12_kneel_194 (by decide) ?_
              refine m_nm (v' := 0) (rfl) ?_
              refine s_iload_n (pc := 195) (i := 1) dX12_kneel_195 rfl rfl ?_
              refine s_iload_n (pc := 196) (i := 2) dX12_kneel_196 rfl rfl ?_
              refine m_s4 (pc := 197) dX12_kneel_197 lk_X12_436 ok_X12_hasBy rfl rfl (c_X12_hasBy_00 (kt_s ?_))
              refine s_iload (pc := 200) (i := 5) dX12_kneel_200 rfl ?_
              refine m_bi (pc := 202) (v := 10) dX12_kneel_202 rfl ?_
              refine s_irem (pc := 204) dX12_kneel_204 (by decide) ?_
              refine m_nm (v' := 0) (rfl) ?_
              refine s_iload (pc := 205) (i := 5) dX12_kneel_205 rfl ?_
              refine m_bi (pc := 207) (v := 10) dX12_kneel_207 rfl ?_
              refine s_idiv (pc := 209) dX12_kneel_209 (by decide) ?_
              refine m_nm (v' := 0) (rfl) ?_
              refine s_iload_n (pc := 210) (i := 1) dX12_kneel_210 rfl rfl ?_
              refine s_iload_n (pc := 211) (i := 2) dX12_kneel_211 rfl rfl ?_
              refine m_s4 (pc := 212) dX12_kneel_212 lk_X12_436 ok_X12_hasBy rfl rfl (c_X12_hasBy_00 (kt_s ?_))
              refine s_iadd (pc := 215) dX12_kneel_215 ?_
              refine m_nm (v' := 0) (rfl) ?_
              refine s_ireturn (pc := 216) dX12_kneel_216 rfl rfl ?_
              have E : vKn v u 2 = 0 := by unfold vKn; rw [if_neg (by decide)]
              have h := hg v u 2 rfl hv rfl hu rfl (by decide) _ th_k up_s
              rw [E] at h; exact h
          · skip
            refine m_ic (pc := 50) (v := 0) dX12_kneel_50 rfl ?_
            refine s_istore (pc := 51) (i := 4) dX12_kneel_51 (Nat.le_of_ble_eq_true rfl) ?_
            dsimp only [List.set, List.filter]
            refine m_ic (pc := 53) (v := -1) dX12_kneel_53 rfl ?_
            refine s_istore (pc := 54) (i := 5) dX12_kneel_54 (Nat.le_of_ble_eq_true rfl) ?_
            dsimp only [List.set, List.filter]
            refine m_ic (pc := 56) (v := 0) dX12_kneel_56 rfl ?_
            refine s_istore (pc := 57) (i := 6) dX12_kneel_57 (Nat.le_of_ble_eq_true rfl) ?_
            dsimp only [List.set, List.filter]
            refine s_iload (pc := 59) (i := 6) dX12_kneel_59 rfl ?_
            refine m_ic (pc := 61) (v := 4) dX12_kneel_61 rfl ?_
            refine s_icge (pc := 62) (tgt := 156) dX12_kneel_62 rfl (fun h62 => absurd h62 (by decide)) (fun h62 => ?_)
            refine s_iload (pc := 65) (i := 6) dX12_kneel_65 rfl ?_
            refine m_ic (pc := 67) (v := 2) dX12_kneel_67 rfl ?_
            refine s_idiv (pc := 68) dX12_kneel_68 (by decide) ?_
            refine m_nm (v' := 0) (rfl) ?_
            refine s_istore (pc := 69) (i := 7) dX12_kneel_69 (Nat.le_of_ble_eq_true rfl) ?_
            dsimp only [List.set, List.filter]
            refine s_iload (pc := 71) (i := 6) dX12_kneel_71 rfl ?_
            refine m_ic (pc := 73) (v := 2) dX12_kneel_73 rfl ?_
            refine s_irem (pc := 74) dX12_kneel_74 (by decide) ?_
            refine m_nm (v' := 0) (rfl) ?_
            refine s_istore (pc := 75) (i := 8) dX12_kneel_75 (Nat.le_of_ble_eq_true rfl) ?_
            dsimp only [List.set, List.filter]
            refine m_ic (pc := 77) (v := 1) dX12_kneel_77 rfl ?_
            refine s_iload (pc := 78) (i := 7) dX12_kneel_78 rfl ?_
            refine s_isub (pc := 80) dX12_kneel_80 ?_
            refine m_nm (v' := 1) rfl ?_
            refine s_iload (pc := 81) (i := 8) dX12_kneel_81 rfl ?_
            refine s_iload_n (pc := 83) (i := 1) dX12_kneel_83 rfl rfl ?_
            refine s_iload_n (pc := 84) (i := 2) dX12_kneel_84 rfl rfl ?_
            refine m_s4 (pc := 85) dX12_kneel_85 lk_X12_436 ok_X12_hasBy rfl rfl (c_X12_hasBy_10 (kt_s ?_))
            refine s_iload (pc := 88) (i := 7) dX12_kneel_88 rfl ?_
            refine s_iload (pc := 90) (i := 8) dX12_kneel_90 rfl ?_
            refine s_iload_n (pc := 92) (i := 1) dX12_kneel_92 rfl rfl ?_
            refine s_iload_n (pc := 93) (i := 2) dX12_kneel_93 rfl rfl ?_
            refine m_s4 (pc := 94) dX12_kneel_94 lk_X12_436 ok_X12_hasBy rfl rfl (c_X12_hasBy_00 (kt_s ?_))
            refine s_icgt (pc := 97) (tgt := 150) dX12_kneel_97 rfl (fun h97 => absurd h97 (ng_0 hu)) (fun h97 => ?_)
            refine m_ic (pc := 100) (v := 1) dX12_kneel_100 rfl ?_
            refine s_iload (pc := 101) (i := 8) dX12_kneel_101 rfl ?_
            refine s_isub (pc := 103) dX12_kneel_103 ?_
            refine m_nm (v' := 1) rfl ?_
            refine s_iload (pc := 104) (i := 7) dX12_kneel_104 rfl ?_
            refine s_iload_n (pc := 106) (i := 1) dX12_kneel_106 rfl rfl ?_
            refine s_iload_n (pc := 107) (i := 2) dX12_kneel_107 rfl rfl ?_
            refine m_s4 (pc := 108) dX12_kneel_108 lk_X12_436 ok_X12_hasBy rfl rfl (c_X12_hasBy_10 (kt_s ?_))
            refine s_iload (pc := 111) (i := 8) dX12_kneel_111 rfl ?_
            refine s_iload (pc := 113) (i := 7) dX12_kneel_113 rfl ?_
            refine s_iload_n (pc := 115) (i := 1) dX12_kneel_115 rfl rfl ?_
            refine s_iload_n (pc := 116) (i := 2) dX12_kneel_116 rfl rfl ?_
            refine m_s4 (pc := 117) dX12_kneel_117 lk_X12_436 ok_X12_hasBy rfl rfl (c_X12_hasBy_00 (kt_s ?_))
            refine s_icle (pc := 120) (tgt := 126) dX12_kneel_120 rfl (fun h120 => ?_) (fun h120 => absurd (Int32.not_lt.mp (ng_0 hu)) h120)
            refine m_inc (pc := 126) (v := 1) dX12_kneel_126 rfl rfl ?_
            dsimp only [List.set, List.filter]
            rw [show (0 : Int32) + 1 = 1 from rfl]
            refine s_iload (pc := 129) (i := 5) dX12_kneel_129 rfl ?_
            refine m_ic (pc := 131) (v := -1) dX12_kneel_131 rfl ?_
            refine s_icne (pc := 132) (tgt := 146) dX12_kneel_132 rfl (fun h132 => absurd h132 (by decide)) (fun h132 => ?_)
            refine m_bi (pc := 135) (v := 10) dX12_kneel_135 rfl ?_
            refine s_iload (pc := 137) (i := 7) dX12_kneel_137 rfl ?_
            refine s_imul (pc := 139) dX12_kneel_139 ?_
            refine m_nm (v' := 0) rfl ?_
            refine s_iload (pc := 140) (i := 8) dX12_kneel_140 rfl ?_
            refine s_iadd (pc := 142) dX12_kneel_142 ?_
            refine m_nm (v' := 0) rfl ?_
            refine s_goto (pc := 143) (tgt := 148) dX12_kneel_143 rfl ?_
            refine s_istore (pc := 148) (i := 5) dX12_kneel_148 (Nat.le_of_ble_eq_true rfl) ?_
            dsimp only [List.set, List.filter]
            refine m_inc (pc := 150) (v := 1) dX12_kneel_150 rfl rfl ?_
            dsimp only [List.set, List.filter]
            rw [show (0 : Int32) + 1 = 1 from rfl]
            refine s_goto (pc := 153) (tgt := 59) dX12_kneel_153 rfl ?_
            refine s_iload (pc := 59) (i := 6) dX12_kneel_59 rfl ?_
            refine m_ic (pc := 61) (v := 4) dX12_kneel_61 rfl ?_
            refine s_icge (pc := 62) (tgt := 156) dX12_kneel_62 rfl (fun h62 => absurd h62 (by decide)) (fun h62 => ?_)
            refine s_iload (pc := 65) (i := 6) dX12_kneel_65 rfl ?_
            refine m_ic (pc := 67) (v := 2) dX12_kneel_67 rfl ?_
            refine s_idiv (pc := 68) dX12_kneel_68 (by decide) ?_
            refine m_nm (v' := 0) (rfl) ?_
            refine s_istore (pc := 69) (i := 7) dX12_kneel_69 (Nat.le_of_ble_eq_true rfl) ?_
            dsimp only [List.set, List.filter]
            refine s_iload (pc := 71) (i := 6) dX12_kneel_71 rfl ?_
            refine m_ic (pc := 73) (v := 2) dX12_kneel_73 rfl ?_
            refine s_irem (pc := 74) dX12_kneel_74 (by decide) ?_
            refine m_nm (v' := 1) (rfl) ?_
            refine s_istore (pc := 75) (i := 8) dX12_kneel_75 (Nat.le_of_ble_eq_true rfl) ?_
            dsimp only [List.set, List.filter]
            refine m_ic (pc := 77) (v := 1) dX12_kneel_77 rfl ?_
            refine s_iload (pc := 78) (i := 7) dX12_kneel_78 rfl ?_
            refine s_isub (pc := 80) dX12_kneel_80 ?_
            refine m_nm (v' := 1) rfl ?_
            refine s_iload (pc := 81) (i := 8) dX12_kneel_81 rfl ?_
            refine s_iload_n (pc := 83) (i := 1) dX12_kneel_83 rfl rfl ?_
            refine s_iload_n (pc := 84) (i := 2) dX12_kneel_84 rfl rfl ?_
            refine m_s4 (pc := 85) dX12_kneel_85 lk_X12_436 ok_X12_hasBy rfl rfl (c_X12_hasBy_11 (kt_s ?_))
            refine s_iload (pc := 88) (i := 7) dX12_kneel_88 rfl ?_
            refine s_iload (pc := 90) (i := 8) dX12_kneel_90 rfl ?_
            refine s_iload_n (pc := 92) (i := 1) dX12_kneel_92 rfl rfl ?_
            refine s_iload_n (pc := 93) (i := 2) dX12_kneel_93 rfl rfl ?_
            refine m_s4 (pc := 94) dX12_kneel_94 lk_X12_436 ok_X12_hasBy rfl rfl (c_X12_hasBy_01 (kt_s ?_))
            refine s_icgt (pc := 97) (tgt := 150) dX12_kneel_97 rfl (fun h97 => absurd h97 (ng_2 hv)) (fun h97 => ?_)
            refine m_ic (pc := 100) (v := 1) dX12_kneel_100 rfl ?_
            refine s_iload (pc := 101) (i := 8) dX12_kneel_101 rfl ?_
            refine s_isub (pc := 103) dX12_kneel_103 ?_
            refine m_nm (v' := 0) rfl ?_
            refine s_iload (pc := 104) (i := 7) dX12_kneel_104 rfl ?_
            refine s_iload_n (pc := 106) (i := 1) dX12_kneel_106 rfl rfl ?_
            refine s_iload_n (pc := 107) (i := 2) dX12_kneel_107 rfl rfl ?_
            refine m_s4 (pc := 108) dX12_kneel_108 lk_X12_436 ok_X12_hasBy rfl rfl (c_X12_hasBy_00 (kt_s ?_))
            refine s_iload (pc := 111) (i := 8) dX12_kneel_111 rfl ?_
            refine s_iload (pc := 113) (i := 7) dX12_kneel_113 rfl ?_
            refine s_iload_n (pc := 115) (i := 1) dX12_kneel_115 rfl rfl ?_
            refine s_iload_n (pc := 116) (i := 2) dX12_kneel_116 rfl rfl ?_
            refine m_s4 (pc := 117) dX12_kneel_117 lk_X12_436 ok_X12_hasBy rfl rfl (c_X12_hasBy_10 (kt_s ?_))
            refine s_icle (pc := 120) (tgt := 126) dX12_kneel_120 rfl (fun h120 => absurd h120 (Int32.not_le.mpr ((ng_1 hu).mpr eu))) (fun h120 => ?_)
            refine s_goto (pc := 123) (tgt := 150) dX12_kneel_123 rfl ?_
            refine m_inc (pc := 150) (v := 1) dX12_kneel_150 rfl rfl ?_
            dsimp only [List.set, List.filter]
            rw [show (1 : Int32) + 1 = 2 from rfl]
            refine s_goto (pc := 153) (tgt := 59) dX12_kneel_153 rfl ?_
            refine s_iload (pc := 59) (i := 6) dX12_kneel_59 rfl ?_
            refine m_ic (pc := 61) (v := 4) dX12_kneel_61 rfl ?_
            refine s_icge (pc := 62) (tgt := 156) dX12_kneel_62 rfl (fun h62 => absurd h62 (by decide)) (fun h62 => ?_)
            refine s_iload (pc := 65) (i := 6) dX12_kneel_65 rfl ?_
            refine m_ic (pc := 67) (v := 2) dX12_kneel_67 rfl ?_
            refine s_idiv (pc := 68) dX12_kneel_68 (by decide) ?_
            refine m_nm (v' := 1) (rfl) ?_
            refine s_istore (pc := 69) (i := 7) dX12_kneel_69 (Nat.le_of_ble_eq_true rfl) ?_
            dsimp only [List.set, List.filter]
            refine s_iload (pc := 71) (i := 6) dX12_kneel_71 rfl ?_
            refine m_ic (pc := 73) (v := 2) dX12_kneel_73 rfl ?_
            refine s_irem (pc := 74) dX12_kneel_74 (by decide) ?_
            refine m_nm (v' := 0) (rfl) ?_
            refine s_istore (pc := 75) (i := 8) dX12_kneel_75 (Nat.le_of_ble_eq_true rfl) ?_
            dsimp only [List.set, List.filter]
            refine m_ic (pc := 77) (v := 1) dX12_kneel_77 rfl ?_
            refine s_iload (pc := 78) (i := 7) dX12_kneel_78 rfl ?_
            refine s_isub (pc := 80) dX12_kneel_80 ?_
            refine m_nm (v' := 0) rfl ?_
            refine s_iload (pc := 81) (i := 8) dX12_kneel_81 rfl ?_
            refine s_iload_n (pc := 83) (i := 1) dX12_kneel_83 rfl rfl ?_
            refine s_iload_n (pc := 84) (i := 2) dX12_kneel_84 rfl rfl ?_
            refine m_s4 (pc := 85) dX12_kneel_85 lk_X12_436 ok_X12_hasBy rfl rfl (c_X12_hasBy_00 (kt_s ?_))
            refine s_iload (pc := 88) (i := 7) dX12_kneel_88 rfl ?_
            refine s_iload (pc := 90) (i := 8) dX12_kneel_90 rfl ?_
            refine s_iload_n (pc := 92) (i := 1) dX12_kneel_92 rfl rfl ?_
            refine s_iload_n (pc := 93) (i := 2) dX12_kneel_93 rfl rfl ?_
            refine m_s4 (pc := 94) dX12_kneel_94 lk_X12_436 ok_X12_hasBy rfl rfl (c_X12_hasBy_10 (kt_s ?_))
            refine s_icgt (pc := 97) (tgt := 150) dX12_kneel_97 rfl (fun h97 => ?_) (fun h97 => absurd ((ng_1 hu).mpr eu) h97)
            refine m_inc (pc := 150) (v := 1) dX12_kneel_150 rfl rfl ?_
            dsimp only [List.set, List.filter]
            rw [show (2 : Int32) + 1 = 3 from rfl]
            refine s_goto (pc := 153) (tgt := 59) dX12_kneel_153 rfl ?_
            refine s_iload (pc := 59) (i := 6) dX12_kneel_59 rfl ?_
            refine m_ic (pc := 61) (v := 4) dX12_kneel_61 rfl ?_
            refine s_icge (pc := 62) (tgt := 156) dX12_kneel_62 rfl (fun h62 => absurd h62 (by decide)) (fun h62 => ?_)
            refine s_iload (pc := 65) (i := 6) dX12_kneel_65 rfl ?_
            refine m_ic (pc := 67) (v := 2) dX12_kneel_67 rfl ?_
            refine s_idiv (pc := 68) dX12_kneel_68 (by decide) ?_
            refine m_nm (v' := 1) (rfl) ?_
            refine s_istore (pc := 69) (i := 7) dX12_kneel_69 (Nat.le_of_ble_eq_true rfl) ?_
            dsimp only [List.set, List.filter]
            refine s_iload (pc := 71) (i := 6) dX12_kneel_71 rfl ?_
            refine m_ic (pc := 73) (v := 2) dX12_kneel_73 rfl ?_
            refine s_irem (pc := 74) dX12_kneel_74 (by decide) ?_
            refine m_nm (v' := 1) (rfl) ?_
            refine s_istore (pc := 75) (i := 8) dX12_kneel_75 (Nat.le_of_ble_eq_true rfl) ?_
            dsimp only [List.set, List.filter]
            refine m_ic (pc := 77) (v := 1) dX12_kneel_77 rfl ?_
            refine s_iload (pc := 78) (i := 7) dX12_kneel_78 rfl ?_
            refine s_isub (pc := 80) dX12_kneel_80 ?_
            refine m_nm (v' := 0) rfl ?_
            refine s_iload (pc := 81) (i := 8) dX12_kneel_81 rfl ?_
            refine s_iload_n (pc := 83) (i := 1) dX12_kneel_83 rfl rfl ?_
            refine s_iload_n (pc := 84) (i := 2) dX12_kneel_84 rfl rfl ?_
            refine m_s4 (pc := 85) dX12_kneel_85 lk_X12_436 ok_X12_hasBy rfl rfl (c_X12_hasBy_01 (kt_s ?_))
            refine s_iload (pc := 88) (i := 7) dX12_kneel_88 rfl ?_
            refine s_iload (pc := 90) (i := 8) dX12_kneel_90 rfl ?_
            refine s_iload_n (pc := 92) (i := 1) dX12_kneel_92 rfl rfl ?_
            refine s_iload_n (pc := 93) (i := 2) dX12_kneel_93 rfl rfl ?_
            refine m_s4 (pc := 94) dX12_kneel_94 lk_X12_436 ok_X12_hasBy rfl rfl (c_X12_hasBy_11 (kt_s ?_))
            refine s_icgt (pc := 97) (tgt := 150) dX12_kneel_97 rfl (fun h97 => absurd h97 (fun z => (ng_3 hv).mp z ev)) (fun h97 => ?_)
            refine m_ic (pc := 100) (v := 1) dX12_kneel_100 rfl ?_
            refine s_iload (pc := 101) (i := 8) dX12_kneel_101 rfl ?_
            refine s_isub (pc := 103) dX12_kneel_103 ?_
            refine m_nm (v' := 0) rfl ?_
            refine s_iload (pc := 104) (i := 7) dX12_kneel_104 rfl ?_
            refine s_iload_n (pc := 106) (i := 1) dX12_kneel_106 rfl rfl ?_
            refine s_iload_n (pc := 107) (i := 2) dX12_kneel_107 rfl rfl ?_
            refine m_s4 (pc := 108) dX12_kneel_108 lk_X12_436 ok_X12_hasBy rfl rfl (c_X12_hasBy_01 (kt_s ?_))
            refine s_iload (pc := 111) (i := 8) dX12_kneel_111 rfl ?_
            refine s_iload (pc := 113) (i := 7) dX12_kneel_113 rfl ?_
            refine s_iload_n (pc := 115) (i := 1) dX12_kneel_115 rfl rfl ?_
            refine s_iload_n (pc := 116) (i := 2) dX12_kneel_116 rfl rfl ?_
            refine m_s4 (pc := 117) dX12_kneel_117 lk_X12_436 ok_X12_hasBy rfl rfl (c_X12_hasBy_11 (kt_s ?_))
            refine s_icle (pc := 120) (tgt := 126) dX12_kneel_120 rfl (fun h120 => ?_) (fun h120 => absurd (Int32.not_lt.mp (fun z => (ng_3 hv).mp z ev)) h120)
            refine m_inc (pc := 126) (v := 1) dX12_kneel_126 rfl rfl ?_
            dsimp only [List.set, List.filter]
            rw [show (1 : Int32) + 1 = 2 from rfl]
            refine s_iload (pc := 129) (i := 5) dX12_kneel_129 rfl ?_
            refine m_ic (pc := 131) (v := -1) dX12_kneel_131 rfl ?_
            refine s_icne (pc := 132) (tgt := 146) dX12_kneel_132 rfl (fun h132 => ?_) (fun h132 => absurd h132 (by decide))
            refine s_iload (pc := 146) (i := 5) dX12_kneel_146 rfl ?_
            refine s_istore (pc := 148) (i := 5) dX12_kneel_148 (Nat.le_of_ble_eq_true rfl) ?_
            dsimp only [List.set, List.filter]
            refine m_inc (pc := 150) (v := 1) dX12_kneel_150 rfl rfl ?_
            dsimp only [List.set, List.filter]
            rw [show (3 : Int32) + 1 = 4 from rfl]
            refine s_goto (pc := 153) (tgt := 59) dX12_kneel_153 rfl ?_
            refine s_iload (pc := 59) (i := 6) dX12_kneel_59 rfl ?_
            refine m_ic (pc := 61) (v := 4) dX12_kneel_61 rfl ?_
            refine s_icge (pc := 62) (tgt := 156) dX12_kneel_62 rfl (fun h62 => ?_) (fun h62 => absurd h62 (by decide))
            rcases (show q = 0 ∨ q = 1 ∨ q = 2 from by omega) with qe | qe | qe
            · subst qe
              refine s_iload_n (pc := 156) (i := 3) dX12_kneel_156 rfl rfl ?_
              refine s_ifne (pc := 157) (tgt := 165) dX12_kneel_157 rfl (fun h157 => absurd h157 (by decide)) (fun h157 => ?_)
              refine s_iload (pc := 160) (i := 4) dX12_kneel_160 rfl ?_
              refine s_goto (pc := 162) (tgt := 216) dX12_kneel_162 rfl ?_
              refine s_ireturn (pc := 216) dX12_kneel_216 rfl rfl ?_
              have E : vKn v u 0 = 2 := by unfold vKn; rw [if_pos rfl, if_neg eu, if_pos ev]; rfl
              have h := hg v u 0 rfl hv rfl hu rfl (by decide) _ th_k up_s
              rw [E] at h; exact h
            · subst qe
              refine s_iload_n (pc := 156) (i := 3) dX12_kneel_156 rfl rfl ?_
              refine s_ifne (pc := 157) (tgt := 165) dX12_kneel_157 rfl (fun h157 => ?_) (fun h157 => absurd h157 (by decide))
              refine s_iload_n (pc := 165) (i := 3) dX12_kneel_165 rfl rfl ?_
              refine m_ic (pc := 166) (v := 1) dX12_kneel_166 rfl ?_
              refine s_icne (pc := 167) (tgt := 175) dX12_kneel_167 rfl (fun h167 => absurd h167 (by decide)) (fun h167 => ?_)
              refine s_iload (pc := 170) (i := 5) dX12_kneel_170 rfl ?_
              refine s_goto (pc := 172) (tgt := 216) dX12_kneel_172 rfl ?_
              refine s_ireturn (pc := 216) dX12_kneel_216 rfl rfl ?_
              have E : vKn v u 1 = 0 := by unfold vKn; rw [if_neg (by decide)]
              have h := hg v u 1 rfl hv rfl hu rfl (by decide) _ th_k up_s
              rw [E] at h; exact h
            · subst qe
              refine s_iload_n (pc := 156) (i := 3) dX12_kneel_156 rfl rfl ?_
              refine s_ifne (pc := 157) (tgt := 165) dX12_kneel_157 rfl (fun h157 => ?_) (fun h157 => absurd h157 (by decide))
              refine s_iload_n (pc := 165) (i := 3) dX12_kneel_165 rfl rfl ?_
              refine m_ic (pc := 166) (v := 1) dX12_kneel_166 rfl ?_
              refine s_icne (pc := 167) (tgt := 175) dX12_kneel_167 rfl (fun h167 => ?_) (fun h167 => absurd h167 (by decide))
              refine s_iload (pc := 175) (i := 5) dX12_kneel_175 rfl ?_
              refine m_ic (pc := 177) (v := -1) dX12_kneel_177 rfl ?_
              refine s_icne (pc := 178) (tgt := 185) dX12_kneel_178 rfl (fun h178 => ?_) (fun h178 => absurd h178 (by decide))
              refine s_iload (pc := 185) (i := 5) dX12_kneel_185 rfl ?_
              refine m_bi (pc := 187) (v := 10) dX12_kneel_187 rfl ?_
              refine s_idiv (pc := 189) dX12_kneel_189 (by decide) ?_
              refine m_nm (v' := 0) (rfl) ?_
              refine s_iload (pc := 190) (i := 5) dX12_kneel_190 rfl ?_
              refine m_bi (pc := 192) (v := 10) dX12_kneel_192 rfl ?_
              refine s_irem (pc := 194) dX12_kneel_194 (by decide) ?_
              refine m_nm (v' := 0) (rfl) ?_
              refine s_iload_n (pc := 195) (i := 1) dX12_kneel_195 rfl rfl ?_
              refine s_iload_n (pc := 196) (i := 2) dX12_kneel_196 rfl rfl ?_
              refine m_s4 (pc := 197) dX12_kneel_197 lk_X12_436 ok_X12_hasBy rfl rfl (c_X12_hasBy_00 (kt_s ?_))
              refine s_iload (pc := 200) (i := 5) dX12_kneel_200 rfl ?_
              refine m_bi (pc := 202) (v := 10) dX12_kneel_202 rfl ?_
              refine s_irem (pc := 204) dX12_kneel_204 (by decide) ?_
              refine m_nm (v' := 0) (rfl) ?_
              refine s_iload (pc := 205) (i := 5) dX12_kneel_205 rfl ?_
              refine m_bi (pc := 207) (v := 10) dX12_kneel_207 rfl ?_
              refine s_idiv (pc := 209) dX12_kneel_209 (by decide) ?_
              refine m_nm (v' := 0) (rfl) ?_
              refine s_iload_n (pc := 210) (i := 1) dX12_kneel_210 rfl rfl ?_
              refine s_iload_n (pc := 211) (i := 2) dX12_kneel_211 rfl rfl ?_
              refine m_s4 (pc := 212) dX12_kneel_212 lk_X12_436 ok_X12_hasBy rfl rfl (c_X12_hasBy_00 (kt_s ?_))
              refine s_iadd (pc := 215) dX12_kneel_215 ?_
              refine m_nm (v' := 0) (rfl) ?_
              refine s_ireturn (pc := 216) dX12_kneel_216 rfl rfl ?_
              have E : vKn v u 2 = 0 := by unfold vKn; rw [if_neg (by decide)]
              have h := hg v u 2 rfl hv rfl hu rfl (by decide) _ th_k up_s
              rw [E] at h; exact h
          · skip
            refine m_ic (pc := 50) (v := 0) dX12_kneel_50 rfl ?_
            refine s_istore (pc := 51) (i := 4) dX12_kneel_51 (Nat.le_of_ble_eq_true rfl) ?_
            dsimp only [List.set, List.filter]
            refine m_ic (pc := 53) (v := -1) dX12_kneel_53 rfl ?_
            refine s_istore (pc := 54) (i := 5) dX12_kneel_54 (Nat.le_of_ble_eq_true rfl) ?_
            dsimp only [List.set, List.filter]
            refine m_ic (pc := 56) (v := 0) dX12_kneel_56 rfl ?_
            refine s_istore (pc := 57) (i := 6) dX12_kneel_57 (Nat.le_of_ble_eq_true rfl) ?_
            dsimp only [List.set, List.filter]
            refine s_iload (pc := 59) (i := 6) dX12_kneel_59 rfl ?_
            refine m_ic (pc := 61) (v := 4) dX12_kneel_61 rfl ?_
            refine s_icge (pc := 62) (tgt := 156) dX12_kneel_62 rfl (fun h62 => absurd h62 (by decide)) (fun h62 => ?_)
            refine s_iload (pc := 65) (i := 6) dX12_kneel_65 rfl ?_
            refine m_ic (pc := 67) (v := 2) dX12_kneel_67 rfl ?_
            refine s_idiv (pc := 68) dX12_kneel_68 (by decide) ?_
            refine m_nm (v' := 0) (rfl) ?_
            refine s_istore (pc := 69) (i := 7) dX12_kneel_69 (Nat.le_of_ble_eq_true rfl) ?_
            dsimp only [List.set, List.filter]
            refine s_iload (pc := 71) (i := 6) dX12_kneel_71 rfl ?_
            refine m_ic (pc := 73) (v := 2) dX12_kneel_73 rfl ?_
            refine s_irem (pc := 74) dX12_kneel_74 (by decide) ?_
            refine m_nm (v' := 0) (rfl) ?_
            refine s_istore (pc := 75) (i := 8) dX12_kneel_75 (Nat.le_of_ble_eq_true rfl) ?_
            dsimp only [List.set, List.filter]
            refine m_ic (pc := 77) (v := 1) dX12_kneel_77 rfl ?_
            refine s_iload (pc := 78) (i := 7) dX12_kneel_78 rfl ?_
            refine s_isub (pc := 80) dX12_kneel_80 ?_
            refine m_nm (v' := 1) rfl ?_
            refine s_iload (pc := 81) (i := 8) dX12_kneel_81 rfl ?_
            refine s_iload_n (pc := 83) (i := 1) dX12_kneel_83 rfl rfl ?_
            refine s_iload_n (pc := 84) (i := 2) dX12_kneel_84 rfl rfl ?_
            refine m_s4 (pc := 85) dX12_kneel_85 lk_X12_436 ok_X12_hasBy rfl rfl (c_X12_hasBy_10 (kt_s ?_))
            refine s_iload (pc := 88) (i := 7) dX12_kneel_88 rfl ?_
            refine s_iload (pc := 90) (i := 8) dX12_kneel_90 rfl ?_
            refine s_iload_n (pc := 92) (i := 1) dX12_kneel_92 rfl rfl ?_
            refine s_iload_n (pc := 93) (i := 2) dX12_kneel_93 rfl rfl ?_
            refine m_s4 (pc := 94) dX12_kneel_94 lk_X12_436 ok_X12_hasBy rfl rfl (c_X12_hasBy_00 (kt_s ?_))
            refine s_icgt (pc := 97) (tgt := 150) dX12_kneel_97 rfl (fun h97 => absurd h97 (ng_0 hu)) (fun h97 => ?_)
            refine m_ic (pc := 100) (v := 1) dX12_kneel_100 rfl ?_
            refine s_iload (pc := 101) (i := 8) dX12_kneel_101 rfl ?_
            refine s_isub (pc := 103) dX12_kneel_103 ?_
            refine m_nm (v' := 1) rfl ?_
            refine s_iload (pc := 104) (i := 7) dX12_kneel_104 rfl ?_
            refine s_iload_n (pc := 106) (i := 1) dX12_kneel_106 rfl rfl ?_
            refine s_iload_n (pc := 107) (i := 2) dX12_kneel_107 rfl rfl ?_
            refine m_s4 (pc := 108) dX12_kneel_108 lk_X12_436 ok_X12_hasBy rfl rfl (c_X12_hasBy_10 (kt_s ?_))
            refine s_iload (pc := 111) (i := 8) dX12_kneel_111 rfl ?_
            refine s_iload (pc := 113) (i := 7) dX12_kneel_113 rfl ?_
            refine s_iload_n (pc := 115) (i := 1) dX12_kneel_115 rfl rfl ?_
            refine s_iload_n (pc := 116) (i := 2) dX12_kneel_116 rfl rfl ?_
            refine m_s4 (pc := 117) dX12_kneel_117 lk_X12_436 ok_X12_hasBy rfl rfl (c_X12_hasBy_00 (kt_s ?_))
            refine s_icle (pc := 120) (tgt := 126) dX12_kneel_120 rfl (fun h120 => ?_) (fun h120 => absurd (Int32.not_lt.mp (ng_0 hu)) h120)
            refine m_inc (pc := 126) (v := 1) dX12_kneel_126 rfl rfl ?_
            dsimp only [List.set, List.filter]
            rw [show (0 : Int32) + 1 = 1 from rfl]
            refine s_iload (pc := 129) (i := 5) dX12_kneel_129 rfl ?_
            refine m_ic (pc := 131) (v := -1) dX12_kneel_131 rfl ?_
            refine s_icne (pc := 132) (tgt := 146) dX12_kneel_132 rfl (fun h132 => absurd h132 (by decide)) (fun h132 => ?_)
            refine m_bi (pc := 135) (v := 10) dX12_kneel_135 rfl ?_
            refine s_iload (pc := 137) (i := 7) dX12_kneel_137 rfl ?_
            refine s_imul (pc := 139) dX12_kneel_139 ?_
            refine m_nm (v' := 0) rfl ?_
            refine s_iload (pc := 140) (i := 8) dX12_kneel_140 rfl ?_
            refine s_iadd (pc := 142) dX12_kneel_142 ?_
            refine m_nm (v' := 0) rfl ?_
            refine s_goto (pc := 143) (tgt := 148) dX12_kneel_143 rfl ?_
            refine s_istore (pc := 148) (i := 5) dX12_kneel_148 (Nat.le_of_ble_eq_true rfl) ?_
            dsimp only [List.set, List.filter]
            refine m_inc (pc := 150) (v := 1) dX12_kneel_150 rfl rfl ?_
            dsimp only [List.set, List.filter]
            rw [show (0 : Int32) + 1 = 1 from rfl]
            refine s_goto (pc := 153) (tgt := 59) dX12_kneel_153 rfl ?_
            refine s_iload (pc := 59) (i := 6) dX12_kneel_59 rfl ?_
            refine m_ic (pc := 61) (v := 4) dX12_kneel_61 rfl ?_
            refine s_icge (pc := 62) (tgt := 156) dX12_kneel_62 rfl (fun h62 => absurd h62 (by decide)) (fun h62 => ?_)
            refine s_iload (pc := 65) (i := 6) dX12_kneel_65 rfl ?_
            refine m_ic (pc := 67) (v := 2) dX12_kneel_67 rfl ?_
            refine s_idiv (pc := 68) dX12_kneel_68 (by decide) ?_
            refine m_nm (v' := 0) (rfl) ?_
            refine s_istore (pc := 69) (i := 7) dX12_kneel_69 (Nat.le_of_ble_eq_true rfl) ?_
            dsimp only [List.set, List.filter]
            refine s_iload (pc := 71) (i := 6) dX12_kneel_71 rfl ?_
            refine m_ic (pc := 73) (v := 2) dX12_kneel_73 rfl ?_
            refine s_irem (pc := 74) dX12_kneel_74 (by decide) ?_
            refine m_nm (v' := 1) (rfl) ?_
            refine s_istore (pc := 75) (i := 8) dX12_kneel_75 (Nat.le_of_ble_eq_true rfl) ?_
            dsimp only [List.set, List.filter]
            refine m_ic (pc := 77) (v := 1) dX12_kneel_77 rfl ?_
            refine s_iload (pc := 78) (i := 7) dX12_kneel_78 rfl ?_
            refine s_isub (pc := 80) dX12_kneel_80 ?_
            refine m_nm (v' := 1) rfl ?_
            refine s_iload (pc := 81) (i := 8) dX12_kneel_81 rfl ?_
            refine s_iload_n (pc := 83) (i := 1) dX12_kneel_83 rfl rfl ?_
            refine s_iload_n (pc := 84) (i := 2) dX12_kneel_84 rfl rfl ?_
            refine m_s4 (pc := 85) dX12_kneel_85 lk_X12_436 ok_X12_hasBy rfl rfl (c_X12_hasBy_11 (kt_s ?_))
            refine s_iload (pc := 88) (i := 7) dX12_kneel_88 rfl ?_
            refine s_iload (pc := 90) (i := 8) dX12_kneel_90 rfl ?_
            refine s_iload_n (pc := 92) (i := 1) dX12_kneel_92 rfl rfl ?_
            refine s_iload_n (pc := 93) (i := 2) dX12_kneel_93 rfl rfl ?_
            refine m_s4 (pc := 94) dX12_kneel_94 lk_X12_436 ok_X12_hasBy rfl rfl (c_X12_hasBy_01 (kt_s ?_))
            refine s_icgt (pc := 97) (tgt := 150) dX12_kneel_97 rfl (fun h97 => absurd h97 (ng_2 hv)) (fun h97 => ?_)
            refine m_ic (pc := 100) (v := 1) dX12_kneel_100 rfl ?_
            refine s_iload (pc := 101) (i := 8) dX12_kneel_101 rfl ?_
            refine s_isub (pc := 103) dX12_kneel_103 ?_
            refine m_nm (v' := 0) rfl ?_
            refine s_iload (pc := 104) (i := 7) dX12_kneel_104 rfl ?_
            refine s_iload_n (pc := 106) (i := 1) dX12_kneel_106 rfl rfl ?_
            refine s_iload_n (pc := 107) (i := 2) dX12_kneel_107 rfl rfl ?_
            refine m_s4 (pc := 108) dX12_kneel_108 lk_X12_436 ok_X12_hasBy rfl rfl (c_X12_hasBy_00 (kt_s ?_))
            refine s_iload (pc := 111) (i := 8) dX12_kneel_111 rfl ?_
            refine s_iload (pc := 113) (i := 7) dX12_kneel_113 rfl ?_
            refine s_iload_n (pc := 115) (i := 1) dX12_kneel_115 rfl rfl ?_
            refine s_iload_n (pc := 116) (i := 2) dX12_kneel_116 rfl rfl ?_
            refine m_s4 (pc := 117) dX12_kneel_117 lk_X12_436 ok_X12_hasBy rfl rfl (c_X12_hasBy_10 (kt_s ?_))
            refine s_icle (pc := 120) (tgt := 126) dX12_kneel_120 rfl (fun h120 => absurd h120 (Int32.not_le.mpr ((ng_1 hu).mpr eu))) (fun h120 => ?_)
            refine s_goto (pc := 123) (tgt := 150) dX12_kneel_123 rfl ?_
            refine m_inc (pc := 150) (v := 1) dX12_kneel_150 rfl rfl ?_
            dsimp only [List.set, List.filter]
            rw [show (1 : Int32) + 1 = 2 from rfl]
            refine s_goto (pc := 153) (tgt := 59) dX12_kneel_153 rfl ?_
            refine s_iload (pc := 59) (i := 6) dX12_kneel_59 rfl ?_
            refine m_ic (pc := 61) (v := 4) dX12_kneel_61 rfl ?_
            refine s_icge (pc := 62) (tgt := 156) dX12_kneel_62 rfl (fun h62 => absurd h62 (by decide)) (fun h62 => ?_)
            refine s_iload (pc := 65) (i := 6) dX12_kneel_65 rfl ?_
            refine m_ic (pc := 67) (v := 2) dX12_kneel_67 rfl ?_
            refine s_idiv (pc := 68) dX12_kneel_68 (by decide) ?_
            refine m_nm (v' := 1) (rfl) ?_
            refine s_istore (pc := 69) (i := 7) dX12_kneel_69 (Nat.le_of_ble_eq_true rfl) ?_
            dsimp only [List.set, List.filter]
            refine s_iload (pc := 71) (i := 6) dX12_kneel_71 rfl ?_
            refine m_ic (pc := 73) (v := 2) dX12_kneel_73 rfl ?_
            refine s_irem (pc := 74) dX12_kneel_74 (by decide) ?_
            refine m_nm (v' := 0) (rfl) ?_
            refine s_istore (pc := 75) (i := 8) dX12_kneel_75 (Nat.le_of_ble_eq_true rfl) ?_
            dsimp only [List.set, List.filter]
            refine m_ic (pc := 77) (v := 1) dX12_kneel_77 rfl ?_
            refine s_iload (pc := 78) (i := 7) dX12_kneel_78 rfl ?_
            refine s_isub (pc := 80) dX12_kneel_80 ?_
            refine m_nm (v' := 0) rfl ?_
            refine s_iload (pc := 81) (i := 8) dX12_kneel_81 rfl ?_
            refine s_iload_n (pc := 83) (i := 1) dX12_kneel_83 rfl rfl ?_
            refine s_iload_n (pc := 84) (i := 2) dX12_kneel_84 rfl rfl ?_
            refine m_s4 (pc := 85) dX12_kneel_85 lk_X12_436 ok_X12_hasBy rfl rfl (c_X12_hasBy_00 (kt_s ?_))
            refine s_iload (pc := 88) (i := 7) dX12_kneel_88 rfl ?_
            refine s_iload (pc := 90) (i := 8) dX12_kneel_90 rfl ?_
            refine s_iload_n (pc := 92) (i := 1) dX12_kneel_92 rfl rfl ?_
            refine s_iload_n (pc := 93) (i := 2) dX12_kneel_93 rfl rfl ?_
            refine m_s4 (pc := 94) dX12_kneel_94 lk_X12_436 ok_X12_hasBy rfl rfl (c_X12_hasBy_10 (kt_s ?_))
            refine s_icgt (pc := 97) (tgt := 150) dX12_kneel_97 rfl (fun h97 => ?_) (fun h97 => absurd ((ng_1 hu).mpr eu) h97)
            refine m_inc (pc := 150) (v := 1) dX12_kneel_150 rfl rfl ?_
            dsimp only [List.set, List.filter]
            rw [show (2 : Int32) + 1 = 3 from rfl]
            refine s_goto (pc := 153) (tgt := 59) dX12_kneel_153 rfl ?_
            refine s_iload (pc := 59) (i := 6) dX12_kneel_59 rfl ?_
            refine m_ic (pc := 61) (v := 4) dX12_kneel_61 rfl ?_
            refine s_icge (pc := 62) (tgt := 156) dX12_kneel_62 rfl (fun h62 => absurd h62 (by decide)) (fun h62 => ?_)
            refine s_iload (pc := 65) (i := 6) dX12_kneel_65 rfl ?_
            refine m_ic (pc := 67) (v := 2) dX12_kneel_67 rfl ?_
            refine s_idiv (pc := 68) dX12_kneel_68 (by decide) ?_
            refine m_nm (v' := 1) (rfl) ?_
            refine s_istore (pc := 69) (i := 7) dX12_kneel_69 (Nat.le_of_ble_eq_true rfl) ?_
            dsimp only [List.set, List.filter]
            refine s_iload (pc := 71) (i := 6) dX12_kneel_71 rfl ?_
            refine m_ic (pc := 73) (v := 2) dX12_kneel_73 rfl ?_
            refine s_irem (pc := 74) dX12_kneel_74 (by decide) ?_
            refine m_nm (v' := 1) (rfl) ?_
            refine s_istore (pc := 75) (i := 8) dX12_kneel_75 (Nat.le_of_ble_eq_true rfl) ?_
            dsimp only [List.set, List.filter]
            refine m_ic (pc := 77) (v := 1) dX12_kneel_77 rfl ?_
            refine s_iload (pc := 78) (i := 7) dX12_kneel_78 rfl ?_
            refine s_isub (pc := 80) dX12_kneel_80 ?_
            refine m_nm (v' := 0) rfl ?_
            refine s_iload (pc := 81) (i := 8) dX12_kneel_81 rfl ?_
            refine s_iload_n (pc := 83) (i := 1) dX12_kneel_83 rfl rfl ?_
            refine s_iload_n (pc := 84) (i := 2) dX12_kneel_84 rfl rfl ?_
            refine m_s4 (pc := 85) dX12_kneel_85 lk_X12_436 ok_X12_hasBy rfl rfl (c_X12_hasBy_01 (kt_s ?_))
            refine s_iload (pc := 88) (i := 7) dX12_kneel_88 rfl ?_
            refine s_iload (pc := 90) (i := 8) dX12_kneel_90 rfl ?_
            refine s_iload_n (pc := 92) (i := 1) dX12_kneel_92 rfl rfl ?_
            refine s_iload_n (pc := 93) (i := 2) dX12_kneel_93 rfl rfl ?_
            refine m_s4 (pc := 94) dX12_kneel_94 lk_X12_436 ok_X12_hasBy rfl rfl (c_X12_hasBy_11 (kt_s ?_))
            refine s_icgt (pc := 97) (tgt := 150) dX12_kneel_97 rfl (fun h97 => ?_) (fun h97 => absurd ((ng_3 hv).mpr ev) h97)
            refine m_inc (pc := 150) (v := 1) dX12_kneel_150 rfl rfl ?_
            dsimp only [List.set, List.filter]
            rw [show (3 : Int32) + 1 = 4 from rfl]
            refine s_goto (pc := 153) (tgt := 59) dX12_kneel_153 rfl ?_
            refine s_iload (pc := 59) (i := 6) dX12_kneel_59 rfl ?_
            refine m_ic (pc := 61) (v := 4) dX12_kneel_61 rfl ?_
            refine s_icge (pc := 62) (tgt := 156) dX12_kneel_62 rfl (fun h62 => ?_) (fun h62 => absurd h62 (by decide))
            rcases (show q = 0 ∨ q = 1 ∨ q = 2 from by omega) with qe | qe | qe
            · subst qe
              refine s_iload_n (pc := 156) (i := 3) dX12_kneel_156 rfl rfl ?_
              refine s_ifne (pc := 157) (tgt := 165) dX12_kneel_157 rfl (fun h157 => absurd h157 (by decide)) (fun h157 => ?_)
              refine s_iload (pc := 160) (i := 4) dX12_kneel_160 rfl ?_
              refine s_goto (pc := 162) (tgt := 216) dX12_kneel_162 rfl ?_
              refine s_ireturn (pc := 216) dX12_kneel_216 rfl rfl ?_
              have E : vKn v u 0 = 1 := by unfold vKn; rw [if_pos rfl, if_neg eu, if_neg ev]; rfl
              have h := hg v u 0 rfl hv rfl hu rfl (by decide) _ th_k up_s
              rw [E] at h; exact h
            · subst qe
              refine s_iload_n (pc := 156) (i := 3) dX12_kneel_156 rfl rfl ?_
              refine s_ifne (pc := 157) (tgt := 165) dX12_kneel_157 rfl (fun h157 => ?_) (fun h157 => absurd h157 (by decide))
              refine s_iload_n (pc := 165) (i := 3) dX12_kneel_165 rfl rfl ?_
              refine m_ic (pc := 166) (v := 1) dX12_kneel_166 rfl ?_
              refine s_icne (pc := 167) (tgt := 175) dX12_kneel_167 rfl (fun h167 => absurd h167 (by decide)) (fun h167 => ?_)
              refine s_iload (pc := 170) (i := 5) dX12_kneel_170 rfl ?_
              refine s_goto (pc := 172) (tgt := 216) dX12_kneel_172 rfl ?_
              refine s_ireturn (pc := 216) dX12_kneel_216 rfl rfl ?_
              have E : vKn v u 1 = 0 := by unfold vKn; rw [if_neg (by decide)]
              have h := hg v u 1 rfl hv rfl hu rfl (by decide) _ th_k up_s
              rw [E] at h; exact h
            · subst qe
              refine s_iload_n (pc := 156) (i := 3) dX12_kneel_156 rfl rfl ?_
              refine s_ifne (pc := 157) (tgt := 165) dX12_kneel_157 rfl (fun h157 => ?_) (fun h157 => absurd h157 (by decide))
              refine s_iload_n (pc := 165) (i := 3) dX12_kneel_165 rfl rfl ?_
              refine m_ic (pc := 166) (v := 1) dX12_kneel_166 rfl ?_
              refine s_icne (pc := 167) (tgt := 175) dX12_kneel_167 rfl (fun h167 => ?_) (fun h167 => absurd h167 (by decide))
              refine s_iload (pc := 175) (i := 5) dX12_kneel_175 rfl ?_
              refine m_ic (pc := 177) (v := -1) dX12_kneel_177 rfl ?_
              refine s_icne (pc := 178) (tgt := 185) dX12_kneel_178 rfl (fun h178 => ?_) (fun h178 => absurd h178 (by decide))
              refine s_iload (pc := 185) (i := 5) dX12_kneel_185 rfl ?_
              refine m_bi (pc := 187) (v := 10) dX12_kneel_187 rfl ?_
              refine s_idiv (pc := 189) dX12_kneel_189 (by decide) ?_
              refine m_nm (v' := 0) (rfl) ?_
              refine s_iload (pc := 190) (i := 5) dX12_kneel_190 rfl ?_
              refine m_bi (pc := 192) (v := 10) dX12_kneel_192 rfl ?_
              refine s_irem (pc := 194) dX12_kneel_194 (by decide) ?_
              refine m_nm (v' := 0) (rfl) ?_
              refine s_iload_n (pc := 195) (i := 1) dX12_kneel_195 rfl rfl ?_
              refine s_iload_n (pc := 196) (i := 2) dX12_kneel_196 rfl rfl ?_
              refine m_s4 (pc := 197) dX12_kneel_197 lk_X12_436 ok_X12_hasBy rfl rfl (c_X12_hasBy_00 (kt_s ?_))
              refine s_iload (pc := 200) (i := 5) dX12_kneel_200 rfl ?_
              refine m_bi (pc := 202) (v := 10) dX12_kneel_202 rfl ?_
              refine s_irem (pc := 204) dX12_kneel_204 (by decide) ?_
              refine m_nm (v' := 0) (rfl) ?_
              refine s_iload (pc := 205) (i := 5) dX12_kneel_205 rfl ?_
              refine m_bi (pc := 207) (v := 10) dX12_kneel_207 rfl ?_
              refine s_idiv (pc := 209) dX12_kneel_209 (by decide) ?_
              refine m_nm (v' := 0) (rfl) ?_
              refine s_iload_n (pc := 210) (i := 1) dX12_kneel_210 rfl rfl ?_
              refine s_iload_n (pc := 211) (i := 2) dX12_kneel_211 rfl rfl ?_
              refine m_s4 (pc := 212) dX12_kneel_212 lk_X12_436 ok_X12_hasBy rfl rfl (c_X12_hasBy_00 (kt_s ?_))
              refine s_iadd (pc := 215) dX12_kneel_215 ?_
              refine m_nm (v' := 0) (rfl) ?_
              refine s_ireturn (pc := 216) dX12_kneel_216 rfl rfl ?_
              have E : vKn v u 2 = 0 := by unfold vKn; rw [if_neg (by decide)]
              have h := hg v u 2 rfl hv rfl hu rfl (by decide) _ th_k up_s
              rw [E] at h; exact h
      · refine s_ifeq (pc := 32) (tgt := 39) dX12_kneel_32 rfl (fun h32 => ?_) (fun h32 => absurd h32 (by decide))
        refine m_ic (pc := 39) (v := 0) dX12_kneel_39 rfl ?_
        refine m_ic (pc := 40) (v := 1) dX12_kneel_40 rfl ?_
        refine m_ic (pc := 41) (v := 1) dX12_kneel_41 rfl ?_
        refine m_v3 (pc := 42) dX12_kneel_42 lk_X12_192 ok_X12_may (rcO o_534 (by decide) rfl) rfl rfl (c_may0 (k := 1) (by decide) rfl up_s (by decide) (kt_s ?_))
        · refine s_ifne (pc := 45) (tgt := 50) dX12_kneel_45 rfl (fun h45 => absurd h45 (by decide)) (fun h45 => ?_)
          refine m_ic (pc := 48) (v := 0) dX12_kneel_48 rfl ?_
          refine s_ireturn (pc := 49) dX12_kneel_49 rfl rfl ?_
          rw [thr_0]
          exact r2 ⟨v, rfl, Nat.zero_le _, hv⟩ ⟨u, rfl, Nat.zero_le _, hu⟩ z
    · refine s_ifeq (pc := 23) (tgt := 39) dX12_kneel_23 rfl (fun h23 => ?_) (fun h23 => absurd h23 (by decide))
      refine m_ic (pc := 39) (v := 0) dX12_kneel_39 rfl ?_
      refine m_ic (pc := 40) (v := 1) dX12_kneel_40 rfl ?_
      refine m_ic (pc := 41) (v := 1) dX12_kneel_41 rfl ?_
      refine m_v3 (pc := 42) dX12_kneel_42 lk_X12_192 ok_X12_may (rcO o_534 (by decide) rfl) rfl rfl (c_may0 (k := 1) (by decide) rfl up_s (by decide) (kt_s ?_))
      · refine s_ifne (pc := 45) (tgt := 50) dX12_kneel_45 rfl (fun h45 => absurd h45 (by decide)) (fun h45 => ?_)
        refine m_ic (pc := 48) (v := 0) dX12_kneel_48 rfl ?_
        refine s_ireturn (pc := 49) dX12_kneel_49 rfl rfl ?_
        rw [thr_0]
        exact r1 ⟨v, rfl, Nat.zero_le _, hv⟩ z
  · refine s_ifeq (pc := 13) (tgt := 39) dX12_kneel_13 rfl (fun h13 => ?_) (fun h13 => absurd h13 (by decide))
    refine m_ic (pc := 39) (v := 0) dX12_kneel_39 rfl ?_
    refine m_ic (pc := 40) (v := 1) dX12_kneel_40 rfl ?_
    refine m_ic (pc := 41) (v := 1) dX12_kneel_41 rfl ?_
    refine m_v3 (pc := 42) dX12_kneel_42 lk_X12_192 ok_X12_may (rcO o_534 (by decide) rfl) rfl rfl (c_may0 (k := 1) (by decide) rfl up_s (by decide) (kt_s ?_))
    · refine s_ifne (pc := 45) (tgt := 50) dX12_kneel_45 rfl (fun h45 => absurd h45 (by decide)) (fun h45 => ?_)
      refine m_ic (pc := 48) (v := 0) dX12_kneel_48 rfl ?_
      refine s_ireturn (pc := 49) dX12_kneel_49 rfl rfl ?_
      rw [thr_0]
      exact r0  z
end S
