section S
variable {g : aG} {d : Nat} {I : Nat → Nat → Int32} {J : Nat → Nat → Int64} {n w : Nat} {Q : aO → aS → Prop}
variable {t : Nat → Nat} {N : Nat} {σ : aS} {S : sD} {D : cD} {cs : List Nat} {ww : Nat}
/-- the class's cells that nothing reads before they are written anew -/
def kS (x j : Nat) : Prop := (8 < x ∧ x < 14) ∨ (15 < x ∧ x < 22) ∨ (23 < x ∧ x < 31) ∨ (516 < x ∧ x < 534) ∨ (x = 2 ∧ 1 < j ∧ j < 7)
def kc (I I' : Nat → Nat → Int32) : Prop := ∀ x j, ¬ kS x j → I' x j = I x j
theorem kc_r : kc I I := fun _ _ _ => rfl
theorem kc_t {I' I'' : Nat → Nat → Int32} (h : kc I I') (h2 : kc I' I'') : kc I I'' := fun x j a => (h2 x j a).trans (h x j a)
theorem kc_l {I' : Nat → Nat → Int32} (h : fl I I') : kc I I' := fun x j a => h x j (by unfold kS at a; omega) (by unfold kS at a; omega)
theorem kc_C {I' : Nat → Nat → Int32} (h : fC I I') : kc I I' := fun x j a => h x j (by unfold kS at a; omega)
theorem cq_in {q o : Nat} (h : Sc I q S) : Sc (cqS I q o) o S := by
  obtain ⟨h1, h2, h3, h4, h5, h6⟩ := h
  refine ⟨fun b hb => ?_, fun b c k hb hc e => ?_, fun c hc => ?_, ?_, ?_, ?_⟩
  · have h0 := h1 b hb
    refine ⟨?_, ?_, ?_, ?_⟩
    · rw [← h0.1]; unfold cqS; rw [if_pos ⟨rfl, hb⟩]
    · rw [← h0.2.1]; unfold cqS; rw [if_neg (by omega), if_pos ⟨rfl, hb⟩]
    · rw [← h0.2.2.1]; unfold cqS; rw [if_neg (by omega), if_neg (by omega), if_pos ⟨rfl, hb⟩]
    · rw [← h0.2.2.2]; unfold cqS; rw [if_neg (by omega), if_neg (by omega), if_neg (by omega), if_pos ⟨rfl, hb⟩]
  · rw [← h2 b c k hb hc e]; unfold cqS; rw [if_neg (by omega), if_neg (by omega), if_neg (by omega), if_neg (by omega), if_pos ⟨rfl, by omega⟩]
  · rw [← h3 c hc]; unfold cqS; rw [if_neg (by omega), if_neg (by omega), if_neg (by omega), if_neg (by omega), if_neg (by omega), if_pos ⟨rfl, hc⟩]
  · rw [← h4]; unfold cqS; rw [if_neg (by omega), if_neg (by omega), if_neg (by omega), if_neg (by omega), if_neg (by omega), if_neg (by omega), if_pos ⟨rfl, rfl⟩]
  · rw [← h5]; unfold cqS; rw [if_neg (by omega), if_neg (by omega), if_neg (by omega), if_neg (by omega), if_neg (by omega), if_neg (by omega), if_neg (by omega), if_pos ⟨rfl, rfl⟩]
  · rw [← h6]; unfold cqS; rw [if_neg (by omega), if_neg (by omega), if_neg (by omega), if_neg (by omega), if_neg (by omega), if_neg (by omega), if_neg (by omega), if_neg (by omega), if_pos ⟨rfl, rfl⟩]
theorem cq_out {q o x j : Nat} (h : x < o ∨ o + 6 < x) : cqS I q o x j = I x j := by
  unfold cqS; rw [if_neg (by omega), if_neg (by omega), if_neg (by omega), if_neg (by omega), if_neg (by omega), if_neg (by omega), if_neg (by omega), if_neg (by omega), if_neg (by omega)]
theorem r_40 : ∀ i, i < 16 → R0 40 i = some (41 + 7 * i) := by decide +kernel
theorem r_40c {i : Nat} (h : i < 16) : R0 40 (nI i).toNatClampNeg = some (41 + 7 * i) := by rw [nI_clamp (by omega)]; exact r_40 i h
abbrev kpI (I : Nat → Nat → Int32) (ww : Nat) : Nat → Nat → Int32 := up (cqS I 33 (41 + 7 * ww)) 32 2 (nI (ww + 1))
theorem c_X5_keepNow (h : I 32 2 = nI ww) (hw : ww < 16) (hq : Q (.inl none) (Z (kpI I ww) J n w)) : Cn g (d + 2) mX5_keepNow [.ref 32] (Z I J n w) Q := by
  show Rn g (d + 2) mX5_keepNow 0 [.ref 32] [] [] (Z I J n w) Q
  refine s_aload_n (pc := 0) (i := 0) dX5_keepNow_0 rfl rfl ?_
  refine m_gi (pc := 1) dX5_keepNow_1 ff_X5_25 rfl o_32 ?_
  refine m_nm (v' := nI ww) (h) ?_
  refine m_bi (pc := 4) (v := 16) dX5_keepNow_4 rfl ?_
  refine s_icge (pc := 6) (tgt := 35) dX5_keepNow_6 rfl (fun h6 => absurd h6 (nI_ge (a := ww) (b := 16) (by omega) (by omega))) (fun h6 => ?_)
  refine s_aload_n (pc := 9) (i := 0) dX5_keepNow_9 rfl rfl ?_
  refine m_gr (pc := 10) dX5_keepNow_10 ff_X5_18 rfl o_32 r_32_1 ?_
  refine s_aload_n (pc := 13) (i := 0) dX5_keepNow_13 rfl rfl ?_
  refine m_gi (pc := 14) dX5_keepNow_14 ff_X5_25 rfl o_32 ?_
  refine m_nm (v' := nI ww) (h) ?_
  refine m_aa (pc := 17) dX5_keepNow_17 a_40 (by decide) (vp_in_nI (n := ww) (by omega) (by decide)) (r_40c hw) ?_
  refine s_aload_n (pc := 18) (i := 0) dX5_keepNow_18 rfl rfl ?_
  refine m_gr (pc := 19) dX5_keepNow_19 ff_X5_12 rfl o_32 r_32_0 ?_
  refine m_v1 (pc := 22) dX5_keepNow_22 lk_X5_29 ok_X9_copyFrom (rcO ((sO_1 ww hw)).1 (by decide) rfl) rfl rfl (c_X9_copyFrom (sO_1 ww hw) sO_33 (by omega) (kt_v ?_))
  refine s_aload_n (pc := 25) (i := 0) dX5_keepNow_25 rfl rfl ?_
  refine s_dup (pc := 26) dX5_keepNow_26 rfl ?_
  refine m_gi (pc := 27) dX5_keepNow_27 ff_X5_25 rfl o_32 ?_
  refine m_nm (v' := nI ww) (by rw [cq_out (by omega)]; exact h) ?_
  refine m_ic (pc := 30) (v := 1) dX5_keepNow_30 rfl ?_
  refine s_iadd (pc := 31) dX5_keepNow_31 ?_
  refine m_nm (v' := nI (ww + 1)) (nI_add ww 1) ?_
  refine m_pi (pc := 32) dX5_keepNow_32 ff_X5_25 rfl rfl o_32 ?_
  refine s_return (pc := 35) dX5_keepNow_35 rfl ?_
  exact hq
theorem tp_k2 {a wf wt : Nat} {fk fp : Int32} {y j : Nat} (h : ¬ kS y j) (h2 : y ≠ 2 ∨ j = 0) : tp I a wf wt fk fp y j = I y j := tp_o (by omega)
theorem op_k {x : Int32} {y j : Nat} (h2 : y ≠ 2 ∨ j = 0) : (up (up I 2 1 0) 2 2 x) y j = I y j := by rw [up_n3 (by omega), up_n3 (by omega)]
theorem clT_150 {tr : TB 7} {q : Nat} {nb nc : Nat} (hN : N ≤ 150) (h : pTop t N nb nc (sk t N 0) = .inr (q, tr)) : clT 7 tr ≤ 150 ∧ mlT 7 tr ≤ 37 := by
  have h1 := pTop_g _ _ _ (sk_le (by omega)) h
  have h2 := clT_le 7 tr
  omega
theorem c_X11_work {T : Nat} {x : Int32} (h : tT I t T) (hW : Wc I 33 D cs S) (hY : sY S ≤ 400) (h32 : I 32 2 = nI ww) (hw : ww ≤ 16) (hn : n + 1 ≤ 600000 ∧ w + 6 ≤ 7000000)
 (h1 : ¬ (¬ x < 0 ∧ ¬ nI (min T 150) < x) → Q (.inr 1) (Z (up I 1 18 (I 1 18 + 1)) J (n + 1) (w + 6)))
 (h4 : ∀ N I', x = nI N → N ≤ min T 150 → ww = 16 → (∀ y j, ¬ kS y j → (y ≠ 2 ∨ j = 0) → I' y j = I y j) → I' 2 1 = 0 → I' 2 7 = -1 → Q (.inl (some (.int (-20)))) (Z I' J n w))
 (h2 : ∀ N e I', x = nI N → N ≤ min T 150 → ww < 16 → pTop t N (cb D) (cc D) (sk t N 0) = .inl e → (∀ y j, ¬ kS y j → (y ≠ 2 ∨ j = 0) → I' y j = I y j) → I' 2 1 = 0 → I' 2 7 = nI e.2 → Q (.inl (some (.int (nI e.1 - 10)))) (Z I' J n w))
 (h3 : ∀ N q tr I', x = nI N → N ≤ min T 150 → ww < 16 → pTop t N (cb D) (cc D) (sk t N 0) = .inr (q, tr) → (∀ y j, ¬ kS y j → (y ≠ 2 ∨ j = 0) → (y < 32 ∨ 39 < y) → (y < 41 + 7 * ww ∨ 47 + 7 * ww < y) → (y ≠ 1 ∨ j ≠ 16) → I' y j = I y j) → I' 2 1 = 0 → I' 2 7 = -1 → I' 32 2 = nI (ww + 1) → I' 1 16 = nI (exT D cs 7 tr (S, 0, 0, 0)).2.2.2 → Sc I' 33 (exT D cs 7 tr (S, 0, 0, 0)).1 → Sc I' (41 + 7 * ww) S → xOk D (exT D cs 7 tr (S, 0, 0, 0)) → Q (.inl (some (.int (nI (exT D cs 7 tr (S, 0, 0, 0)).2.2.1)))) (Z I' J n w)) : Cn g (d + 26) mX11_work [.ref 1, .int x] (Z I J n w) Q := by
  have hT := h.1
  show Rn g (d + 26) mX11_work 0 [.ref 1, .int x, .retAddr 0] [] [] (Z I J n w) Q
  refine s_aload_n (pc := 0) (i := 0) dX11_work_0 rfl rfl ?_
  refine s_iload_n (pc := 1) (i := 1) dX11_work_1 rfl rfl ?_
  refine m_si (pc := 2) (v := 150) dX11_work_2 rfl ?_
  refine m_v2 (pc := 5) dX11_work_5 lk_X11_111 ok_X11_needTextLength (rcO o_1 (by decide) rfl) rfl rfl (c_X11_needTextLength (N := min T 150) h.2.1 (minT h.1 (by decide)) hn (fun k e1 e2 => kt_v ?_) (fun z => kt_x ?_) (by omega))
  · refine s_aload_n (pc := 8) (i := 0) dX11_work_8 rfl rfl ?_
    refine m_gr (pc := 9) dX11_work_9 ff_X11_65 rfl o_1 r_1_9 ?_
    refine m_gi (pc := 12) dX11_work_12 ff_X11_150 rfl o_32 ?_
    refine m_nm (v' := nI ww) (h32) ?_
    refine m_bi (pc := 15) (v := 16) dX11_work_15 rfl ?_
    refine s_iclt (pc := 17) (tgt := 31) dX11_work_17 rfl (fun h17 => ?_) (fun h17 => ?_)
    · have h17 : ww < 16 := (nI_ltI (a := ww) (b := 16) (by omega) (by omega)).mp h17
      refine s_aload_n (pc := 31) (i := 0) dX11_work_31 rfl rfl ?_
      refine m_gr (pc := 32) dX11_work_32 ff_X11_10 rfl o_1 r_1_0 ?_
      refine s_iload_n (pc := 35) (i := 1) dX11_work_35 rfl rfl ?_
      refine m_v1 (pc := 36) dX11_work_36 lk_X11_115 ok_X10_open (rcO o_2 (by decide) rfl) rfl rfl (c_X10_open h (N := k) (by omega) e1 (fun wf wt => kt_v ?_))
      refine s_aload_n (pc := 39) (i := 0) dX11_work_39 rfl rfl ?_
      refine m_gr (pc := 40) dX11_work_40 ff_X11_49 rfl o_1 r_1_7 ?_
      refine s_aload_n (pc := 43) (i := 0) dX11_work_43 rfl rfl ?_
      refine m_gr (pc := 44) dX11_work_44 ff_X11_10 rfl o_1 r_1_0 ?_
      refine s_aload_n (pc := 47) (i := 0) dX11_work_47 rfl rfl ?_
      refine m_gr (pc := 48) dX11_work_48 ff_X11_19 rfl o_1 r_1_1 ?_
      refine m_v2 (pc := 51) dX11_work_51 lk_X11_153 ok_X6_readFrom (rcO o_26 (by decide) rfl) rfl rfl (c_X6_readFrom (D := D) (tT_x h (N := k) (by omega) e1) (sk_le (by omega)) (by omega) (Co_fr hW.1 (fun y j z1 z2 => op_k (by omega))) hW.2.1 (fun e a1 wf1 wt1 I1 q1 q2 => kt_s ?_) (fun p1 tr I1 wf1 wt1 q1 q2 q3 q4 => kt_s ?_))
      · refine s_ifne (pc := 54) (tgt := 65) dX11_work_54 rfl (fun h54 => absurd h54 (by decide)) (fun h54 => ?_)
        refine s_aload_n (pc := 57) (i := 0) dX11_work_57 rfl rfl ?_
        refine m_gr (pc := 58) dX11_work_58 ff_X11_10 rfl o_1 r_1_0 ?_
        refine m_v0 (pc := 61) dX11_work_61 lk_X11_122 ok_X10_faultAnswer (rcO o_2 (by decide) rfl) rfl rfl (c_X10_faultAnswer (kt_s ?_))
        refine s_ireturn (pc := 64) dX11_work_64 rfl rfl ?_
        exact h2 k e _ e1 e2 h17 q1 (fun y j z1 z2 => by rw [tp_k2 z1 z2, kc_C q2 y j z1, op_k z2]) (by rw [tp_o (by decide), q2 _ _ (by decide)]; rfl) rfl
      · have c150 := clT_150 (by omega) q1
        have okt := pTop_o (sk_le (by omega)) q1
        obtain ⟨I2, e2'⟩ : ∃ z, z = tp I1 p1 wf1 wt1 0 (-1) := ⟨_, rfl⟩
        rw [← e2']
        have F2 : ∀ y j, ¬ kS y j → (y ≠ 2 ∨ j = 0) → I2 y j = I y j := fun y j z1 z2 => by rw [e2', tp_k2 z1 z2, kc_C q2 y j z1, op_k z2]
        have F3 : ∀ y j, y ≠ 2 → I2 y j = I1 y j := fun y j z => by rw [e2', tp_o (Or.inl z)]
        have w32 : I2 32 2 = nI ww := (F2 32 2 (by unfold kS; omega) (by omega)).trans h32
        refine s_ifne (pc := 54) (tgt := 65) dX11_work_54 rfl (fun h54 => ?_) (fun h54 => absurd h54 (by decide))
        refine s_aload_n (pc := 65) (i := 0) dX11_work_65 rfl rfl ?_
        refine m_gr (pc := 66) dX11_work_66 ff_X11_65 rfl o_1 r_1_9 ?_
        refine m_v0 (pc := 69) dX11_work_69 lk_X11_156 ok_X5_keepNow (rcO o_32 (by decide) rfl) rfl rfl (c_X5_keepNow w32 h17 (kt_v ?_))
        have F4 : ∀ y j, (y < 41 + 7 * ww ∨ 47 + 7 * ww < y) → y ≠ 32 → kpI I2 ww y j = I2 y j := fun y j z1 z2 => by unfold kpI; rw [up_a z2, cq_out (by omega)]
        have W3 : Wc (kpI I2 ww) 33 D cs S := by
          have hf : ∀ y j, (y < 41 + 7 * ww ∨ 47 + 7 * ww < y) → y ≠ 32 → ¬ kS y j → y ≠ 2 → kpI I2 ww y j = I y j := fun y j z1 z2 z3 z4 => (F4 y j z1 z2).trans (F2 y j z3 (Or.inl z4))
          exact ⟨Co_fr hW.1 (fun y j z1 z2 => hf y j (by omega) (by omega) (by unfold kS; omega) (by omega)), hW.2.1, Lw_fr hW.2.2.1 (fun y j z1 z2 => hf y j (by omega) (by omega) (by unfold kS; omega) (by omega)), hW.2.2.2.1, Sc_fr hW.2.2.2.2.1 (fun y j z1 z2 => hf y j (by omega) (by omega) (by unfold kS; omega) (by omega)), hW.2.2.2.2.2⟩
        refine s_aload_n (pc := 72) (i := 0) dX11_work_72 rfl rfl ?_
        refine m_gr (pc := 73) dX11_work_73 ff_X11_49 rfl o_1 r_1_7 ?_
        refine s_aload_n (pc := 76) (i := 0) dX11_work_76 rfl rfl ?_
        refine m_gr (pc := 77) dX11_work_77 ff_X11_58 rfl o_1 r_1_8 ?_
        refine s_aload_n (pc := 80) (i := 0) dX11_work_80 rfl rfl ?_
        refine m_gr (pc := 81) dX11_work_81 ff_X11_73 rfl o_1 r_1_10 ?_
        refine m_v2 (pc := 84) dX11_work_84 lk_X11_159 ok_X6_carryOut (rcO o_26 (by decide) rfl) rfl rfl (c_X6_carryOut (x := tr) (S := S) (D := D) (cs := cs) W3 hY (pF_T 7 I1 _ tr 0 (fun y j z _ _ => (F4 y j (by omega) (by omega)).trans (F3 y j (by omega))) q4) okt ((F4 26 4 (by omega) (by omega)).trans ((F3 26 4 (by omega)).trans q3)) c150.1 (fun I4 f4 w4 r4 x4 => kt_s ?_))
        · refine s_istore_n (pc := 87) (i := 2) dX11_work_87 rfl (Nat.le_of_ble_eq_true rfl) ?_
          dsimp only [List.set, List.filter]
          have W33 : Sc I2 33 S := Sc_fr hW.2.2.2.2.1 (fun y j z1 z2 => F2 y j (by unfold kS; omega) (by omega))
          refine s_aload_n (pc := 88) (i := 0) dX11_work_88 rfl rfl ?_
          refine s_aload_n (pc := 89) (i := 0) dX11_work_89 rfl rfl ?_
          refine m_gr (pc := 90) dX11_work_90 ff_X11_49 rfl o_1 r_1_7 ?_
          refine m_gi (pc := 93) dX11_work_93 ff_X11_163 rfl o_26 ?_
          refine m_nm (v' := nI (exT D cs 7 tr (S, 0, 0, 0)).2.2.2) (r4) ?_
          refine m_pi (pc := 96) dX11_work_96 ff_X11_140 rfl rfl o_1 ?_
          refine s_iload_n (pc := 99) (i := 2) dX11_work_99 rfl rfl ?_
          refine s_ireturn (pc := 100) dX11_work_100 rfl rfl ?_
          refine h3 k p1 tr _ e1 e2 h17 q1 (fun y j z1 z2 z3 z4 z5 => ?_) ?_ ?_ ?_ up_s ?_ ?_ x4
          · rw [up_n3 (by omega), f4 y j (by unfold kS at z1; omega), F4 y j z4 (by omega), F2 y j z1 z2]
          · rw [up_a (by decide), f4 2 1 (by omega), F4 2 1 (by omega) (by decide), e2', tp_o (by decide), q2 _ _ (by decide)]; rfl
          · rw [up_a (by decide), f4 2 7 (by omega), F4 2 7 (by omega) (by decide), e2']; rfl
          · rw [up_a (by decide), f4 32 2 (by omega)]; exact up_s
          · exact Sc_fr w4.2.2.2.2.1 (fun y j z1 z2 => up_a (by omega))
          · refine Sc_fr (cq_in (o := 41 + 7 * ww) W33) (fun y j z1 z2 => ?_)
            rw [up_a (by omega), f4 y j (by omega)]; exact up_a (by omega)
    · have h17 : ¬ ww < 16 := fun z => h17 ((nI_ltI (a := ww) (b := 16) (by omega) (by omega)).mpr z)
      refine s_aload_n (pc := 20) (i := 0) dX11_work_20 rfl rfl ?_
      refine m_gr (pc := 21) dX11_work_21 ff_X11_10 rfl o_1 r_1_0 ?_
      refine m_ic (pc := 24) (v := 0) dX11_work_24 rfl ?_
      refine m_v1 (pc := 25) dX11_work_25 lk_X11_115 ok_X10_open (rcO o_2 (by decide) rfl) rfl rfl (c_X10_open h (N := 0) (by omega) rfl (fun wf wt => kt_v ?_))
      · refine m_bi (pc := 28) (v := (-20)) dX11_work_28 rfl ?_
        refine s_ireturn (pc := 30) dX11_work_30 rfl rfl ?_
        exact h4 k _ e1 e2 (by omega) (fun y j z1 z2 => by rw [tp_k2 z1 z2, op_k z2]) rfl rfl
  · exact h1 z
end S
