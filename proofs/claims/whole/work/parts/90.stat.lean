section S
variable {g : aG} {d : Nat} {I : Nat → Nat → Int32} {J : Nat → Nat → Int64} {n w : Nat} {Q : aO → aS → Prop}
variable {σ : aS} {T ww mm : Nat}
def vSt (a b x : Int32) : Int32 := if x = 0 then a else if x = 1 then b else -1
def vCt (a b c x : Int32) : Int32 := if x = 0 then a else if x = 1 then b else if x = 2 then c else -1
theorem tab_o {x : Int32} (h0 : ¬ x = 0) (h1 : ¬ x = 1) (h2 : ¬ x = 2) : x.toInt < 0 ∨ 2 < x.toInt := by
  have a0 : ¬ x.toInt = 0 := fun z => h0 ((fa_eq x 0).mpr z)
  have a1 : ¬ x.toInt = 1 := fun z => h1 ((fa_eq x 1).mpr z)
  have a2 : ¬ x.toInt = 2 := fun z => h2 ((fa_eq x 2).mpr z)
  omega
theorem lok_o {x : Int32} (h0 : ¬ x = 0) (h1 : ¬ x = 1) : Op.lookupswitch.offset [((0 : Int), (27 : Int)), (1, 32)] 37 x.toInt = 37 := by
  have a0 : ¬ (0 : Int) = x.toInt := fun z => h0 ((fa_eq x 0).mpr z.symm)
  have a1 : ¬ (1 : Int) = x.toInt := fun z => h1 ((fa_eq x 1).mpr z.symm)
  rw [Op.lookupswitch.offset_cons, if_neg a0, Op.lookupswitch.offset_cons, if_neg a1]; rfl
theorem c_X11_status {x a b : Int32} (ha : I 1 17 = a) (hb : I 1 18 = b) (hq : Q (.inl (some (.int (vSt a b x)))) (Z I J n w)) : Cn g (d + 0) mX11_status [.ref 1, .int x] (Z I J n w) Q := by
  by_cases h0 : x = 0
  · subst h0
    show Rn g (d + 0) mX11_status 0 [.ref 1, .int 0] [] [] (Z I J n w) Q
    refine s_iload_n (pc := 0) (i := 1) dX11_status_0 rfl rfl ?_
    refine s_look (pc := 1) (tgt := 28) dX11_status_1 rfl rfl rfl ?_
    refine s_aload_n (pc := 28) (i := 0) dX11_status_28 rfl rfl ?_
    refine m_gi (pc := 29) dX11_status_29 ff_X11_394 rfl o_1 ?_
    refine m_nm (v' := a) (ha) ?_
    refine s_ireturn (pc := 32) dX11_status_32 rfl rfl ?_
    exact hq
  by_cases h1 : x = 1
  · subst h1
    show Rn g (d + 0) mX11_status 0 [.ref 1, .int 1] [] [] (Z I J n w) Q
    refine s_iload_n (pc := 0) (i := 1) dX11_status_0 rfl rfl ?_
    refine s_look (pc := 1) (tgt := 33) dX11_status_1 rfl rfl rfl ?_
    refine s_aload_n (pc := 33) (i := 0) dX11_status_33 rfl rfl ?_
    refine m_gi (pc := 34) dX11_status_34 ff_X11_397 rfl o_1 ?_
    refine m_nm (v' := b) (hb) ?_
    refine s_ireturn (pc := 37) dX11_status_37 rfl rfl ?_
    exact hq
  have E : vSt a b x = -1 := by unfold vSt; rw [if_neg h0, if_neg h1]
  rw [E] at hq
  show Rn g (d + 0) mX11_status 0 [.ref 1, .int x] [] [] (Z I J n w) Q
  refine s_iload_n (pc := 0) (i := 1) dX11_status_0 rfl rfl ?_
  refine s_look (pc := 1) (tgt := 38) dX11_status_1 rfl (lok_o h0 h1) rfl ?_
  refine m_ic (pc := 38) (v := -1) dX11_status_38 rfl ?_
  refine s_ireturn (pc := 39) dX11_status_39 rfl rfl ?_
  exact hq
theorem c_X11_count {x a b c : Int32} (ha : I 1 15 = a) (hb : I 2 1 = b) (hc : I 32 2 = c) (hq : Q (.inl (some (.int (vCt a b c x)))) (Z I J n w)) : Cn g (d + 0) mX11_count [.ref 1, .int x] (Z I J n w) Q := by
  by_cases h0 : x = 0
  · subst h0
    show Rn g (d + 0) mX11_count 0 [.ref 1, .int 0] [] [] (Z I J n w) Q
    refine s_iload_n (pc := 0) (i := 1) dX11_count_0 rfl rfl ?_
    refine s_tabIn (pc := 1) (tgt := 28) dX11_count_1 (by decide) (by decide) rfl rfl ?_
    refine s_aload_n (pc := 28) (i := 0) dX11_count_28 rfl rfl ?_
    refine m_gi (pc := 29) dX11_count_29 ff_X11_137 rfl o_1 ?_
    refine m_nm (v' := a) (ha) ?_
    refine s_ireturn (pc := 32) dX11_count_32 rfl rfl ?_
    exact hq
  by_cases h1 : x = 1
  · subst h1
    show Rn g (d + 0) mX11_count 0 [.ref 1, .int 1] [] [] (Z I J n w) Q
    refine s_iload_n (pc := 0) (i := 1) dX11_count_0 rfl rfl ?_
    refine s_tabIn (pc := 1) (tgt := 33) dX11_count_1 (by decide) (by decide) rfl rfl ?_
    refine s_aload_n (pc := 33) (i := 0) dX11_count_33 rfl rfl ?_
    refine m_gr (pc := 34) dX11_count_34 ff_X11_10 rfl o_1 r_1_0 ?_
    refine m_gi (pc := 37) dX11_count_37 ff_X11_103 rfl o_2 ?_
    refine m_nm (v' := b) (hb) ?_
    refine s_ireturn (pc := 40) dX11_count_40 rfl rfl ?_
    exact hq
  by_cases h2 : x = 2
  · subst h2
    show Rn g (d + 0) mX11_count 0 [.ref 1, .int 2] [] [] (Z I J n w) Q
    refine s_iload_n (pc := 0) (i := 1) dX11_count_0 rfl rfl ?_
    refine s_tabIn (pc := 1) (tgt := 41) dX11_count_1 (by decide) (by decide) rfl rfl ?_
    refine s_aload_n (pc := 41) (i := 0) dX11_count_41 rfl rfl ?_
    refine m_gr (pc := 42) dX11_count_42 ff_X11_65 rfl o_1 r_1_9 ?_
    refine m_gi (pc := 45) dX11_count_45 ff_X11_150 rfl o_32 ?_
    refine m_nm (v' := c) (hc) ?_
    refine s_ireturn (pc := 48) dX11_count_48 rfl rfl ?_
    exact hq
  have E : vCt a b c x = -1 := by unfold vCt; rw [if_neg h0, if_neg h1, if_neg h2]
  rw [E] at hq
  show Rn g (d + 0) mX11_count 0 [.ref 1, .int x] [] [] (Z I J n w) Q
  refine s_iload_n (pc := 0) (i := 1) dX11_count_0 rfl rfl ?_
  refine s_tabOut (pc := 1) (tgt := 49) dX11_count_1 (tab_o h0 h1 h2) rfl ?_
  refine m_ic (pc := 49) (v := -1) dX11_count_49 rfl ?_
  refine s_ireturn (pc := 50) dX11_count_50 rfl rfl ?_
  exact hq
theorem c_X12_status {x a b : Int32} (ha : I 535 0 = a) (hb : I 535 1 = b) (hq : Q (.inl (some (.int (vSt a b x)))) (Z (up I 534 0 0) J n w)) : Cn g (d + 1) mX12_status [.ref 534, .int x] (Z I J n w) Q := by
  show Rn g (d + 1) mX12_status 0 [.ref 534, .int x] [] [] (Z I J n w) Q
  refine s_aload_n (pc := 0) (i := 0) dX12_status_0 rfl rfl ?_
  refine m_ic (pc := 1) (v := 0) dX12_status_1 rfl ?_
  refine m_pi (pc := 2) dX12_status_2 ff_X12_3 rfl rfl o_534 ?_
  refine s_iload_n (pc := 5) (i := 1) dX12_status_5 rfl rfl ?_
  refine m_ic (pc := 6) (v := 0) dX12_status_6 rfl ?_
  refine m_ic (pc := 7) (v := 1) dX12_status_7 rfl ?_
  refine m_s3 (pc := 8) dX12_status_8 lk_X12_373 ok_X12_within rfl rfl (c_win (lo := 0) (m := 2) rfl rfl (by decide) (fun v e l h => kt_s ?_) (fun z => kt_s ?_))
  · subst e
    refine s_ifeq (pc := 11) (tgt := 23) dX12_status_11 rfl (fun h11 => absurd h11 (by decide)) (fun h11 => ?_)
    rcases (show v = 0 ∨ v = 1 by omega) with e | e
    · subst e
      refine s_aload_n (pc := 14) (i := 0) dX12_status_14 rfl rfl ?_
      refine m_gr (pc := 15) dX12_status_15 ff_X12_7 rfl o_534 r_534_1 ?_
      refine s_iload_n (pc := 18) (i := 1) dX12_status_18 rfl rfl ?_
      refine m_ia (pc := 19) dX12_status_19 a_535 (vp_in_nI (n := _) (by omega) (by decide)) ?_
      refine m_nm (v' := a) (rdI (j := _) ((up_a (by decide)).trans ha) (by omega)) ?_
      refine s_goto (pc := 20) (tgt := 24) dX12_status_20 rfl ?_
      refine s_ireturn (pc := 24) dX12_status_24 rfl rfl ?_
      exact hq
    · subst e
      refine s_aload_n (pc := 14) (i := 0) dX12_status_14 rfl rfl ?_
      refine m_gr (pc := 15) dX12_status_15 ff_X12_7 rfl o_534 r_534_1 ?_
      refine s_iload_n (pc := 18) (i := 1) dX12_status_18 rfl rfl ?_
      refine m_ia (pc := 19) dX12_status_19 a_535 (vp_in_nI (n := _) (by omega) (by decide)) ?_
      refine m_nm (v' := b) (rdI (j := _) ((up_a (by decide)).trans hb) (by omega)) ?_
      refine s_goto (pc := 20) (tgt := 24) dX12_status_20 rfl ?_
      refine s_ireturn (pc := 24) dX12_status_24 rfl rfl ?_
      exact hq
  · refine s_ifeq (pc := 11) (tgt := 23) dX12_status_11 rfl (fun h11 => ?_) (fun h11 => absurd h11 (by decide))
    refine m_ic (pc := 23) (v := -1) dX12_status_23 rfl ?_
    refine s_ireturn (pc := 24) dX12_status_24 rfl rfl ?_
    have E : vSt a b x = -1 := by
      have n0 : ¬ x = 0 := fun e => z ⟨0, e, Nat.le_refl _, by decide⟩
      have n1 : ¬ x = 1 := fun e => z ⟨1, e, Nat.zero_le _, by decide⟩
      unfold vSt; rw [if_neg n0, if_neg n1]
    rw [E] at hq; exact hq
theorem c_X12_count {x a b c : Int32} (ha : I 534 50 = a) (hb : I 534 2 = b) (hc : I 534 31 = c) (hq : Q (.inl (some (.int (vCt a b c x)))) (Z (up I 534 0 0) J n w)) : Cn g (d + 0) mX12_count [.ref 534, .int x] (Z I J n w) Q := by
  show Rn g (d + 0) mX12_count 0 [.ref 534, .int x] [] [] (Z I J n w) Q
  refine s_aload_n (pc := 0) (i := 0) dX12_count_0 rfl rfl ?_
  refine m_ic (pc := 1) (v := 0) dX12_count_1 rfl ?_
  refine m_pi (pc := 2) dX12_count_2 ff_X12_3 rfl rfl o_534 ?_
  refine s_iload_n (pc := 5) (i := 1) dX12_count_5 rfl rfl ?_
  refine s_ifne (pc := 6) (tgt := 16) dX12_count_6 rfl (fun h0 => ?_) (fun h0 => ?_)
  · skip
    refine s_iload_n (pc := 16) (i := 1) dX12_count_16 rfl rfl ?_
    refine m_ic (pc := 17) (v := 1) dX12_count_17 rfl ?_
    refine s_icne (pc := 18) (tgt := 28) dX12_count_18 rfl (fun h1 => ?_) (fun h1 => ?_)
    · skip
      refine s_iload_n (pc := 28) (i := 1) dX12_count_28 rfl rfl ?_
      refine m_ic (pc := 29) (v := 2) dX12_count_29 rfl ?_
      refine s_icne (pc := 30) (tgt := 40) dX12_count_30 rfl (fun h2 => ?_) (fun h2 => ?_)
      · skip
        refine m_ic (pc := 40) (v := -1) dX12_count_40 rfl ?_
        refine s_ireturn (pc := 41) dX12_count_41 rfl rfl ?_
        have E : vCt a b c x = -1 := by unfold vCt; rw [if_neg h0, if_neg h1, if_neg h2]
        rw [E] at hq; exact hq
      · skip
        refine s_aload_n (pc := 33) (i := 0) dX12_count_33 rfl rfl ?_
        refine m_gi (pc := 34) dX12_count_34 ff_X12_173 rfl o_534 ?_
        refine m_nm (v' := c) ((up_k (by decide)).trans hc) ?_
        refine s_goto (pc := 37) (tgt := 41) dX12_count_37 rfl ?_
        refine s_ireturn (pc := 41) dX12_count_41 rfl rfl ?_
        have E : vCt a b c x = c := by unfold vCt; rw [if_neg h0, if_neg h1, if_pos h2]
        rw [E] at hq; exact hq
    · skip
      refine s_aload_n (pc := 21) (i := 0) dX12_count_21 rfl rfl ?_
      refine m_gi (pc := 22) dX12_count_22 ff_X12_99 rfl o_534 ?_
      refine m_nm (v' := b) ((up_k (by decide)).trans hb) ?_
      refine s_goto (pc := 25) (tgt := 41) dX12_count_25 rfl ?_
      refine s_ireturn (pc := 41) dX12_count_41 rfl rfl ?_
      have E : vCt a b c x = b := by unfold vCt; rw [if_neg h0, if_pos h1]
      rw [E] at hq; exact hq
  · skip
    refine s_aload_n (pc := 9) (i := 0) dX12_count_9 rfl rfl ?_
    refine m_gi (pc := 10) dX12_count_10 ff_X12_176 rfl o_534 ?_
    refine m_nm (v' := a) ((up_k (by decide)).trans ha) ?_
    refine s_goto (pc := 13) (tgt := 41) dX12_count_13 rfl ?_
    refine s_ireturn (pc := 41) dX12_count_41 rfl rfl ?_
    have E : vCt a b c x = a := if_pos h0
    rw [E] at hq; exact hq
end S
