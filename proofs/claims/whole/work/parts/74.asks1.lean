section S
variable {g : aG} {d : Nat} {I : Nat → Nat → Int32} {J : Nat → Nat → Int64} {n w : Nat} {Q : aO → aS → Prop}
variable {σ : aS} {S : sD} {D : cD} {cs : List Nat}
theorem c_X11_hearing (hW : Wc I 33 D cs S) (hn : n + 1 ≤ 600000 ∧ w + 6 ≤ 7000000) {x y : Int32} (r0 : ¬ iv 0 (cb D) x → Q (.inr 0) (Z (up I 1 17 (I 1 17 + 1)) J (n + 1) (w + 6))) (r1 : iv 0 (cb D) x → ¬ iv 0 (cc D) y → Q (.inr 0) (Z (up I 1 17 (I 1 17 + 1)) J (n + 1) (w + 6))) (hg : ∀ b, ∀ c, x = nI b → b < cb D → y = nI c → c < cc D → ∀ I', kc I I' → Q (.inl (some (.int (ob (sK S b c))))) (Z I' J n w)) : Cn g (d + 8) mX11_hearing [.ref 1, .int x, .int y] (Z I J n w) Q := by
  have hb7 := hW.2.1.1
  have hc12 := hW.2.1.2.1
  show Rn g (d + 8) mX11_hearing 0 [.ref 1, .int x, .int y] [] [] (Z I J n w) Q
  refine s_aload_n (pc := 0) (i := 0) dX11_hearing_0 rfl rfl ?_
  refine s_iload_n (pc := 1) (i := 1) dX11_hearing_1 rfl rfl ?_
  refine m_v1 (pc := 2) dX11_hearing_2 lk_X11_214 ok_X11_needBack (rcO o_1 (by decide) rfl) rfl rfl (c_nb hW.1 hW.2.1 hn (fun b eb hb => kt_v ?_) (fun z => kt_x ?_))
  · subst eb
    refine s_aload_n (pc := 5) (i := 0) dX11_hearing_5 rfl rfl ?_
    refine s_iload_n (pc := 6) (i := 2) dX11_hearing_6 rfl rfl ?_
    refine m_v1 (pc := 7) dX11_hearing_7 lk_X11_240 ok_X11_needCouncil (rcO o_1 (by decide) rfl) rfl rfl (c_nk hW.1 hW.2.1 hn (fun c ec hc => kt_v ?_) (fun z => kt_x ?_))
    · subst ec
      refine s_aload_n (pc := 10) (i := 0) dX11_hearing_10 rfl rfl ?_
      refine m_gr (pc := 11) dX11_hearing_11 ff_X11_73 rfl o_1 r_1_10 ?_
      refine s_iload_n (pc := 14) (i := 1) dX11_hearing_14 rfl rfl ?_
      refine s_iload_n (pc := 15) (i := 2) dX11_hearing_15 rfl rfl ?_
      refine m_v2 (pc := 16) dX11_hearing_16 lk_X11_256 ok_X9_hearingsOf (rcO o_33 (by decide) rfl) rfl rfl (c_X9_hearingsOf sO_33 hW.2.2.2.2.1 (by omega) (by omega) (kt_s ?_))
      refine s_ireturn (pc := 19) dX11_hearing_19 rfl rfl ?_
      exact hg b c rfl hb rfl hc I kc_r
    · exact r1 ⟨b, rfl, Nat.zero_le _, hb⟩ z
  · exact r0  z
theorem c_X11_load (hW : Wc I 33 D cs S) (hn : n + 1 ≤ 600000 ∧ w + 6 ≤ 7000000) {x y : Int32} (r0 : ¬ iv 0 (cb D) x → Q (.inr 0) (Z (up I 1 17 (I 1 17 + 1)) J (n + 1) (w + 6))) (r1 : iv 0 (cb D) x → ¬ iv 0 (cc D) y → Q (.inr 0) (Z (up I 1 17 (I 1 17 + 1)) J (n + 1) (w + 6))) (hg : ∀ b, ∀ c, x = nI b → b < cb D → y = nI c → c < cc D → ∀ I', kc I I' → Q (.inl (some (.int (nI (lod D cs S b c 0))))) (Z I' J n w)) : Cn g (d + 8) mX11_load [.ref 1, .int x, .int y] (Z I J n w) Q := by
  have hb7 := hW.2.1.1
  have hc12 := hW.2.1.2.1
  show Rn g (d + 8) mX11_load 0 [.ref 1, .int x, .int y] [] [] (Z I J n w) Q
  refine s_aload_n (pc := 0) (i := 0) dX11_load_0 rfl rfl ?_
  refine s_iload_n (pc := 1) (i := 1) dX11_load_1 rfl rfl ?_
  refine m_v1 (pc := 2) dX11_load_2 lk_X11_214 ok_X11_needBack (rcO o_1 (by decide) rfl) rfl rfl (c_nb hW.1 hW.2.1 hn (fun b eb hb => kt_v ?_) (fun z => kt_x ?_))
  · subst eb
    refine s_aload_n (pc := 5) (i := 0) dX11_load_5 rfl rfl ?_
    refine s_iload_n (pc := 6) (i := 2) dX11_load_6 rfl rfl ?_
    refine m_v1 (pc := 7) dX11_load_7 lk_X11_240 ok_X11_needCouncil (rcO o_1 (by decide) rfl) rfl rfl (c_nk hW.1 hW.2.1 hn (fun c ec hc => kt_v ?_) (fun z => kt_x ?_))
    · subst ec
      refine s_aload_n (pc := 10) (i := 0) dX11_load_10 rfl rfl ?_
      refine m_gr (pc := 11) dX11_load_11 ff_X11_58 rfl o_1 r_1_8 ?_
      refine s_aload_n (pc := 14) (i := 0) dX11_load_14 rfl rfl ?_
      refine m_gr (pc := 15) dX11_load_15 ff_X11_73 rfl o_1 r_1_10 ?_
      refine s_iload_n (pc := 18) (i := 1) dX11_load_18 rfl rfl ?_
      refine s_iload_n (pc := 19) (i := 2) dX11_load_19 rfl rfl ?_
      refine m_ic (pc := 20) (v := 0) dX11_load_20 rfl ?_
      refine m_v4 (pc := 21) dX11_load_21 lk_X11_260 ok_X3_loadOn (rcO o_31 (by decide) rfl) rfl rfl (c_X3_loadOn (k := 0) (o := 33) sO_33 (by decide) hW hb hc (by decide) (fun I1 f1 => kt_s ?_))
      refine s_ireturn (pc := 24) dX11_load_24 rfl rfl ?_
      exact hg b c rfl hb rfl hc I1 (kc_l f1)
    · exact r1 ⟨b, rfl, Nat.zero_le _, hb⟩ z
  · exact r0  z
theorem c_X11_burden (hW : Wc I 33 D cs S) (hn : n + 1 ≤ 600000 ∧ w + 6 ≤ 7000000) {x y : Int32} (r0 : ¬ iv 0 (cb D) x → Q (.inr 0) (Z (up I 1 17 (I 1 17 + 1)) J (n + 1) (w + 6))) (r1 : iv 0 (cb D) x → ¬ iv 0 (cc D) y → Q (.inr 0) (Z (up I 1 17 (I 1 17 + 1)) J (n + 1) (w + 6))) (hg : ∀ b, ∀ c, x = nI b → b < cb D → y = nI c → c < cc D → ∀ I', kc I I' → Q (.inl (some (.int (nI (bur D cs S b c 0))))) (Z I' J n w)) : Cn g (d + 8) mX11_burden [.ref 1, .int x, .int y] (Z I J n w) Q := by
  have hb7 := hW.2.1.1
  have hc12 := hW.2.1.2.1
  show Rn g (d + 8) mX11_burden 0 [.ref 1, .int x, .int y] [] [] (Z I J n w) Q
  refine s_aload_n (pc := 0) (i := 0) dX11_burden_0 rfl rfl ?_
  refine s_iload_n (pc := 1) (i := 1) dX11_burden_1 rfl rfl ?_
  refine m_v1 (pc := 2) dX11_burden_2 lk_X11_214 ok_X11_needBack (rcO o_1 (by decide) rfl) rfl rfl (c_nb hW.1 hW.2.1 hn (fun b eb hb => kt_v ?_) (fun z => kt_x ?_))
  · subst eb
    refine s_aload_n (pc := 5) (i := 0) dX11_burden_5 rfl rfl ?_
    refine s_iload_n (pc := 6) (i := 2) dX11_burden_6 rfl rfl ?_
    refine m_v1 (pc := 7) dX11_burden_7 lk_X11_240 ok_X11_needCouncil (rcO o_1 (by decide) rfl) rfl rfl (c_nk hW.1 hW.2.1 hn (fun c ec hc => kt_v ?_) (fun z => kt_x ?_))
    · subst ec
      refine s_aload_n (pc := 10) (i := 0) dX11_burden_10 rfl rfl ?_
      refine m_gr (pc := 11) dX11_burden_11 ff_X11_58 rfl o_1 r_1_8 ?_
      refine s_aload_n (pc := 14) (i := 0) dX11_burden_14 rfl rfl ?_
      refine m_gr (pc := 15) dX11_burden_15 ff_X11_73 rfl o_1 r_1_10 ?_
      refine s_iload_n (pc := 18) (i := 1) dX11_burden_18 rfl rfl ?_
      refine s_iload_n (pc := 19) (i := 2) dX11_burden_19 rfl rfl ?_
      refine m_ic (pc := 20) (v := 0) dX11_burden_20 rfl ?_
      refine m_v4 (pc := 21) dX11_burden_21 lk_X11_264 ok_X3_burdenOn (rcO o_31 (by decide) rfl) rfl rfl (c_X3_burdenOn (k := 0) (o := 33) sO_33 (by decide) hW hb hc (by decide) (fun I1 f1 => kt_s ?_))
      refine s_ireturn (pc := 24) dX11_burden_24 rfl rfl ?_
      exact hg b c rfl hb rfl hc I1 (kc_l f1)
    · exact r1 ⟨b, rfl, Nat.zero_le _, hb⟩ z
  · exact r0  z
theorem c_X12_hearing (hW : Wn I D cs S) {x y : Int32} (r0 : ¬ iv 0 (cb D) x → Q (.inl (some (.int 0))) (Z (thr I 1 0) J n w)) (r1 : iv 0 (cb D) x → ¬ iv 0 (cc D) y → Q (.inl (some (.int 0))) (Z (thr I 1 0) J n w)) (hg : ∀ b, ∀ c, x = nI b → b < cb D → y = nI c → c < cc D → ∀ I', km I I' → I' 534 0 = 0 → Q (.inl (some (.int (ob (sK S b c))))) (Z I' J n w)) : Cn g (d + 3) mX12_hearing [.ref 534, .int x, .int y] (Z I J n w) Q := by
  have hb7 := hW.2.1.1
  have hc12 := hW.2.1.2.1
  show Rn g (d + 3) mX12_hearing 0 [.ref 534, .int x, .int y] [] [] (Z I J n w) Q
  refine s_aload_n (pc := 0) (i := 0) dX12_hearing_0 rfl rfl ?_
  refine m_ic (pc := 1) (v := 0) dX12_hearing_1 rfl ?_
  refine m_pi (pc := 2) dX12_hearing_2 ff_X12_3 rfl rfl o_534 ?_
  refine s_aload_n (pc := 5) (i := 0) dX12_hearing_5 rfl rfl ?_
  refine s_iload_n (pc := 6) (i := 1) dX12_hearing_6 rfl rfl ?_
  refine m_ic (pc := 7) (v := 1) dX12_hearing_7 rfl ?_
  refine m_v2 (pc := 8) dX12_hearing_8 lk_X12_385 ok_X12_isBack (rcO o_534 (by decide) rfl) rfl rfl (c_X12_isBack (D := D) up_s ((up_n3 (by omega)).trans hW.1.1) hW.2.1 (by decide) (fun b eb hb => kt_s ?_) (fun z => kt_s ?_))
  · subst eb
    refine s_ifeq (pc := 11) (tgt := 39) dX12_hearing_11 rfl (fun h11 => absurd h11 (by decide)) (fun h11 => ?_)
    refine s_aload_n (pc := 14) (i := 0) dX12_hearing_14 rfl rfl ?_
    refine s_iload_n (pc := 15) (i := 2) dX12_hearing_15 rfl rfl ?_
    refine m_ic (pc := 16) (v := 1) dX12_hearing_16 rfl ?_
    refine m_v2 (pc := 17) dX12_hearing_17 lk_X12_388 ok_X12_isCouncil (rcO o_534 (by decide) rfl) rfl rfl (c_X12_isCouncil (D := D) up_s ((up_n3 (by omega)).trans hW.1.2.1) hW.2.1 (by decide) (fun c ec hc => kt_s ?_) (fun z => kt_s ?_))
    · subst ec
      refine s_ifeq (pc := 20) (tgt := 39) dX12_hearing_20 rfl (fun h20 => absurd h20 (by decide)) (fun h20 => ?_)
      refine s_aload_n (pc := 23) (i := 0) dX12_hearing_23 rfl rfl ?_
      refine m_gr (pc := 24) dX12_hearing_24 ff_X12_59 rfl o_534 r_534_36 ?_
      refine m_ic (pc := 27) (v := 0) dX12_hearing_27 rfl ?_
      refine m_bi (pc := 28) (v := 12) dX12_hearing_28 rfl ?_
      refine s_iload_n (pc := 30) (i := 1) dX12_hearing_30 rfl rfl ?_
      refine s_imul (pc := 31) dX12_hearing_31 ?_
      refine m_nm (v' := nI (12 * b)) (pk_mul 12 b) ?_
      refine s_iadd (pc := 32) dX12_hearing_32 ?_
      refine m_nm (v' := nI (12 * b)) (nI_z _) ?_
      refine s_iload_n (pc := 33) (i := 2) dX12_hearing_33 rfl rfl ?_
      refine s_iadd (pc := 34) dX12_hearing_34 ?_
      refine m_nm (v' := nI ((12 * b) + c)) (nI_add (12 * b) c) ?_
      refine m_ia (pc := 35) dX12_hearing_35 a_549 (vp_in_nI (n := (12 * b) + c) (by omega) (by decide)) ?_
      refine m_nm (v' := ob (sK S b c)) (rdI (j := (12 * b) + c) ((up_a (by decide)).trans (hW.2.2.2.2.1.2.1 b c (by omega) (by omega))) (by omega)) ?_
      refine s_goto (pc := 36) (tgt := 40) dX12_hearing_36 rfl ?_
      refine s_ireturn (pc := 40) dX12_hearing_40 rfl rfl ?_
      exact hg b c rfl hb rfl hc _ th_k up_s
    · refine s_ifeq (pc := 20) (tgt := 39) dX12_hearing_20 rfl (fun h20 => ?_) (fun h20 => absurd h20 (by decide))
      refine m_ic (pc := 39) (v := 0) dX12_hearing_39 rfl ?_
      refine s_ireturn (pc := 40) dX12_hearing_40 rfl rfl ?_
      rw [thr_0]
      exact r1 ⟨b, rfl, Nat.zero_le _, hb⟩ z
  · refine s_ifeq (pc := 11) (tgt := 39) dX12_hearing_11 rfl (fun h11 => ?_) (fun h11 => absurd h11 (by decide))
    refine m_ic (pc := 39) (v := 0) dX12_hearing_39 rfl ?_
    refine s_ireturn (pc := 40) dX12_hearing_40 rfl rfl ?_
    rw [thr_0]
    exact r0  z
theorem c_X12_load (hW : Wn I D cs S) {x y : Int32} (r0 : ¬ iv 0 (cb D) x → Q (.inl (some (.int 0))) (Z (thr I 1 0) J n w)) (r1 : iv 0 (cb D) x → ¬ iv 0 (cc D) y → Q (.inl (some (.int 0))) (Z (thr I 1 0) J n w)) (hg : ∀ b, ∀ c, x = nI b → b < cb D → y = nI c → c < cc D → ∀ I', km I I' → I' 534 0 = 0 → Q (.inl (some (.int (nI (lod D cs S b c 0))))) (Z I' J n w)) : Cn g (d + 7) mX12_load [.ref 534, .int x, .int y] (Z I J n w) Q := by
  have hb7 := hW.2.1.1
  have hc12 := hW.2.1.2.1
  show Rn g (d + 7) mX12_load 0 [.ref 534, .int x, .int y] [] [] (Z I J n w) Q
  refine s_aload_n (pc := 0) (i := 0) dX12_load_0 rfl rfl ?_
  refine m_ic (pc := 1) (v := 0) dX12_load_1 rfl ?_
  refine m_pi (pc := 2) dX12_load_2 ff_X12_3 rfl rfl o_534 ?_
  refine s_aload_n (pc := 5) (i := 0) dX12_load_5 rfl rfl ?_
  refine s_iload_n (pc := 6) (i := 1) dX12_load_6 rfl rfl ?_
  refine m_ic (pc := 7) (v := 1) dX12_load_7 rfl ?_
  refine m_v2 (pc := 8) dX12_load_8 lk_X12_385 ok_X12_isBack (rcO o_534 (by decide) rfl) rfl rfl (c_X12_isBack (D := D) up_s ((up_n3 (by omega)).trans hW.1.1) hW.2.1 (by decide) (fun b eb hb => kt_s ?_) (fun z => kt_s ?_))
  · subst eb
    refine s_ifeq (pc := 11) (tgt := 23) dX12_load_11 rfl (fun h11 => absurd h11 (by decide)) (fun h11 => ?_)
    refine s_aload_n (pc := 14) (i := 0) dX12_load_14 rfl rfl ?_
    refine s_iload_n (pc := 15) (i := 2) dX12_load_15 rfl rfl ?_
    refine m_ic (pc := 16) (v := 1) dX12_load_16 rfl ?_
    refine m_v2 (pc := 17) dX12_load_17 lk_X12_388 ok_X12_isCouncil (rcO o_534 (by decide) rfl) rfl rfl (c_X12_isCouncil (D := D) up_s ((up_n3 (by omega)).trans hW.1.2.1) hW.2.1 (by decide) (fun c ec hc => kt_s ?_) (fun z => kt_s ?_))
    · subst ec
      refine s_ifne (pc := 20) (tgt := 25) dX12_load_20 rfl (fun h20 => ?_) (fun h20 => absurd h20 (by decide))
      refine s_aload_n (pc := 25) (i := 0) dX12_load_25 rfl rfl ?_
      refine m_v0 (pc := 26) dX12_load_26 lk_X12_310 ok_X12_take (rcO o_534 (by decide) rfl) rfl rfl (c_X12_take (kt_v ?_))
      have hM := tk_W hW
      have hK := tk_k (I := I)
      have h00 := tk_0 (I := I)
      obtain ⟨I1, e1⟩ : ∃ z, z = cpI (up I 534 0 0) 549 550 126 := ⟨_, rfl⟩
      rw [← e1] at hM hK h00 ⊢
      refine s_aload_n (pc := 29) (i := 0) dX12_load_29 rfl rfl ?_
      refine s_iload_n (pc := 30) (i := 1) dX12_load_30 rfl rfl ?_
      refine s_iload_n (pc := 31) (i := 2) dX12_load_31 rfl rfl ?_
      refine m_v2 (pc := 32) dX12_load_32 lk_X12_345 ok_X12_loadBy (rcO o_534 (by decide) rfl) rfl rfl (c_X12_loadBy hM hb hc (fun I2 f2 => kt_s ?_))
      refine s_ireturn (pc := 35) dX12_load_35 rfl rfl ?_
      exact hg b c rfl hb rfl hc I2 (km_t hK (km_m f2)) ((fm_0 f2).trans h00)
    · refine s_ifne (pc := 20) (tgt := 25) dX12_load_20 rfl (fun h20 => absurd h20 (by decide)) (fun h20 => ?_)
      refine m_ic (pc := 23) (v := 0) dX12_load_23 rfl ?_
      refine s_ireturn (pc := 24) dX12_load_24 rfl rfl ?_
      rw [thr_0]
      exact r1 ⟨b, rfl, Nat.zero_le _, hb⟩ z
  · refine s_ifeq (pc := 11) (tgt := 23) dX12_load_11 rfl (fun h11 => ?_) (fun h11 => absurd h11 (by decide))
    refine m_ic (pc := 23) (v := 0) dX12_load_23 rfl ?_
    refine s_ireturn (pc := 24) dX12_load_24 rfl rfl ?_
    rw [thr_0]
    exact r0  z
theorem c_X12_burden (hW : Wn I D cs S) {x y : Int32} (r0 : ¬ iv 0 (cb D) x → Q (.inl (some (.int 0))) (Z (thr I 1 0) J n w)) (r1 : iv 0 (cb D) x → ¬ iv 0 (cc D) y → Q (.inl (some (.int 0))) (Z (thr I 1 0) J n w)) (hg : ∀ b, ∀ c, x = nI b → b < cb D → y = nI c → c < cc D → ∀ I', km I I' → I' 534 0 = 0 → Q (.inl (some (.int (nI (bur D cs S b c 0))))) (Z I' J n w)) : Cn g (d + 7) mX12_burden [.ref 534, .int x, .int y] (Z I J n w) Q := by
  have hb7 := hW.2.1.1
  have hc12 := hW.2.1.2.1
  show Rn g (d + 7) mX12_burden 0 [.ref 534, .int x, .int y] [] [] (Z I J n w) Q
  refine s_aload_n (pc := 0) (i := 0) dX12_burden_0 rfl rfl ?_
  refine m_ic (pc := 1) (v := 0) dX12_burden_1 rfl ?_
  refine m_pi (pc := 2) dX12_burden_2 ff_X12_3 rfl rfl o_534 ?_
  refine s_aload_n (pc := 5) (i := 0) dX12_burden_5 rfl rfl ?_
  refine s_iload_n (pc := 6) (i := 1) dX12_burden_6 rfl rfl ?_
  refine m_ic (pc := 7) (v := 1) dX12_burden_7 rfl ?_
  refine m_v2 (pc := 8) dX12_burden_8 lk_X12_385 ok_X12_isBack (rcO o_534 (by decide) rfl) rfl rfl (c_X12_isBack (D := D) up_s ((up_n3 (by omega)).trans hW.1.1) hW.2.1 (by decide) (fun b eb hb => kt_s ?_) (fun z => kt_s ?_))
  · subst eb
    refine s_ifeq (pc := 11) (tgt := 23) dX12_burden_11 rfl (fun h11 => absurd h11 (by decide)) (fun h11 => ?_)
    refine s_aload_n (pc := 14) (i := 0) dX12_burden_14 rfl rfl ?_
    refine s_iload_n (pc := 15) (i := 2) dX12_burden_15 rfl rfl ?_
    refine m_ic (pc := 16) (v := 1) dX12_burden_16 rfl ?_
    refine m_v2 (pc := 17) dX12_burden_17 lk_X12_388 ok_X12_isCouncil (rcO o_534 (by decide) rfl) rfl rfl (c_X12_isCouncil (D := D) up_s ((up_n3 (by omega)).trans hW.1.2.1) hW.2.1 (by decide) (fun c ec hc => kt_s ?_) (fun z => kt_s ?_))
    · subst ec
      refine s_ifne (pc := 20) (tgt := 25) dX12_burden_20 rfl (fun h20 => ?_) (fun h20 => absurd h20 (by decide))
      refine s_aload_n (pc := 25) (i := 0) dX12_burden_25 rfl rfl ?_
      refine m_v0 (pc := 26) dX12_burden_26 lk_X12_310 ok_X12_take (rcO o_534 (by decide) rfl) rfl rfl (c_X12_take (kt_v ?_))
      have hM := tk_W hW
      have hK := tk_k (I := I)
      have h00 := tk_0 (I := I)
      obtain ⟨I1, e1⟩ : ∃ z, z = cpI (up I 534 0 0) 549 550 126 := ⟨_, rfl⟩
      rw [← e1] at hM hK h00 ⊢
      refine s_aload_n (pc := 29) (i := 0) dX12_burden_29 rfl rfl ?_
      refine s_iload_n (pc := 30) (i := 1) dX12_burden_30 rfl rfl ?_
      refine s_iload_n (pc := 31) (i := 2) dX12_burden_31 rfl rfl ?_
      refine m_v2 (pc := 32) dX12_burden_32 lk_X12_348 ok_X12_burdenBy (rcO o_534 (by decide) rfl) rfl rfl (c_X12_burdenBy hM hb hc (fun I2 f2 => kt_s ?_))
      refine s_ireturn (pc := 35) dX12_burden_35 rfl rfl ?_
      exact hg b c rfl hb rfl hc I2 (km_t hK (km_m f2)) ((fm_0 f2).trans h00)
    · refine s_ifne (pc := 20) (tgt := 25) dX12_burden_20 rfl (fun h20 => absurd h20 (by decide)) (fun h20 => ?_)
      refine m_ic (pc := 23) (v := 0) dX12_burden_23 rfl ?_
      refine s_ireturn (pc := 24) dX12_burden_24 rfl rfl ?_
      rw [thr_0]
      exact r1 ⟨b, rfl, Nat.zero_le _, hb⟩ z
  · refine s_ifeq (pc := 11) (tgt := 23) dX12_burden_11 rfl (fun h11 => ?_) (fun h11 => absurd h11 (by decide))
    refine m_ic (pc := 23) (v := 0) dX12_burden_23 rfl ?_
    refine s_ireturn (pc := 24) dX12_burden_24 rfl rfl ?_
    rw [thr_0]
    exact r0  z
def vBack (D : cD) (S : sD) (b q : Nat) : Int32 := if q = 0 then nI (cS D b) else if q = 1 then nI (cC D b) else if q = 2 then nI (sT S b) else if q = 3 then (if sF S b = true then 1 else 0) else if q = 4 then nI (bs (fun c => (sK S b c).isSome) 12) else if q = 5 then sW S b else if q = 6 then sB S b else nI (cS D b) - nI (sT S b)
theorem le8 {q : Nat} {P : Nat → Prop} (h : q < 8) (h0 : P 0) (h1 : P 1) (h2 : P 2) (h3 : P 3) (h4 : P 4) (h5 : P 5) (h6 : P 6) (h7 : P 7) : P q := by
  match q, h with
  | 0, _ => exact h0
  | 1, _ => exact h1
  | 2, _ => exact h2
  | 3, _ => exact h3
  | 4, _ => exact h4
  | 5, _ => exact h5
  | 6, _ => exact h6
  | 7, _ => exact h7
  | q + 8, h => omega
theorem c_X11_back (hW : Wc I 33 D cs S) (hn : n + 1 ≤ 600000 ∧ w + 6 ≤ 7000000) {x y : Int32} (r0 : ¬ iv 0 (cb D) x → Q (.inr 0) (Z (up I 1 17 (I 1 17 + 1)) J (n + 1) (w + 6))) (r1 : iv 0 (cb D) x → ¬ iv 0 (8) y → Q (.inr 1) (Z (up I 1 18 (I 1 18 + 1)) J (n + 1) (w + 6))) (hg : ∀ b, ∀ q, x = nI b → b < cb D → y = nI q → q < 8 → ∀ I', kc I I' → Q (.inl (some (.int (vBack D S b q)))) (Z I' J n w)) : Cn g (d + 8) mX11_back [.ref 1, .int x, .int y] (Z I J n w) Q := by
  have hb7 := hW.2.1.1
  have hc12 := hW.2.1.2.1
  show Rn g (d + 8) mX11_back 0 [.ref 1, .int x, .int y] [] [] (Z I J n w) Q
  refine s_aload_n (pc := 0) (i := 0) dX11_back_0 rfl rfl ?_
  refine s_iload_n (pc := 1) (i := 1) dX11_back_1 rfl rfl ?_
  refine m_v1 (pc := 2) dX11_back_2 lk_X11_214 ok_X11_needBack (rcO o_1 (by decide) rfl) rfl rfl (c_nb hW.1 hW.2.1 hn (fun b eb hb => kt_v ?_) (fun z => kt_x ?_))
  · subst eb
    refine s_aload_n (pc := 5) (i := 0) dX11_back_5 rfl rfl ?_
    refine s_iload_n (pc := 6) (i := 2) dX11_back_6 rfl rfl ?_
    refine m_bi (pc := 7) (v := 8) dX11_back_7 rfl ?_
    refine m_v2 (pc := 9) dX11_back_9 lk_X11_181 ok_X11_needWhat (rcO o_1 (by decide) rfl) rfl rfl (c_nw (m := 8) rfl (by decide) hn (fun q eq hq => kt_v ?_) (fun z => kt_x ?_))
    · subst eq
      rcases (show q = 0 ∨ q = 1 ∨ q = 2 ∨ q = 3 ∨ q = 4 ∨ q = 5 ∨ q = 6 ∨ q = 7 from by omega) with qe | qe | qe | qe | qe | qe | qe | qe
      · subst qe
        refine s_iload_n (pc := 12) (i := 2) dX11_back_12 rfl rfl ?_
        refine s_tabIn (pc := 13) (tgt := 56) dX11_back_13 (by decide) (by decide) rfl rfl ?_
        refine s_aload_n (pc := 56) (i := 0) dX11_back_56 rfl rfl ?_
        refine m_gr (pc := 57) dX11_back_57 ff_X11_19 rfl o_1 r_1_1 ?_
        refine m_gr (pc := 60) dX11_back_60 ff_X11_217 rfl o_4 r_4_0 ?_
        refine s_iload_n (pc := 63) (i := 1) dX11_back_63 rfl rfl ?_
        refine m_ia (pc := 64) dX11_back_64 a_5 (vp_in_nI (n := b) (by omega) (by decide)) ?_
        refine m_nm (v' := nI (cS D b)) (rdI (j := b) ((hW.1.2.2.2.1 b hb).1) (by omega)) ?_
        refine s_ireturn (pc := 65) dX11_back_65 rfl rfl ?_
        exact hg b 0 rfl hb rfl (by decide) I kc_r
      · subst qe
        refine s_iload_n (pc := 12) (i := 2) dX11_back_12 rfl rfl ?_
        refine s_tabIn (pc := 13) (tgt := 66) dX11_back_13 (by decide) (by decide) rfl rfl ?_
        refine s_aload_n (pc := 66) (i := 0) dX11_back_66 rfl rfl ?_
        refine m_gr (pc := 67) dX11_back_67 ff_X11_19 rfl o_1 r_1_1 ?_
        refine m_gr (pc := 70) dX11_back_70 ff_X11_221 rfl o_4 r_4_1 ?_
        refine s_iload_n (pc := 73) (i := 1) dX11_back_73 rfl rfl ?_
        refine m_ia (pc := 74) dX11_back_74 a_6 (vp_in_nI (n := b) (by omega) (by decide)) ?_
        refine m_nm (v' := nI (cC D b)) (rdI (j := b) ((hW.1.2.2.2.1 b hb).2) (by omega)) ?_
        refine s_ireturn (pc := 75) dX11_back_75 rfl rfl ?_
        exact hg b 1 rfl hb rfl (by decide) I kc_r
      · subst qe
        refine s_iload_n (pc := 12) (i := 2) dX11_back_12 rfl rfl ?_
        refine s_tabIn (pc := 13) (tgt := 76) dX11_back_13 (by decide) (by decide) rfl rfl ?_
        refine s_aload_n (pc := 76) (i := 0) dX11_back_76 rfl rfl ?_
        refine m_gr (pc := 77) dX11_back_77 ff_X11_73 rfl o_1 r_1_10 ?_
        refine m_gr (pc := 80) dX11_back_80 ff_X11_224 rfl o_33 r_33_0 ?_
        refine s_iload_n (pc := 83) (i := 1) dX11_back_83 rfl rfl ?_
        refine m_ia (pc := 84) dX11_back_84 a_34 (vp_in_nI (n := b) (by omega) (by decide)) ?_
        refine m_nm (v' := nI (sT S b)) (rdI (j := b) ((hW.2.2.2.2.1.1 b (by omega)).1) (by omega)) ?_
        refine s_ireturn (pc := 85) dX11_back_85 rfl rfl ?_
        exact hg b 2 rfl hb rfl (by decide) I kc_r
      · subst qe
        refine s_iload_n (pc := 12) (i := 2) dX11_back_12 rfl rfl ?_
        refine s_tabIn (pc := 13) (tgt := 86) dX11_back_13 (by decide) (by decide) rfl rfl ?_
        refine s_aload_n (pc := 86) (i := 0) dX11_back_86 rfl rfl ?_
        refine m_gr (pc := 87) dX11_back_87 ff_X11_73 rfl o_1 r_1_10 ?_
        refine s_iload_n (pc := 90) (i := 1) dX11_back_90 rfl rfl ?_
        refine m_v1 (pc := 91) dX11_back_91 lk_X11_227 ok_X9_hasFallen (rcO o_33 (by decide) rfl) rfl rfl (c_X9_hasFallen sO_33 hW.2.2.2.2.1 (by omega) (fun h => kt_s ?_) (fun h => kt_s ?_))
        · refine s_ifeq (pc := 94) (tgt := 101) dX11_back_94 rfl (fun h94 => absurd h94 (by decide)) (fun h94 => ?_)
          refine m_ic (pc := 97) (v := 1) dX11_back_97 rfl ?_
          refine s_goto (pc := 98) (tgt := 102) dX11_back_98 rfl ?_
          refine s_ireturn (pc := 102) dX11_back_102 rfl rfl ?_
          have E : vBack D S b 3 = 1 := by show (if sF S b = true then (1 : Int32) else 0) = 1; rw [if_pos h]
          rw [← E]
          exact hg b 3 rfl hb rfl (by decide) I kc_r
        · refine s_ifeq (pc := 94) (tgt := 101) dX11_back_94 rfl (fun h94 => ?_) (fun h94 => absurd h94 (by decide))
          refine m_ic (pc := 101) (v := 0) dX11_back_101 rfl ?_
          refine s_ireturn (pc := 102) dX11_back_102 rfl rfl ?_
          have E : vBack D S b 3 = 0 := by show (if sF S b = true then (1 : Int32) else 0) = 0; rw [if_neg (by rw [h]; decide)]
          rw [← E]
          exact hg b 3 rfl hb rfl (by decide) I kc_r
      · subst qe
        refine s_iload_n (pc := 12) (i := 2) dX11_back_12 rfl rfl ?_
        refine s_tabIn (pc := 13) (tgt := 103) dX11_back_13 (by decide) (by decide) rfl rfl ?_
        refine s_aload_n (pc := 103) (i := 0) dX11_back_103 rfl rfl ?_
        refine m_gr (pc := 104) dX11_back_104 ff_X11_73 rfl o_1 r_1_10 ?_
        refine m_gr (pc := 107) dX11_back_107 ff_X11_231 rfl o_33 r_33_3 ?_
        refine s_iload_n (pc := 110) (i := 1) dX11_back_110 rfl rfl ?_
        refine m_ia (pc := 111) dX11_back_111 a_37 (vp_in_nI (n := b) (by omega) (by decide)) ?_
        refine m_nm (v' := nI (bs (fun c => (sK S b c).isSome) 12)) (rdI (j := b) ((hW.2.2.2.2.1.1 b (by omega)).2.2.2) (by omega)) ?_
        refine s_ireturn (pc := 112) dX11_back_112 rfl rfl ?_
        exact hg b 4 rfl hb rfl (by decide) I kc_r
      · subst qe
        refine s_iload_n (pc := 12) (i := 2) dX11_back_12 rfl rfl ?_
        refine s_tabIn (pc := 13) (tgt := 113) dX11_back_13 (by decide) (by decide) rfl rfl ?_
        refine s_aload_n (pc := 113) (i := 0) dX11_back_113 rfl rfl ?_
        refine m_gr (pc := 114) dX11_back_114 ff_X11_73 rfl o_1 r_1_10 ?_
        refine m_gr (pc := 117) dX11_back_117 ff_X11_234 rfl o_33 r_33_1 ?_
        refine s_iload_n (pc := 120) (i := 1) dX11_back_120 rfl rfl ?_
        refine m_ia (pc := 121) dX11_back_121 a_35 (vp_in_nI (n := b) (by omega) (by decide)) ?_
        refine m_nm (v' := sW S b) (rdI (j := b) ((hW.2.2.2.2.1.1 b (by omega)).2.1) (by omega)) ?_
        refine s_ireturn (pc := 122) dX11_back_122 rfl rfl ?_
        exact hg b 5 rfl hb rfl (by decide) I kc_r
      · subst qe
        refine s_iload_n (pc := 12) (i := 2) dX11_back_12 rfl rfl ?_
        refine s_tabIn (pc := 13) (tgt := 123) dX11_back_13 (by decide) (by decide) rfl rfl ?_
        refine s_aload_n (pc := 123) (i := 0) dX11_back_123 rfl rfl ?_
        refine m_gr (pc := 124) dX11_back_124 ff_X11_73 rfl o_1 r_1_10 ?_
        refine m_gr (pc := 127) dX11_back_127 ff_X11_237 rfl o_33 r_33_2 ?_
        refine s_iload_n (pc := 130) (i := 1) dX11_back_130 rfl rfl ?_
        refine m_ia (pc := 131) dX11_back_131 a_36 (vp_in_nI (n := b) (by omega) (by decide)) ?_
        refine m_nm (v' := sB S b) (rdI (j := b) ((hW.2.2.2.2.1.1 b (by omega)).2.2.1) (by omega)) ?_
        refine s_ireturn (pc := 132) dX11_back_132 rfl rfl ?_
        exact hg b 6 rfl hb rfl (by decide) I kc_r
      · subst qe
        refine s_iload_n (pc := 12) (i := 2) dX11_back_12 rfl rfl ?_
        refine s_tabOut (pc := 13) (tgt := 133) dX11_back_13 (by decide) rfl ?_
        refine s_aload_n (pc := 133) (i := 0) dX11_back_133 rfl rfl ?_
        refine m_gr (pc := 134) dX11_back_134 ff_X11_19 rfl o_1 r_1_1 ?_
        refine m_gr (pc := 137) dX11_back_137 ff_X11_217 rfl o_4 r_4_0 ?_
        refine s_iload_n (pc := 140) (i := 1) dX11_back_140 rfl rfl ?_
        refine m_ia (pc := 141) dX11_back_141 a_5 (vp_in_nI (n := b) (by omega) (by decide)) ?_
        refine m_nm (v' := nI (cS D b)) (rdI (j := b) ((hW.1.2.2.2.1 b hb).1) (by omega)) ?_
        refine s_aload_n (pc := 142) (i := 0) dX11_back_142 rfl rfl ?_
        refine m_gr (pc := 143) dX11_back_143 ff_X11_73 rfl o_1 r_1_10 ?_
        refine m_gr (pc := 146) dX11_back_146 ff_X11_224 rfl o_33 r_33_0 ?_
        refine s_iload_n (pc := 149) (i := 1) dX11_back_149 rfl rfl ?_
        refine m_ia (pc := 150) dX11_back_150 a_34 (vp_in_nI (n := b) (by omega) (by decide)) ?_
        refine m_nm (v' := nI (sT S b)) (rdI (j := b) ((hW.2.2.2.2.1.1 b (by omega)).1) (by omega)) ?_
        refine s_isub (pc := 151) dX11_back_151 ?_
        refine s_ireturn (pc := 152) dX11_back_152 rfl rfl ?_
        exact hg b 7 rfl hb rfl (by decide) I kc_r
    · exact r1 ⟨b, rfl, Nat.zero_le _, hb⟩ z
  · exact r0  z
theorem c_X12_back (hW : Wn I D cs S) {x y : Int32} (r0 : ¬ iv 0 (cb D) x → Q (.inl (some (.int 0))) (Z (thr I 1 0) J n w)) (r1 : iv 0 (cb D) x → ¬ iv 0 (8) y → Q (.inl (some (.int 0))) (Z (thr I 2 1) J n w)) (hg : ∀ b, ∀ q, x = nI b → b < cb D → y = nI q → q < 8 → ∀ I', km I I' → I' 534 0 = 0 → Q (.inl (some (.int (vBack D S b q)))) (Z I' J n w)) : Cn g (d + 3) mX12_back [.ref 534, .int x, .int y] (Z I J n w) Q := by
  have hb7 := hW.2.1.1
  have hc12 := hW.2.1.2.1
  show Rn g (d + 3) mX12_back 0 [.ref 534, .int x, .int y] [] [] (Z I J n w) Q
  refine s_aload_n (pc := 0) (i := 0) dX12_back_0 rfl rfl ?_
  refine m_ic (pc := 1) (v := 0) dX12_back_1 rfl ?_
  refine m_pi (pc := 2) dX12_back_2 ff_X12_3 rfl rfl o_534 ?_
  refine s_aload_n (pc := 5) (i := 0) dX12_back_5 rfl rfl ?_
  refine s_iload_n (pc := 6) (i := 1) dX12_back_6 rfl rfl ?_
  refine m_ic (pc := 7) (v := 1) dX12_back_7 rfl ?_
  refine m_v2 (pc := 8) dX12_back_8 lk_X12_385 ok_X12_isBack (rcO o_534 (by decide) rfl) rfl rfl (c_X12_isBack (D := D) up_s ((up_n3 (by omega)).trans hW.1.1) hW.2.1 (by decide) (fun b eb hb => kt_s ?_) (fun z => kt_s ?_))
  · subst eb
    refine s_ifeq (pc := 11) (tgt := 30) dX12_back_11 rfl (fun h11 => absurd h11 (by decide)) (fun h11 => ?_)
    refine s_aload_n (pc := 14) (i := 0) dX12_back_14 rfl rfl ?_
    refine s_iload_n (pc := 15) (i := 2) dX12_back_15 rfl rfl ?_
    refine m_ic (pc := 16) (v := 0) dX12_back_16 rfl ?_
    refine m_bi (pc := 17) (v := 7) dX12_back_17 rfl ?_
    refine m_s3 (pc := 19) dX12_back_19 lk_X12_373 ok_X12_within rfl rfl (c_win (lo := 0) (m := 8) rfl rfl (by omega) (fun q eq lq hq => kt_s ?_) (fun z => kt_s ?_))
    · subst eq
      refine m_ic (pc := 22) (v := 2) dX12_back_22 rfl ?_
      refine m_ic (pc := 23) (v := 1) dX12_back_23 rfl ?_
      refine m_v3 (pc := 24) dX12_back_24 lk_X12_192 ok_X12_may (rcO o_534 (by decide) rfl) rfl rfl (c_may1 (k := 1) (by decide) rfl up_s (by decide) (kt_s ?_))
      · refine s_ifne (pc := 27) (tgt := 32) dX12_back_27 rfl (fun h27 => ?_) (fun h27 => absurd h27 (by decide))
        refine s_aload_n (pc := 32) (i := 0) dX12_back_32 rfl rfl ?_
        refine m_v0 (pc := 33) dX12_back_33 lk_X12_310 ok_X12_take (rcO o_534 (by decide) rfl) rfl rfl (c_X12_take (kt_v ?_))
        have hM := tk_W hW
        have hK := tk_k (I := I)
        have h00 := tk_0 (I := I)
        obtain ⟨I1, e1⟩ : ∃ z, z = cpI (up I 534 0 0) 549 550 126 := ⟨_, rfl⟩
        rw [← e1] at hM hK h00 ⊢
        rcases (show q = 0 ∨ q = 1 ∨ q = 2 ∨ q = 3 ∨ q = 4 ∨ q = 5 ∨ q = 6 ∨ q = 7 from by omega) with qe | qe | qe | qe | qe | qe | qe | qe
        · subst qe
          refine s_iload_n (pc := 36) (i := 2) dX12_back_36 rfl rfl ?_
          refine m_ic (pc := 37) (v := 2) dX12_back_37 rfl ?_
          refine s_icge (pc := 38) (tgt := 52) dX12_back_38 rfl (fun h38 => absurd h38 (by decide)) (fun h38 => ?_)
          refine s_aload_n (pc := 41) (i := 0) dX12_back_41 rfl rfl ?_
          refine m_gr (pc := 42) dX12_back_42 ff_X12_29 rfl o_534 r_534_12 ?_
          refine m_ic (pc := 45) (v := 2) dX12_back_45 rfl ?_
          refine s_iload_n (pc := 46) (i := 1) dX12_back_46 rfl rfl ?_
          refine s_imul (pc := 47) dX12_back_47 ?_
          refine m_nm (v' := nI (2 * b)) (pk_mul 2 b) ?_
          refine s_iload_n (pc := 48) (i := 2) dX12_back_48 rfl rfl ?_
          refine s_iadd (pc := 49) dX12_back_49 ?_
          refine m_nm (v' := nI (2 * b + 0)) (nI_add (2 * b) 0) ?_
          refine m_ia (pc := 50) dX12_back_50 a_539 (vp_in_nI (n := 2 * b + 0) (by omega) (by decide)) ?_
          refine m_nm (v' := nI (cS D b)) (rdI (j := 2 * b + 0) ((hM.1.2.2.2.1 b hb).1) (by omega)) ?_
          refine s_ireturn (pc := 51) dX12_back_51 rfl rfl ?_
          exact hg b 0 rfl hb rfl (by decide) I1 hK h00
        · subst qe
          refine s_iload_n (pc := 36) (i := 2) dX12_back_36 rfl rfl ?_
          refine m_ic (pc := 37) (v := 2) dX12_back_37 rfl ?_
          refine s_icge (pc := 38) (tgt := 52) dX12_back_38 rfl (fun h38 => absurd h38 (by decide)) (fun h38 => ?_)
          refine s_aload_n (pc := 41) (i := 0) dX12_back_41 rfl rfl ?_
          refine m_gr (pc := 42) dX12_back_42 ff_X12_29 rfl o_534 r_534_12 ?_
          refine m_ic (pc := 45) (v := 2) dX12_back_45 rfl ?_
          refine s_iload_n (pc := 46) (i := 1) dX12_back_46 rfl rfl ?_
          refine s_imul (pc := 47) dX12_back_47 ?_
          refine m_nm (v' := nI (2 * b)) (pk_mul 2 b) ?_
          refine s_iload_n (pc := 48) (i := 2) dX12_back_48 rfl rfl ?_
          refine s_iadd (pc := 49) dX12_back_49 ?_
          refine m_nm (v' := nI ((2 * b) + 1)) (nI_add (2 * b) 1) ?_
          refine m_ia (pc := 50) dX12_back_50 a_539 (vp_in_nI (n := (2 * b) + 1) (by omega) (by decide)) ?_
          refine m_nm (v' := nI (cC D b)) (rdI (j := (2 * b) + 1) ((hM.1.2.2.2.1 b hb).2) (by omega)) ?_
          refine s_ireturn (pc := 51) dX12_back_51 rfl rfl ?_
          exact hg b 1 rfl hb rfl (by decide) I1 hK h00
        · subst qe
          refine s_iload_n (pc := 36) (i := 2) dX12_back_36 rfl rfl ?_
          refine m_ic (pc := 37) (v := 2) dX12_back_37 rfl ?_
          refine s_icge (pc := 38) (tgt := 52) dX12_back_38 rfl (fun h38 => ?_) (fun h38 => absurd h38 (by decide))
          refine s_iload_n (pc := 52) (i := 2) dX12_back_52 rfl rfl ?_
          refine m_ic (pc := 53) (v := 4) dX12_back_53 rfl ?_
          refine s_iceq (pc := 54) (tgt := 63) dX12_back_54 rfl (fun h54 => absurd h54 (by decide)) (fun h54 => ?_)
          refine s_iload_n (pc := 57) (i := 2) dX12_back_57 rfl rfl ?_
          refine m_bi (pc := 58) (v := 7) dX12_back_58 rfl ?_
          refine s_icne (pc := 60) (tgt := 95) dX12_back_60 rfl (fun h60 => ?_) (fun h60 => absurd h60 (by decide))
          refine s_aload_n (pc := 95) (i := 0) dX12_back_95 rfl rfl ?_
          refine m_gr (pc := 96) dX12_back_96 ff_X12_62 rfl o_534 r_534_37 ?_
          refine s_iload_n (pc := 99) (i := 2) dX12_back_99 rfl rfl ?_
          refine m_ic (pc := 100) (v := 2) dX12_back_100 rfl ?_
          refine s_icne (pc := 101) (tgt := 109) dX12_back_101 rfl (fun h101 => absurd h101 (by decide)) (fun h101 => ?_)
          refine m_bi (pc := 104) (v := 84) dX12_back_104 rfl ?_
          refine s_goto (pc := 106) (tgt := 131) dX12_back_106 rfl ?_
          refine s_iload_n (pc := 131) (i := 1) dX12_back_131 rfl rfl ?_
          refine s_iadd (pc := 132) dX12_back_132 ?_
          refine m_nm (v' := nI (84 + b)) (nI_add 84 b) ?_
          refine m_ia (pc := 133) dX12_back_133 a_550 (vp_in_nI (n := 84 + b) (by omega) (by decide)) ?_
          refine m_nm (v' := nI (sT S b)) (rdI (j := 84 + b) ((hM.2.2.2.2.1.1 b (by omega)).1) (by omega)) ?_
          refine s_ireturn (pc := 134) dX12_back_134 rfl rfl ?_
          exact hg b 2 rfl hb rfl (by decide) I1 hK h00
        · subst qe
          refine s_iload_n (pc := 36) (i := 2) dX12_back_36 rfl rfl ?_
          refine m_ic (pc := 37) (v := 2) dX12_back_37 rfl ?_
          refine s_icge (pc := 38) (tgt := 52) dX12_back_38 rfl (fun h38 => ?_) (fun h38 => absurd h38 (by decide))
          refine s_iload_n (pc := 52) (i := 2) dX12_back_52 rfl rfl ?_
          refine m_ic (pc := 53) (v := 4) dX12_back_53 rfl ?_
          refine s_iceq (pc := 54) (tgt := 63) dX12_back_54 rfl (fun h54 => absurd h54 (by decide)) (fun h54 => ?_)
          refine s_iload_n (pc := 57) (i := 2) dX12_back_57 rfl rfl ?_
          refine m_bi (pc := 58) (v := 7) dX12_back_58 rfl ?_
          refine s_icne (pc := 60) (tgt := 95) dX12_back_60 rfl (fun h60 => ?_) (fun h60 => absurd h60 (by decide))
          refine s_aload_n (pc := 95) (i := 0) dX12_back_95 rfl rfl ?_
          refine m_gr (pc := 96) dX12_back_96 ff_X12_62 rfl o_534 r_534_37 ?_
          refine s_iload_n (pc := 99) (i := 2) dX12_back_99 rfl rfl ?_
          refine m_ic (pc := 100) (v := 2) dX12_back_100 rfl ?_
          refine s_icne (pc := 101) (tgt := 109) dX12_back_101 rfl (fun h101 => ?_) (fun h101 => absurd h101 (by decide))
          refine s_iload_n (pc := 109) (i := 2) dX12_back_109 rfl rfl ?_
          refine m_ic (pc := 110) (v := 3) dX12_back_110 rfl ?_
          refine s_icne (pc := 111) (tgt := 119) dX12_back_111 rfl (fun h111 => absurd h111 (by decide)) (fun h111 => ?_)
          refine m_bi (pc := 114) (v := 91) dX12_back_114 rfl ?_
          refine s_goto (pc := 116) (tgt := 131) dX12_back_116 rfl ?_
          refine s_iload_n (pc := 131) (i := 1) dX12_back_131 rfl rfl ?_
          refine s_iadd (pc := 132) dX12_back_132 ?_
          refine m_nm (v' := nI (91 + b)) (nI_add 91 b) ?_
          refine m_ia (pc := 133) dX12_back_133 a_550 (vp_in_nI (n := 91 + b) (by omega) (by decide)) ?_
          refine m_nm (v' := (if sF S b = true then 1 else 0)) (rdI (j := 91 + b) ((hM.2.2.2.2.1.1 b (by omega)).2.1) (by omega)) ?_
          refine s_ireturn (pc := 134) dX12_back_134 rfl rfl ?_
          exact hg b 3 rfl hb rfl (by decide) I1 hK h00
        · subst qe
          refine s_iload_n (pc := 36) (i := 2) dX12_back_36 rfl rfl ?_
          refine m_ic (pc := 37) (v := 2) dX12_back_37 rfl ?_
          refine s_icge (pc := 38) (tgt := 52) dX12_back_38 rfl (fun h38 => ?_) (fun h38 => absurd h38 (by decide))
          refine s_iload_n (pc := 52) (i := 2) dX12_back_52 rfl rfl ?_
          refine m_ic (pc := 53) (v := 4) dX12_back_53 rfl ?_
          refine s_iceq (pc := 54) (tgt := 63) dX12_back_54 rfl (fun h54 => ?_) (fun h54 => absurd h54 (by decide))
          refine s_iload_n (pc := 63) (i := 2) dX12_back_63 rfl rfl ?_
          refine m_ic (pc := 64) (v := 4) dX12_back_64 rfl ?_
          refine s_icne (pc := 65) (tgt := 76) dX12_back_65 rfl (fun h65 => absurd h65 (by decide)) (fun h65 => ?_)
          refine s_aload_n (pc := 68) (i := 0) dX12_back_68 rfl rfl ?_
          refine s_iload_n (pc := 69) (i := 1) dX12_back_69 rfl rfl ?_
          refine m_v1 (pc := 70) dX12_back_70 lk_X12_335 ok_X12_knownBy (rcO o_534 (by decide) rfl) rfl rfl (c_X12_knownBy hM hb (kt_s ?_))
          refine s_goto (pc := 73) (tgt := 94) dX12_back_73 rfl ?_
          refine s_ireturn (pc := 94) dX12_back_94 rfl rfl ?_
          exact hg b 4 rfl hb rfl (by decide) I1 hK h00
        · subst qe
          refine s_iload_n (pc := 36) (i := 2) dX12_back_36 rfl rfl ?_
          refine m_ic (pc := 37) (v := 2) dX12_back_37 rfl ?_
          refine s_icge (pc := 38) (tgt := 52) dX12_back_38 rfl (fun h38 => ?_) (fun h38 => absurd h38 (by decide))
          refine s_iload_n (pc := 52) (i := 2) dX12_back_52 rfl rfl ?_
          refine m_ic (pc := 53) (v := 4) dX12_back_53 rfl ?_
          refine s_iceq (pc := 54) (tgt := 63) dX12_back_54 rfl (fun h54 => absurd h54 (by decide)) (fun h54 => ?_)
          refine s_iload_n (pc := 57) (i := 2) dX12_back_57 rfl rfl ?_
          refine m_bi (pc := 58) (v := 7) dX12_back_58 rfl ?_
          refine s_icne (pc := 60) (tgt := 95) dX12_back_60 rfl (fun h60 => ?_) (fun h60 => absurd h60 (by decide))
          refine s_aload_n (pc := 95) (i := 0) dX12_back_95 rfl rfl ?_
          refine m_gr (pc := 96) dX12_back_96 ff_X12_62 rfl o_534 r_534_37 ?_
          refine s_iload_n (pc := 99) (i := 2) dX12_back_99 rfl rfl ?_
          refine m_ic (pc := 100) (v := 2) dX12_back_100 rfl ?_
          refine s_icne (pc := 101) (tgt := 109) dX12_back_101 rfl (fun h101 => ?_) (fun h101 => absurd h101 (by decide))
          refine s_iload_n (pc := 109) (i := 2) dX12_back_109 rfl rfl ?_
          refine m_ic (pc := 110) (v := 3) dX12_back_110 rfl ?_
          refine s_icne (pc := 111) (tgt := 119) dX12_back_111 rfl (fun h111 => ?_) (fun h111 => absurd h111 (by decide))
          refine s_iload_n (pc := 119) (i := 2) dX12_back_119 rfl rfl ?_
          refine m_ic (pc := 120) (v := 5) dX12_back_120 rfl ?_
          refine s_icne (pc := 121) (tgt := 129) dX12_back_121 rfl (fun h121 => absurd h121 (by decide)) (fun h121 => ?_)
          refine m_bi (pc := 124) (v := 98) dX12_back_124 rfl ?_
          refine s_goto (pc := 126) (tgt := 131) dX12_back_126 rfl ?_
          refine s_iload_n (pc := 131) (i := 1) dX12_back_131 rfl rfl ?_
          refine s_iadd (pc := 132) dX12_back_132 ?_
          refine m_nm (v' := nI (98 + b)) (nI_add 98 b) ?_
          refine m_ia (pc := 133) dX12_back_133 a_550 (vp_in_nI (n := 98 + b) (by omega) (by decide)) ?_
          refine m_nm (v' := sW S b) (rdI (j := 98 + b) ((hM.2.2.2.2.1.1 b (by omega)).2.2.1) (by omega)) ?_
          refine s_ireturn (pc := 134) dX12_back_134 rfl rfl ?_
          exact hg b 5 rfl hb rfl (by decide) I1 hK h00
        · subst qe
          refine s_iload_n (pc := 36) (i := 2) dX12_back_36 rfl rfl ?_
          refine m_ic (pc := 37) (v := 2) dX12_back_37 rfl ?_
          refine s_icge (pc := 38) (tgt := 52) dX12_back_38 rfl (fun h38 => ?_) (fun h38 => absurd h38 (by decide))
          refine s_iload_n (pc := 52) (i := 2) dX12_back_52 rfl rfl ?_
          refine m_ic (pc := 53) (v := 4) dX12_back_53 rfl ?_
          refine s_iceq (pc := 54) (tgt := 63) dX12_back_54 rfl (fun h54 => absurd h54 (by decide)) (fun h54 => ?_)
          refine s_iload_n (pc := 57) (i := 2) dX12_back_57 rfl rfl ?_
          refine m_bi (pc := 58) (v := 7) dX12_back_58 rfl ?_
          refine s_icne (pc := 60) (tgt := 95) dX12_back_60 rfl (fun h60 => ?_) (fun h60 => absurd h60 (by decide))
          refine s_aload_n (pc := 95) (i := 0) dX12_back_95 rfl rfl ?_
          refine m_gr (pc := 96) dX12_back_96 ff_X12_62 rfl o_534 r_534_37 ?_
          refine s_iload_n (pc := 99) (i := 2) dX12_back_99 rfl rfl ?_
          refine m_ic (pc := 100) (v := 2) dX12_back_100 rfl ?_
          refine s_icne (pc := 101) (tgt := 109) dX12_back_101 rfl (fun h101 => ?_) (fun h101 => absurd h101 (by decide))
          refine s_iload_n (pc := 109) (i := 2) dX12_back_109 rfl rfl ?_
          refine m_ic (pc := 110) (v := 3) dX12_back_110 rfl ?_
          refine s_icne (pc := 111) (tgt := 119) dX12_back_111 rfl (fun h111 => ?_) (fun h111 => absurd h111 (by decide))
          refine s_iload_n (pc := 119) (i := 2) dX12_back_119 rfl rfl ?_
          refine m_ic (pc := 120) (v := 5) dX12_back_120 rfl ?_
          refine s_icne (pc := 121) (tgt := 129) dX12_back_121 rfl (fun h121 => ?_) (fun h121 => absurd h121 (by decide))
          refine m_bi (pc := 129) (v := 105) dX12_back_129 rfl ?_
          refine s_iload_n (pc := 131) (i := 1) dX12_back_131 rfl rfl ?_
          refine s_iadd (pc := 132) dX12_back_132 ?_
          refine m_nm (v' := nI (105 + b)) (nI_add 105 b) ?_
          refine m_ia (pc := 133) dX12_back_133 a_550 (vp_in_nI (n := 105 + b) (by omega) (by decide)) ?_
          refine m_nm (v' := sB S b) (rdI (j := 105 + b) ((hM.2.2.2.2.1.1 b (by omega)).2.2.2) (by omega)) ?_
          refine s_ireturn (pc := 134) dX12_back_134 rfl rfl ?_
          exact hg b 6 rfl hb rfl (by decide) I1 hK h00
        · subst qe
          refine s_iload_n (pc := 36) (i := 2) dX12_back_36 rfl rfl ?_
          refine m_ic (pc := 37) (v := 2) dX12_back_37 rfl ?_
          refine s_icge (pc := 38) (tgt := 52) dX12_back_38 rfl (fun h38 => ?_) (fun h38 => absurd h38 (by decide))
          refine s_iload_n (pc := 52) (i := 2) dX12_back_52 rfl rfl ?_
          refine m_ic (pc := 53) (v := 4) dX12_back_53 rfl ?_
          refine s_iceq (pc := 54) (tgt := 63) dX12_back_54 rfl (fun h54 => absurd h54 (by decide)) (fun h54 => ?_)
          refine s_iload_n (pc := 57) (i := 2) dX12_back_57 rfl rfl ?_
          refine m_bi (pc := 58) (v := 7) dX12_back_58 rfl ?_
          refine s_icne (pc := 60) (tgt := 95) dX12_back_60 rfl (fun h60 => absurd h60 (by decide)) (fun h60 => ?_)
          refine s_iload_n (pc := 63) (i := 2) dX12_back_63 rfl rfl ?_
          refine m_ic (pc := 64) (v := 4) dX12_back_64 rfl ?_
          refine s_icne (pc := 65) (tgt := 76) dX12_back_65 rfl (fun h65 => ?_) (fun h65 => absurd h65 (by decide))
          refine s_aload_n (pc := 76) (i := 0) dX12_back_76 rfl rfl ?_
          refine m_gr (pc := 77) dX12_back_77 ff_X12_29 rfl o_534 r_534_12 ?_
          refine m_ic (pc := 80) (v := 2) dX12_back_80 rfl ?_
          refine s_iload_n (pc := 81) (i := 1) dX12_back_81 rfl rfl ?_
          refine s_imul (pc := 82) dX12_back_82 ?_
          refine m_nm (v' := nI (2 * b)) (pk_mul 2 b) ?_
          refine m_ia (pc := 83) dX12_back_83 a_539 (vp_in_nI (n := 2 * b) (by omega) (by decide)) ?_
          refine m_nm (v' := nI (cS D b)) (rdI (j := 2 * b) ((hM.1.2.2.2.1 b hb).1) (by omega)) ?_
          refine s_aload_n (pc := 84) (i := 0) dX12_back_84 rfl rfl ?_
          refine m_gr (pc := 85) dX12_back_85 ff_X12_62 rfl o_534 r_534_37 ?_
          refine m_bi (pc := 88) (v := 84) dX12_back_88 rfl ?_
          refine s_iload_n (pc := 90) (i := 1) dX12_back_90 rfl rfl ?_
          refine s_iadd (pc := 91) dX12_back_91 ?_
          refine m_nm (v' := nI (84 + b)) (nI_add 84 b) ?_
          refine m_ia (pc := 92) dX12_back_92 a_550 (vp_in_nI (n := 84 + b) (by omega) (by decide)) ?_
          refine m_nm (v' := nI (sT S b)) (rdI (j := 84 + b) ((hM.2.2.2.2.1.1 b (by omega)).1) (by omega)) ?_
          refine s_isub (pc := 93) dX12_back_93 ?_
          refine s_ireturn (pc := 94) dX12_back_94 rfl rfl ?_
          exact hg b 7 rfl hb rfl (by decide) I1 hK h00
    · refine m_ic (pc := 22) (v := 2) dX12_back_22 rfl ?_
      refine m_ic (pc := 23) (v := 1) dX12_back_23 rfl ?_
      refine m_v3 (pc := 24) dX12_back_24 lk_X12_192 ok_X12_may (rcO o_534 (by decide) rfl) rfl rfl (c_may0 (k := 1) (by decide) rfl up_s (by decide) (kt_s ?_))
      · refine s_ifne (pc := 27) (tgt := 32) dX12_back_27 rfl (fun h27 => absurd h27 (by decide)) (fun h27 => ?_)
        refine m_ic (pc := 30) (v := 0) dX12_back_30 rfl ?_
        refine s_ireturn (pc := 31) dX12_back_31 rfl rfl ?_
        rw [thr_0]
        exact r1 ⟨b, rfl, Nat.zero_le _, hb⟩ z
  · refine s_ifeq (pc := 11) (tgt := 30) dX12_back_11 rfl (fun h11 => ?_) (fun h11 => absurd h11 (by decide))
    refine m_ic (pc := 30) (v := 0) dX12_back_30 rfl ?_
    refine s_ireturn (pc := 31) dX12_back_31 rfl rfl ?_
    rw [thr_0]
    exact r0  z
def bitw (f : Nat → Int32) (c i : Nat) : Int32 := ((f i >>> (nI c &&& 31)) &&& 1) <<< (nI i &&& 31)
def vCoun (D : cD) (S : sD) (c q : Nat) : Int32 := if q = 0 then nI (cH D c) else if q = 1 then nI (cL D c) else if q = 2 then sN S c else if q = 3 then oI (bitw (fun b => nI (bs (fun c => (sK S b c).isSome) 12)) c) (cb D) else oI (bitw (sB S) c) (cb D)
theorem bw_lp {a c : Nat} {F0 : Nat → Int32} (ha : isA 64 7 a) (hD : Co I 4 D) (hk : cOk D) (hf : ∀ b, b < 7 → I a b = F0 b) (hq : Q (.inl (some (.int (oI (bitw F0 c) (cb D))))) (Z I J n w)) : ∀ f i, i + f = cb D → Rn g (d + 0) mX11_backsWithBit 5 [.ref 1, .ref a, .int (nI c), .int (oI (bitw F0 c) i), .int (nI i)] [] [] (Z I J n w) Q := by
  intro f
  induction f with
  | zero =>
    intro i hi
    have e : i = cb D := by omega
    subst e
    have hb7 := hk.1
    refine s_iload (pc := 5) (i := 4) dX11_backsWithBit_5 rfl ?_
    refine s_aload_n (pc := 7) (i := 0) dX11_backsWithBit_7 rfl rfl ?_
    refine m_gr (pc := 8) dX11_backsWithBit_8 ff_X11_19 rfl o_1 r_1_1 ?_
    refine m_gi (pc := 11) dX11_backsWithBit_11 ff_X11_143 rfl o_4 ?_
    refine m_nm (v' := nI (cb D)) (hD.1) ?_
    refine s_icge (pc := 14) (tgt := 37) dX11_backsWithBit_14 rfl (fun h14 => ?_) (fun h14 => absurd (nI_le (a := cb D) (b := (cb D)) (by omega) (by omega)) h14)
    refine s_iload_n (pc := 37) (i := 3) dX11_backsWithBit_37 rfl rfl ?_
    refine s_ireturn (pc := 38) dX11_backsWithBit_38 rfl rfl ?_
    exact hq
  | succ f ih =>
    intro i hi
    have hb7 := hk.1
    refine s_iload (pc := 5) (i := 4) dX11_backsWithBit_5 rfl ?_
    refine s_aload_n (pc := 7) (i := 0) dX11_backsWithBit_7 rfl rfl ?_
    refine m_gr (pc := 8) dX11_backsWithBit_8 ff_X11_19 rfl o_1 r_1_1 ?_
    refine m_gi (pc := 11) dX11_backsWithBit_11 ff_X11_143 rfl o_4 ?_
    refine m_nm (v' := nI (cb D)) (hD.1) ?_
    refine s_icge (pc := 14) (tgt := 37) dX11_backsWithBit_14 rfl (fun h14 => absurd h14 (nI_ge (a := i) (b := cb D) (by omega) (by omega))) (fun h14 => ?_)
    refine s_iload_n (pc := 17) (i := 3) dX11_backsWithBit_17 rfl rfl ?_
    refine s_aload_n (pc := 18) (i := 1) dX11_backsWithBit_18 rfl rfl ?_
    refine s_iload (pc := 19) (i := 4) dX11_backsWithBit_19 rfl ?_
    refine m_ia (pc := 21) dX11_backsWithBit_21 ha (vp_in_nI (n := i) (by omega) (by decide)) ?_
    refine m_nm (v' := F0 i) (rdI (j := i) (hf i (by omega)) (by omega)) ?_
    refine s_iload_n (pc := 22) (i := 2) dX11_backsWithBit_22 rfl rfl ?_
    refine s_ishr (pc := 23) dX11_backsWithBit_23 ?_
    refine m_ic (pc := 24) (v := 1) dX11_backsWithBit_24 rfl ?_
    refine s_iand (pc := 25) dX11_backsWithBit_25 ?_
    refine s_iload (pc := 26) (i := 4) dX11_backsWithBit_26 rfl ?_
    refine s_ishl (pc := 28) dX11_backsWithBit_28 ?_
    refine s_ior (pc := 29) dX11_backsWithBit_29 ?_
    refine s_istore_n (pc := 30) (i := 3) dX11_backsWithBit_30 rfl (Nat.le_of_ble_eq_true rfl) ?_
    dsimp only [List.set, List.filter]
    refine m_inc (pc := 31) (v := 1) dX11_backsWithBit_31 rfl rfl ?_
    dsimp only [List.set, List.filter]
    rw [nI_1]
    refine s_goto (pc := 34) (tgt := 5) dX11_backsWithBit_34 rfl ?_
    exact ih (i + 1)  (by omega)
theorem c_X11_backsWithBit {a c : Nat} {f : Nat → Int32} (ha : isA 64 7 a) (hD : Co I 4 D) (hk : cOk D) (hf : ∀ b, b < 7 → I a b = f b) (hq : Q (.inl (some (.int (oI (bitw f c) (cb D))))) (Z I J n w)) : Cn g (d + 0) mX11_backsWithBit [.ref 1, .ref a, .int (nI c)] (Z I J n w) Q := by
  show Rn g (d + 0) mX11_backsWithBit 0 [.ref 1, .ref a, .int (nI c), .retAddr 0, .retAddr 0] [] [] (Z I J n w) Q
  refine m_ic (pc := 0) (v := 0) dX11_backsWithBit_0 rfl ?_
  refine s_istore_n (pc := 1) (i := 3) dX11_backsWithBit_1 rfl (Nat.le_of_ble_eq_true rfl) ?_
  dsimp only [List.set, List.filter]
  refine m_ic (pc := 2) (v := 0) dX11_backsWithBit_2 rfl ?_
  refine s_istore (pc := 3) (i := 4) dX11_backsWithBit_3 (Nat.le_of_ble_eq_true rfl) ?_
  dsimp only [List.set, List.filter]
  exact bw_lp ha hD hk hf hq (cb D) 0 (by omega)
theorem c_X11_council (hW : Wc I 33 D cs S) (hn : n + 1 ≤ 600000 ∧ w + 6 ≤ 7000000) {x y : Int32} (r0 : ¬ iv 0 (cc D) x → Q (.inr 0) (Z (up I 1 17 (I 1 17 + 1)) J (n + 1) (w + 6))) (r1 : iv 0 (cc D) x → ¬ iv 0 (5) y → Q (.inr 1) (Z (up I 1 18 (I 1 18 + 1)) J (n + 1) (w + 6))) (hg : ∀ c, ∀ q, x = nI c → c < cc D → y = nI q → q < 5 → ∀ I', kc I I' → Q (.inl (some (.int (vCoun D S c q)))) (Z I' J n w)) : Cn g (d + 8) mX11_council [.ref 1, .int x, .int y] (Z I J n w) Q := by
  have hb7 := hW.2.1.1
  have hc12 := hW.2.1.2.1
  show Rn g (d + 8) mX11_council 0 [.ref 1, .int x, .int y] [] [] (Z I J n w) Q
  refine s_aload_n (pc := 0) (i := 0) dX11_council_0 rfl rfl ?_
  refine s_iload_n (pc := 1) (i := 1) dX11_council_1 rfl rfl ?_
  refine m_v1 (pc := 2) dX11_council_2 lk_X11_240 ok_X11_needCouncil (rcO o_1 (by decide) rfl) rfl rfl (c_nk hW.1 hW.2.1 hn (fun c ec hc => kt_v ?_) (fun z => kt_x ?_))
  · subst ec
    refine s_aload_n (pc := 5) (i := 0) dX11_council_5 rfl rfl ?_
    refine s_iload_n (pc := 6) (i := 2) dX11_council_6 rfl rfl ?_
    refine m_ic (pc := 7) (v := 5) dX11_council_7 rfl ?_
    refine m_v2 (pc := 8) dX11_council_8 lk_X11_181 ok_X11_needWhat (rcO o_1 (by decide) rfl) rfl rfl (c_nw (m := 5) rfl (by decide) hn (fun q eq hq => kt_v ?_) (fun z => kt_x ?_))
    · subst eq
      rcases (show q = 0 ∨ q = 1 ∨ q = 2 ∨ q = 3 ∨ q = 4 from by omega) with qe | qe | qe | qe | qe
      · subst qe
        refine s_iload_n (pc := 11) (i := 2) dX11_council_11 rfl rfl ?_
        refine s_tabIn (pc := 12) (tgt := 44) dX11_council_12 (by decide) (by decide) rfl rfl ?_
        refine s_aload_n (pc := 44) (i := 0) dX11_council_44 rfl rfl ?_
        refine m_gr (pc := 45) dX11_council_45 ff_X11_19 rfl o_1 r_1_1 ?_
        refine m_gr (pc := 48) dX11_council_48 ff_X11_243 rfl o_4 r_4_2 ?_
        refine s_iload_n (pc := 51) (i := 1) dX11_council_51 rfl rfl ?_
        refine m_ia (pc := 52) dX11_council_52 a_7 (vp_in_nI (n := c) (by omega) (by decide)) ?_
        refine m_nm (v' := nI (cH D c)) (rdI (j := c) ((hW.1.2.2.2.2 c hc).1) (by omega)) ?_
        refine s_ireturn (pc := 53) dX11_council_53 rfl rfl ?_
        exact hg c 0 rfl hc rfl (by decide) I kc_r
      · subst qe
        refine s_iload_n (pc := 11) (i := 2) dX11_council_11 rfl rfl ?_
        refine s_tabIn (pc := 12) (tgt := 54) dX11_council_12 (by decide) (by decide) rfl rfl ?_
        refine s_aload_n (pc := 54) (i := 0) dX11_council_54 rfl rfl ?_
        refine m_gr (pc := 55) dX11_council_55 ff_X11_19 rfl o_1 r_1_1 ?_
        refine m_gr (pc := 58) dX11_council_58 ff_X11_246 rfl o_4 r_4_3 ?_
        refine s_iload_n (pc := 61) (i := 1) dX11_council_61 rfl rfl ?_
        refine m_ia (pc := 62) dX11_council_62 a_8 (vp_in_nI (n := c) (by omega) (by decide)) ?_
        refine m_nm (v' := nI (cL D c)) (rdI (j := c) ((hW.1.2.2.2.2 c hc).2) (by omega)) ?_
        refine s_ireturn (pc := 63) dX11_council_63 rfl rfl ?_
        exact hg c 1 rfl hc rfl (by decide) I kc_r
      · subst qe
        refine s_iload_n (pc := 11) (i := 2) dX11_council_11 rfl rfl ?_
        refine s_tabIn (pc := 12) (tgt := 64) dX11_council_12 (by decide) (by decide) rfl rfl ?_
        refine s_aload_n (pc := 64) (i := 0) dX11_council_64 rfl rfl ?_
        refine m_gr (pc := 65) dX11_council_65 ff_X11_73 rfl o_1 r_1_10 ?_
        refine m_gr (pc := 68) dX11_council_68 ff_X11_249 rfl o_33 r_33_5 ?_
        refine s_iload_n (pc := 71) (i := 1) dX11_council_71 rfl rfl ?_
        refine m_ia (pc := 72) dX11_council_72 a_39 (vp_in_nI (n := c) (by omega) (by decide)) ?_
        refine m_nm (v' := sN S c) (rdI (j := c) (hW.2.2.2.2.1.2.2.1 c (by omega)) (by omega)) ?_
        refine s_ireturn (pc := 73) dX11_council_73 rfl rfl ?_
        exact hg c 2 rfl hc rfl (by decide) I kc_r
      · subst qe
        refine s_iload_n (pc := 11) (i := 2) dX11_council_11 rfl rfl ?_
        refine s_tabIn (pc := 12) (tgt := 74) dX11_council_12 (by decide) (by decide) rfl rfl ?_
        refine s_aload_n (pc := 74) (i := 0) dX11_council_74 rfl rfl ?_
        refine s_aload_n (pc := 75) (i := 0) dX11_council_75 rfl rfl ?_
        refine m_gr (pc := 76) dX11_council_76 ff_X11_73 rfl o_1 r_1_10 ?_
        refine m_gr (pc := 79) dX11_council_79 ff_X11_231 rfl o_33 r_33_3 ?_
        refine s_iload_n (pc := 82) (i := 1) dX11_council_82 rfl rfl ?_
        refine m_v2 (pc := 83) dX11_council_83 lk_X11_252 ok_X11_backsWithBit (rcO o_1 (by decide) rfl) rfl rfl (c_X11_backsWithBit sO_33.2.2.2.2.1.2 hW.1 hW.2.1 (fun b hb => (hW.2.2.2.2.1.1 b hb).2.2.2) (kt_s ?_))
        refine s_ireturn (pc := 86) dX11_council_86 rfl rfl ?_
        exact hg c 3 rfl hc rfl (by decide) I kc_r
      · subst qe
        refine s_iload_n (pc := 11) (i := 2) dX11_council_11 rfl rfl ?_
        refine s_tabOut (pc := 12) (tgt := 87) dX11_council_12 (by decide) rfl ?_
        refine s_aload_n (pc := 87) (i := 0) dX11_council_87 rfl rfl ?_
        refine s_aload_n (pc := 88) (i := 0) dX11_council_88 rfl rfl ?_
        refine m_gr (pc := 89) dX11_council_89 ff_X11_73 rfl o_1 r_1_10 ?_
        refine m_gr (pc := 92) dX11_council_92 ff_X11_237 rfl o_33 r_33_2 ?_
        refine s_iload_n (pc := 95) (i := 1) dX11_council_95 rfl rfl ?_
        refine m_v2 (pc := 96) dX11_council_96 lk_X11_252 ok_X11_backsWithBit (rcO o_1 (by decide) rfl) rfl rfl (c_X11_backsWithBit sO_33.2.2.2.1.2 hW.1 hW.2.1 (fun b hb => (hW.2.2.2.2.1.1 b hb).2.2.1) (kt_s ?_))
        refine s_ireturn (pc := 99) dX11_council_99 rfl rfl ?_
        exact hg c 4 rfl hc rfl (by decide) I kc_r
    · exact r1 ⟨c, rfl, Nat.zero_le _, hc⟩ z
  · exact r0  z
theorem mc3_lp {c : Nat} (hM : Wm I D cs S) (hq : Q (.inl (some (.int (oI (bitw (fun b => nI (bs (fun c => (sK S b c).isSome) 12)) c) (cb D))))) (Z I J n w)) : ∀ f i, i + f = cb D → Rn g (d + 2) mX12_council 73 [.ref 534, .int (nI c), .int (nI 3), .int (oI (bitw (fun b => nI (bs (fun c => (sK S b c).isSome) 12)) c) i), .int (nI i)] [] [] (Z I J n w) Q := by
  intro f
  induction f with
  | zero =>
    intro i hi
    have e : i = cb D := by omega
    subst e
    have hb7 := hM.2.1.1
    refine s_iload (pc := 73) (i := 4) dX12_council_73 rfl ?_
    refine s_aload_n (pc := 75) (i := 0) dX12_council_75 rfl rfl ?_
    refine m_gi (pc := 76) dX12_council_76 ff_X12_154 rfl o_534 ?_
    refine m_nm (v' := nI (cb D)) (hM.1.1) ?_
    refine s_icge (pc := 79) (tgt := 122) dX12_council_79 rfl (fun h79 => ?_) (fun h79 => absurd (nI_le (a := cb D) (b := (cb D)) (by omega) (by omega)) h79)
    refine s_iload_n (pc := 122) (i := 3) dX12_council_122 rfl rfl ?_
    refine s_ireturn (pc := 123) dX12_council_123 rfl rfl ?_
    exact hq
  | succ f ih =>
    intro i hi
    have hb7 := hM.2.1.1
    refine s_iload (pc := 73) (i := 4) dX12_council_73 rfl ?_
    refine s_aload_n (pc := 75) (i := 0) dX12_council_75 rfl rfl ?_
    refine m_gi (pc := 76) dX12_council_76 ff_X12_154 rfl o_534 ?_
    refine m_nm (v' := nI (cb D)) (hM.1.1) ?_
    refine s_icge (pc := 79) (tgt := 122) dX12_council_79 rfl (fun h79 => absurd h79 (nI_ge (a := i) (b := cb D) (by omega) (by omega))) (fun h79 => ?_)
    refine s_iload_n (pc := 82) (i := 3) dX12_council_82 rfl rfl ?_
    refine s_iload_n (pc := 83) (i := 2) dX12_council_83 rfl rfl ?_
    refine m_ic (pc := 84) (v := 3) dX12_council_84 rfl ?_
    refine s_icne (pc := 85) (tgt := 97) dX12_council_85 rfl (fun h85 => absurd h85 (by decide)) (fun h85 => ?_)
    refine s_aload_n (pc := 88) (i := 0) dX12_council_88 rfl rfl ?_
    refine s_iload (pc := 89) (i := 4) dX12_council_89 rfl ?_
    refine m_v1 (pc := 91) dX12_council_91 lk_X12_335 ok_X12_knownBy (rcO o_534 (by decide) rfl) rfl rfl (c_X12_knownBy hM (by omega) (kt_s ?_))
    refine s_goto (pc := 94) (tgt := 107) dX12_council_94 rfl ?_
    refine s_iload_n (pc := 107) (i := 1) dX12_council_107 rfl rfl ?_
    refine s_ishr (pc := 108) dX12_council_108 ?_
    refine m_ic (pc := 109) (v := 1) dX12_council_109 rfl ?_
    refine s_iand (pc := 110) dX12_council_110 ?_
    refine s_iload (pc := 111) (i := 4) dX12_council_111 rfl ?_
    refine s_ishl (pc := 113) dX12_council_113 ?_
    refine s_ior (pc := 114) dX12_council_114 ?_
    refine s_istore_n (pc := 115) (i := 3) dX12_council_115 rfl (Nat.le_of_ble_eq_true rfl) ?_
    dsimp only [List.set, List.filter]
    refine m_inc (pc := 116) (v := 1) dX12_council_116 rfl rfl ?_
    dsimp only [List.set, List.filter]
    rw [nI_1]
    refine s_goto (pc := 119) (tgt := 73) dX12_council_119 rfl ?_
    exact ih (i + 1)  (by omega)
theorem mc4_lp {c : Nat} (hM : Wm I D cs S) (hq : Q (.inl (some (.int (oI (bitw (sB S) c) (cb D))))) (Z I J n w)) : ∀ f i, i + f = cb D → Rn g (d + 2) mX12_council 73 [.ref 534, .int (nI c), .int (nI 4), .int (oI (bitw (sB S) c) i), .int (nI i)] [] [] (Z I J n w) Q := by
  intro f
  induction f with
  | zero =>
    intro i hi
    have e : i = cb D := by omega
    subst e
    have hb7 := hM.2.1.1
    refine s_iload (pc := 73) (i := 4) dX12_council_73 rfl ?_
    refine s_aload_n (pc := 75) (i := 0) dX12_council_75 rfl rfl ?_
    refine m_gi (pc := 76) dX12_council_76 ff_X12_154 rfl o_534 ?_
    refine m_nm (v' := nI (cb D)) (hM.1.1) ?_
    refine s_icge (pc := 79) (tgt := 122) dX12_council_79 rfl (fun h79 => ?_) (fun h79 => absurd (nI_le (a := cb D) (b := (cb D)) (by omega) (by omega)) h79)
    refine s_iload_n (pc := 122) (i := 3) dX12_council_122 rfl rfl ?_
    refine s_ireturn (pc := 123) dX12_council_123 rfl rfl ?_
    exact hq
  | succ f ih =>
    intro i hi
    have hb7 := hM.2.1.1
    refine s_iload (pc := 73) (i := 4) dX12_council_73 rfl ?_
    refine s_aload_n (pc := 75) (i := 0) dX12_council_75 rfl rfl ?_
    refine m_gi (pc := 76) dX12_council_76 ff_X12_154 rfl o_534 ?_
    refine m_nm (v' := nI (cb D)) (hM.1.1) ?_
    refine s_icge (pc := 79) (tgt := 122) dX12_council_79 rfl (fun h79 => absurd h79 (nI_ge (a := i) (b := cb D) (by omega) (by omega))) (fun h79 => ?_)
    refine s_iload_n (pc := 82) (i := 3) dX12_council_82 rfl rfl ?_
    refine s_iload_n (pc := 83) (i := 2) dX12_council_83 rfl rfl ?_
    refine m_ic (pc := 84) (v := 3) dX12_council_84 rfl ?_
    refine s_icne (pc := 85) (tgt := 97) dX12_council_85 rfl (fun h85 => ?_) (fun h85 => absurd h85 (by decide))
    refine s_aload_n (pc := 97) (i := 0) dX12_council_97 rfl rfl ?_
    refine m_gr (pc := 98) dX12_council_98 ff_X12_62 rfl o_534 r_534_37 ?_
    refine m_bi (pc := 101) (v := 105) dX12_council_101 rfl ?_
    refine s_iload (pc := 103) (i := 4) dX12_council_103 rfl ?_
    refine s_iadd (pc := 105) dX12_council_105 ?_
    refine m_nm (v' := nI (105 + i)) (nI_add 105 i) ?_
    refine m_ia (pc := 106) dX12_council_106 a_550 (vp_in_nI (n := 105 + i) (by omega) (by decide)) ?_
    refine m_nm (v' := sB S i) (rdI (j := 105 + i) ((hM.2.2.2.2.1.1 i (by omega)).2.2.2) (by omega)) ?_
    refine s_iload_n (pc := 107) (i := 1) dX12_council_107 rfl rfl ?_
    refine s_ishr (pc := 108) dX12_council_108 ?_
    refine m_ic (pc := 109) (v := 1) dX12_council_109 rfl ?_
    refine s_iand (pc := 110) dX12_council_110 ?_
    refine s_iload (pc := 111) (i := 4) dX12_council_111 rfl ?_
    refine s_ishl (pc := 113) dX12_council_113 ?_
    refine s_ior (pc := 114) dX12_council_114 ?_
    refine s_istore_n (pc := 115) (i := 3) dX12_council_115 rfl (Nat.le_of_ble_eq_true rfl) ?_
    dsimp only [List.set, List.filter]
    refine m_inc (pc := 116) (v := 1) dX12_council_116 rfl rfl ?_
    dsimp only [List.set, List.filter]
    rw [nI_1]
    refine s_goto (pc := 119) (tgt := 73) dX12_council_119 rfl ?_
    exact ih (i + 1)  (by omega)
theorem c_X12_council (hW : Wn I D cs S) {x y : Int32} (r0 : ¬ iv 0 (cc D) x → Q (.inl (some (.int 0))) (Z (thr I 1 0) J n w)) (r1 : iv 0 (cc D) x → ¬ iv 0 (5) y → Q (.inl (some (.int 0))) (Z (thr I 2 1) J n w)) (hg : ∀ c, ∀ q, x = nI c → c < cc D → y = nI q → q < 5 → ∀ I', km I I' → I' 534 0 = 0 → Q (.inl (some (.int (vCoun D S c q)))) (Z I' J n w)) : Cn g (d + 3) mX12_council [.ref 534, .int x, .int y] (Z I J n w) Q := by
  have hb7 := hW.2.1.1
  have hc12 := hW.2.1.2.1
  show Rn g (d + 3) mX12_council 0 [.ref 534, .int x, .int y, .retAddr 0, .retAddr 0] [] [] (Z I J n w) Q
  refine s_aload_n (pc := 0) (i := 0) dX12_council_0 rfl rfl ?_
  refine m_ic (pc := 1) (v := 0) dX12_council_1 rfl ?_
  refine m_pi (pc := 2) dX12_council_2 ff_X12_3 rfl rfl o_534 ?_
  refine s_aload_n (pc := 5) (i := 0) dX12_council_5 rfl rfl ?_
  refine s_iload_n (pc := 6) (i := 1) dX12_council_6 rfl rfl ?_
  refine m_ic (pc := 7) (v := 1) dX12_council_7 rfl ?_
  refine m_v2 (pc := 8) dX12_council_8 lk_X12_388 ok_X12_isCouncil (rcO o_534 (by decide) rfl) rfl rfl (c_X12_isCouncil (D := D) up_s ((up_n3 (by omega)).trans hW.1.2.1) hW.2.1 (by decide) (fun c ec hc => kt_s ?_) (fun z => kt_s ?_))
  · subst ec
    refine s_ifeq (pc := 11) (tgt := 29) dX12_council_11 rfl (fun h11 => absurd h11 (by decide)) (fun h11 => ?_)
    refine s_aload_n (pc := 14) (i := 0) dX12_council_14 rfl rfl ?_
    refine s_iload_n (pc := 15) (i := 2) dX12_council_15 rfl rfl ?_
    refine m_ic (pc := 16) (v := 0) dX12_council_16 rfl ?_
    refine m_ic (pc := 17) (v := 4) dX12_council_17 rfl ?_
    refine m_s3 (pc := 18) dX12_council_18 lk_X12_373 ok_X12_within rfl rfl (c_win (lo := 0) (m := 5) rfl rfl (by omega) (fun q eq lq hq => kt_s ?_) (fun z => kt_s ?_))
    · subst eq
      refine m_ic (pc := 21) (v := 2) dX12_council_21 rfl ?_
      refine m_ic (pc := 22) (v := 1) dX12_council_22 rfl ?_
      refine m_v3 (pc := 23) dX12_council_23 lk_X12_192 ok_X12_may (rcO o_534 (by decide) rfl) rfl rfl (c_may1 (k := 1) (by decide) rfl up_s (by decide) (kt_s ?_))
      · refine s_ifne (pc := 26) (tgt := 31) dX12_council_26 rfl (fun h26 => ?_) (fun h26 => absurd h26 (by decide))
        refine s_aload_n (pc := 31) (i := 0) dX12_council_31 rfl rfl ?_
        refine m_v0 (pc := 32) dX12_council_32 lk_X12_310 ok_X12_take (rcO o_534 (by decide) rfl) rfl rfl (c_X12_take (kt_v ?_))
        have hM := tk_W hW
        have hK := tk_k (I := I)
        have h00 := tk_0 (I := I)
        obtain ⟨I1, e1⟩ : ∃ z, z = cpI (up I 534 0 0) 549 550 126 := ⟨_, rfl⟩
        rw [← e1] at hM hK h00 ⊢
        rcases (show q = 0 ∨ q = 1 ∨ q = 2 ∨ q = 3 ∨ q = 4 from by omega) with qe | qe | qe | qe | qe
        · subst qe
          refine s_iload_n (pc := 35) (i := 2) dX12_council_35 rfl rfl ?_
          refine m_ic (pc := 36) (v := 3) dX12_council_36 rfl ?_
          refine s_icge (pc := 37) (tgt := 68) dX12_council_37 rfl (fun h37 => absurd h37 (by decide)) (fun h37 => ?_)
          refine s_iload_n (pc := 40) (i := 2) dX12_council_40 rfl rfl ?_
          refine m_ic (pc := 41) (v := 2) dX12_council_41 rfl ?_
          refine s_icge (pc := 42) (tgt := 58) dX12_council_42 rfl (fun h42 => absurd h42 (by decide)) (fun h42 => ?_)
          refine s_aload_n (pc := 45) (i := 0) dX12_council_45 rfl rfl ?_
          refine m_gr (pc := 46) dX12_council_46 ff_X12_32 rfl o_534 r_534_13 ?_
          refine m_ic (pc := 49) (v := 2) dX12_council_49 rfl ?_
          refine s_iload_n (pc := 50) (i := 1) dX12_council_50 rfl rfl ?_
          refine s_imul (pc := 51) dX12_council_51 ?_
          refine m_nm (v' := nI (2 * c)) (pk_mul 2 c) ?_
          refine s_iload_n (pc := 52) (i := 2) dX12_council_52 rfl rfl ?_
          refine s_iadd (pc := 53) dX12_council_53 ?_
          refine m_nm (v' := nI (2 * c + 0)) (nI_add (2 * c) 0) ?_
          refine m_ia (pc := 54) dX12_council_54 a_540 (vp_in_nI (n := 2 * c + 0) (by omega) (by decide)) ?_
          refine m_nm (v' := nI (cH D c)) (rdI (j := 2 * c + 0) ((hM.1.2.2.2.2 c hc).1) (by omega)) ?_
          refine s_goto (pc := 55) (tgt := 67) dX12_council_55 rfl ?_
          refine s_ireturn (pc := 67) dX12_council_67 rfl rfl ?_
          exact hg c 0 rfl hc rfl (by decide) I1 hK h00
        · subst qe
          refine s_iload_n (pc := 35) (i := 2) dX12_council_35 rfl rfl ?_
          refine m_ic (pc := 36) (v := 3) dX12_council_36 rfl ?_
          refine s_icge (pc := 37) (tgt := 68) dX12_council_37 rfl (fun h37 => absurd h37 (by decide)) (fun h37 => ?_)
          refine s_iload_n (pc := 40) (i := 2) dX12_council_40 rfl rfl ?_
          refine m_ic (pc := 41) (v := 2) dX12_council_41 rfl ?_
          refine s_icge (pc := 42) (tgt := 58) dX12_council_42 rfl (fun h42 => absurd h42 (by decide)) (fun h42 => ?_)
          refine s_aload_n (pc := 45) (i := 0) dX12_council_45 rfl rfl ?_
          refine m_gr (pc := 46) dX12_council_46 ff_X12_32 rfl o_534 r_534_13 ?_
          refine m_ic (pc := 49) (v := 2) dX12_council_49 rfl ?_
          refine s_iload_n (pc := 50) (i := 1) dX12_council_50 rfl rfl ?_
          refine s_imul (pc := 51) dX12_council_51 ?_
          refine m_nm (v' := nI (2 * c)) (pk_mul 2 c) ?_
          refine s_iload_n (pc := 52) (i := 2) dX12_council_52 rfl rfl ?_
          refine s_iadd (pc := 53) dX12_council_53 ?_
          refine m_nm (v' := nI ((2 * c) + 1)) (nI_add (2 * c) 1) ?_
          refine m_ia (pc := 54) dX12_council_54 a_540 (vp_in_nI (n := (2 * c) + 1) (by omega) (by decide)) ?_
          refine m_nm (v' := nI (cL D c)) (rdI (j := (2 * c) + 1) ((hM.1.2.2.2.2 c hc).2) (by omega)) ?_
          refine s_goto (pc := 55) (tgt := 67) dX12_council_55 rfl ?_
          refine s_ireturn (pc := 67) dX12_council_67 rfl rfl ?_
          exact hg c 1 rfl hc rfl (by decide) I1 hK h00
        · subst qe
          refine s_iload_n (pc := 35) (i := 2) dX12_council_35 rfl rfl ?_
          refine m_ic (pc := 36) (v := 3) dX12_council_36 rfl ?_
          refine s_icge (pc := 37) (tgt := 68) dX12_council_37 rfl (fun h37 => absurd h37 (by decide)) (fun h37 => ?_)
          refine s_iload_n (pc := 40) (i := 2) dX12_council_40 rfl rfl ?_
          refine m_ic (pc := 41) (v := 2) dX12_council_41 rfl ?_
          refine s_icge (pc := 42) (tgt := 58) dX12_council_42 rfl (fun h42 => ?_) (fun h42 => absurd h42 (by decide))
          refine s_aload_n (pc := 58) (i := 0) dX12_council_58 rfl rfl ?_
          refine m_gr (pc := 59) dX12_council_59 ff_X12_62 rfl o_534 r_534_37 ?_
          refine m_bi (pc := 62) (v := 112) dX12_council_62 rfl ?_
          refine s_iload_n (pc := 64) (i := 1) dX12_council_64 rfl rfl ?_
          refine s_iadd (pc := 65) dX12_council_65 ?_
          refine m_nm (v' := nI (112 + c)) (nI_add 112 c) ?_
          refine m_ia (pc := 66) dX12_council_66 a_550 (vp_in_nI (n := 112 + c) (by omega) (by decide)) ?_
          refine m_nm (v' := sN S c) (rdI (j := 112 + c) (hM.2.2.2.2.1.2.2.1 c (by omega)) (by omega)) ?_
          refine s_ireturn (pc := 67) dX12_council_67 rfl rfl ?_
          exact hg c 2 rfl hc rfl (by decide) I1 hK h00
        · subst qe
          refine s_iload_n (pc := 35) (i := 2) dX12_council_35 rfl rfl ?_
          refine m_ic (pc := 36) (v := 3) dX12_council_36 rfl ?_
          refine s_icge (pc := 37) (tgt := 68) dX12_council_37 rfl (fun h37 => ?_) (fun h37 => absurd h37 (by decide))
          refine m_ic (pc := 68) (v := 0) dX12_council_68 rfl ?_
          refine s_istore_n (pc := 69) (i := 3) dX12_council_69 rfl (Nat.le_of_ble_eq_true rfl) ?_
          dsimp only [List.set, List.filter]
          refine m_ic (pc := 70) (v := 0) dX12_council_70 rfl ?_
          refine s_istore (pc := 71) (i := 4) dX12_council_71 (Nat.le_of_ble_eq_true rfl) ?_
          dsimp only [List.set, List.filter]
          exact mc3_lp hM (hg c 3 rfl hc rfl (by decide) I1 hK h00) (cb D) 0 (by omega)
        · subst qe
          refine s_iload_n (pc := 35) (i := 2) dX12_council_35 rfl rfl ?_
          refine m_ic (pc := 36) (v := 3) dX12_council_36 rfl ?_
          refine s_icge (pc := 37) (tgt := 68) dX12_council_37 rfl (fun h37 => ?_) (fun h37 => absurd h37 (by decide))
          refine m_ic (pc := 68) (v := 0) dX12_council_68 rfl ?_
          refine s_istore_n (pc := 69) (i := 3) dX12_council_69 rfl (Nat.le_of_ble_eq_true rfl) ?_
          dsimp only [List.set, List.filter]
          refine m_ic (pc := 70) (v := 0) dX12_council_70 rfl ?_
          refine s_istore (pc := 71) (i := 4) dX12_council_71 (Nat.le_of_ble_eq_true rfl) ?_
          dsimp only [List.set, List.filter]
          exact mc4_lp hM (hg c 4 rfl hc rfl (by decide) I1 hK h00) (cb D) 0 (by omega)
    · refine m_ic (pc := 21) (v := 2) dX12_council_21 rfl ?_
      refine m_ic (pc := 22) (v := 1) dX12_council_22 rfl ?_
      refine m_v3 (pc := 23) dX12_council_23 lk_X12_192 ok_X12_may (rcO o_534 (by decide) rfl) rfl rfl (c_may0 (k := 1) (by decide) rfl up_s (by decide) (kt_s ?_))
      · refine s_ifne (pc := 26) (tgt := 31) dX12_council_26 rfl (fun h26 => absurd h26 (by decide)) (fun h26 => ?_)
        refine m_ic (pc := 29) (v := 0) dX12_council_29 rfl ?_
        refine s_ireturn (pc := 30) dX12_council_30 rfl rfl ?_
        rw [thr_0]
        exact r1 ⟨c, rfl, Nat.zero_le _, hc⟩ z
  · refine s_ifeq (pc := 11) (tgt := 29) dX12_council_11 rfl (fun h11 => ?_) (fun h11 => absurd h11 (by decide))
    refine m_ic (pc := 29) (v := 0) dX12_council_29 rfl ?_
    refine s_ireturn (pc := 30) dX12_council_30 rfl rfl ?_
    rw [thr_0]
    exact r0  z
end S
