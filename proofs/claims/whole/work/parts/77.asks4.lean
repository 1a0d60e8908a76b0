section S
variable {g : aG} {d : Nat} {I : Nat → Nat → Int32} {J : Nat → Nat → Int64} {n w : Nat} {Q : aO → aS → Prop}
variable {σ : aS} {S : sD} {D : cD} {cs : List Nat} {b c k : Nat}
theorem lis_lp (hW : Wc I 33 D cs S) (hb : b < cb D) (hq : Q (.inl (some (.int (nI (bs (hnw S b) (cb D)))))) (Z I J n w)) : ∀ f i, i + f = cb D → Rn g (d + 8) mX11_listeners 9 [.ref 1, .int (nI b), .int (nI (bs (hnw S b) i)), .int (nI i)] [] [] (Z I J n w) Q := by
  intro f
  induction f with
  | zero =>
    intro i hi
    have e : cb D = i := by omega
    subst e
    have hb7 := hW.2.1.1
    have hc12 := hW.2.1.2.1
    refine s_iload_n (pc := 9) (i := 3) dX11_listeners_9 rfl rfl ?_
    refine s_aload_n (pc := 10) (i := 0) dX11_listeners_10 rfl rfl ?_
    refine m_gr (pc := 11) dX11_listeners_11 ff_X11_19 rfl o_1 r_1_1 ?_
    refine m_gi (pc := 14) dX11_listeners_14 ff_X11_143 rfl o_4 ?_
    refine m_nm (v' := nI (cb D)) (hW.1.1) ?_
    refine s_icge (pc := 17) (tgt := 48) dX11_listeners_17 rfl (fun h17 => ?_) (fun h17 => absurd (nI_le (a := cb D) (b := (cb D)) (by omega) (by omega)) h17)
    refine s_iload_n (pc := 48) (i := 2) dX11_listeners_48 rfl rfl ?_
    refine s_ireturn (pc := 49) dX11_listeners_49 rfl rfl ?_
    exact hq
  | succ f ih =>
    intro i hi
    have hb7 := hW.2.1.1
    have hc12 := hW.2.1.2.1
    refine s_iload_n (pc := 9) (i := 3) dX11_listeners_9 rfl rfl ?_
    refine s_aload_n (pc := 10) (i := 0) dX11_listeners_10 rfl rfl ?_
    refine m_gr (pc := 11) dX11_listeners_11 ff_X11_19 rfl o_1 r_1_1 ?_
    refine m_gi (pc := 14) dX11_listeners_14 ff_X11_143 rfl o_4 ?_
    refine m_nm (v' := nI (cb D)) (hW.1.1) ?_
    refine s_icge (pc := 17) (tgt := 48) dX11_listeners_17 rfl (fun h17 => absurd h17 (nI_ge (a := i) (b := cb D) (by omega) (by omega))) (fun h17 => ?_)
    refine s_iload_n (pc := 20) (i := 2) dX11_listeners_20 rfl rfl ?_
    refine s_aload_n (pc := 21) (i := 0) dX11_listeners_21 rfl rfl ?_
    refine m_gr (pc := 22) dX11_listeners_22 ff_X11_73 rfl o_1 r_1_10 ?_
    refine s_iload_n (pc := 25) (i := 1) dX11_listeners_25 rfl rfl ?_
    refine s_iload_n (pc := 26) (i := 3) dX11_listeners_26 rfl rfl ?_
    refine m_v2 (pc := 27) dX11_listeners_27 lk_X11_370 ok_X9_hasNewsFor (rcO o_33 (by decide) rfl) rfl rfl (c_X9_hasNewsFor sO_33 hW.2.2.2.2.1 (by omega) (by omega) (fun h => kt_s ?_) (fun h => kt_s ?_))
    · refine s_ifeq (pc := 30) (tgt := 39) dX11_listeners_30 rfl (fun h30 => absurd h30 (by decide)) (fun h30 => ?_)
      refine m_ic (pc := 33) (v := 1) dX11_listeners_33 rfl ?_
      refine s_iload_n (pc := 34) (i := 3) dX11_listeners_34 rfl rfl ?_
      refine s_ishl (pc := 35) dX11_listeners_35 ?_
      refine s_goto (pc := 36) (tgt := 40) dX11_listeners_36 rfl ?_
      refine s_ior (pc := 40) dX11_listeners_40 ?_
      rw [bs_s1 (p := (hnw S b)) (by omega) h]
      refine s_istore_n (pc := 41) (i := 2) dX11_listeners_41 rfl (Nat.le_of_ble_eq_true rfl) ?_
      dsimp only [List.set, List.filter]
      refine m_inc (pc := 42) (v := 1) dX11_listeners_42 rfl rfl ?_
      dsimp only [List.set, List.filter]
      rw [nI_1]
      refine s_goto (pc := 45) (tgt := 9) dX11_listeners_45 rfl ?_
      exact ih (i + 1)  (by omega)
    · refine s_ifeq (pc := 30) (tgt := 39) dX11_listeners_30 rfl (fun h30 => ?_) (fun h30 => absurd h30 (by decide))
      refine m_ic (pc := 39) (v := 0) dX11_listeners_39 rfl ?_
      refine s_ior (pc := 40) dX11_listeners_40 ?_
      rw [bs_s0 (p := (hnw S b)) h]
      refine s_istore_n (pc := 41) (i := 2) dX11_listeners_41 rfl (Nat.le_of_ble_eq_true rfl) ?_
      dsimp only [List.set, List.filter]
      refine m_inc (pc := 42) (v := 1) dX11_listeners_42 rfl rfl ?_
      dsimp only [List.set, List.filter]
      rw [nI_1]
      refine s_goto (pc := 45) (tgt := 9) dX11_listeners_45 rfl ?_
      exact ih (i + 1)  (by omega)
theorem c_X11_listeners (hW : Wc I 33 D cs S) (hn : n + 1 ≤ 600000 ∧ w + 6 ≤ 7000000) {x : Int32} (r0 : ¬ iv 0 (cb D) x → Q (.inr 0) (Z (up I 1 17 (I 1 17 + 1)) J (n + 1) (w + 6))) (hg : ∀ b, x = nI b → b < cb D → ∀ I', kc I I' → Q (.inl (some (.int (nI (bs (hnw S b) (cb D)))))) (Z I' J n w)) : Cn g (d + 8) mX11_listeners [.ref 1, .int x] (Z I J n w) Q := by
  have hb7 := hW.2.1.1
  have hc12 := hW.2.1.2.1
  show Rn g (d + 8) mX11_listeners 0 [.ref 1, .int x, .retAddr 0, .retAddr 0] [] [] (Z I J n w) Q
  refine s_aload_n (pc := 0) (i := 0) dX11_listeners_0 rfl rfl ?_
  refine s_iload_n (pc := 1) (i := 1) dX11_listeners_1 rfl rfl ?_
  refine m_v1 (pc := 2) dX11_listeners_2 lk_X11_214 ok_X11_needBack (rcO o_1 (by decide) rfl) rfl rfl (c_nb hW.1 hW.2.1 hn (fun b eb hb => kt_v ?_) (fun z => kt_x ?_))
  · subst eb
    refine m_ic (pc := 5) (v := 0) dX11_listeners_5 rfl ?_
    refine s_istore_n (pc := 6) (i := 2) dX11_listeners_6 rfl (Nat.le_of_ble_eq_true rfl) ?_
    dsimp only [List.set, List.filter]
    refine m_ic (pc := 7) (v := 0) dX11_listeners_7 rfl ?_
    refine s_istore_n (pc := 8) (i := 3) dX11_listeners_8 rfl (Nat.le_of_ble_eq_true rfl) ?_
    dsimp only [List.set, List.filter]
    exact lis_lp hW hb (hg b rfl hb I kc_r) (cb D) 0 (by omega)
  · exact r0  z
theorem nws_ne {a : Nat} (hn : hnw S a b = true) : ¬ nI (bs (nws S a b) 12) = 0 := fun z => by
  have h1 := (bs_0 (by decide)).mp z
  have h2 : (List.range 12).any (nws S a b) = true := by unfold hnw at hn; simp only [Bool.and_eq_true] at hn; exact hn.2
  obtain ⟨x, hx, hx2⟩ := List.any_eq_true.mp h2
  rw [h1 x (List.mem_range.mp hx)] at hx2; cases hx2
theorem mli_lp (hM : Wm I D cs S) (hb : b < cb D) (hq : Q (.inl (some (.int (nI (bs (hnw S b) (cb D)))))) (Z I J n w)) : ∀ f i, i + f = cb D → Rn g (d + 3) mX12_listeners 24 [.ref 534, .int (nI b), .int (nI (bs (hnw S b) i)), .int (nI i)] [] [] (Z I J n w) Q := by
  intro f
  induction f with
  | zero =>
    intro i hi
    have e : cb D = i := by omega
    subst e
    have hb7 := hM.2.1.1
    have hc12 := hM.2.1.2.1
    refine s_iload_n (pc := 24) (i := 3) dX12_listeners_24 rfl rfl ?_
    refine s_aload_n (pc := 25) (i := 0) dX12_listeners_25 rfl rfl ?_
    refine m_gi (pc := 26) dX12_listeners_26 ff_X12_154 rfl o_534 ?_
    refine m_nm (v' := nI (cb D)) (hM.1.1) ?_
    refine s_icge (pc := 29) (tgt := 57) dX12_listeners_29 rfl (fun h29 => ?_) (fun h29 => absurd (nI_le (a := cb D) (b := (cb D)) (by omega) (by omega)) h29)
    refine s_iload_n (pc := 57) (i := 2) dX12_listeners_57 rfl rfl ?_
    refine s_ireturn (pc := 58) dX12_listeners_58 rfl rfl ?_
    exact hq
  | succ f ih =>
    intro i hi
    have hb7 := hM.2.1.1
    have hc12 := hM.2.1.2.1
    refine s_iload_n (pc := 24) (i := 3) dX12_listeners_24 rfl rfl ?_
    refine s_aload_n (pc := 25) (i := 0) dX12_listeners_25 rfl rfl ?_
    refine m_gi (pc := 26) dX12_listeners_26 ff_X12_154 rfl o_534 ?_
    refine m_nm (v' := nI (cb D)) (hM.1.1) ?_
    refine s_icge (pc := 29) (tgt := 57) dX12_listeners_29 rfl (fun h29 => absurd h29 (nI_ge (a := i) (b := cb D) (by omega) (by omega))) (fun h29 => ?_)
    refine s_iload_n (pc := 32) (i := 2) dX12_listeners_32 rfl rfl ?_
    refine s_aload_n (pc := 33) (i := 0) dX12_listeners_33 rfl rfl ?_
    refine s_iload_n (pc := 34) (i := 1) dX12_listeners_34 rfl rfl ?_
    refine s_iload_n (pc := 35) (i := 3) dX12_listeners_35 rfl rfl ?_
    refine m_v2 (pc := 36) dX12_listeners_36 lk_X12_351 ok_X12_newsOf (rcO o_534 (by decide) rfl) rfl rfl (c_X12_newsOf hM hb (by omega) (fun h => kt_s ?_) (fun h => kt_s ?_))
    · refine s_ifeq (pc := 39) (tgt := 48) dX12_listeners_39 rfl (fun h39 => ?_) (fun h39 => absurd h39 (by decide))
      refine m_ic (pc := 48) (v := 0) dX12_listeners_48 rfl ?_
      refine s_ior (pc := 49) dX12_listeners_49 ?_
      rw [bs_s0 (p := (hnw S b)) h]
      refine s_istore_n (pc := 50) (i := 2) dX12_listeners_50 rfl (Nat.le_of_ble_eq_true rfl) ?_
      dsimp only [List.set, List.filter]
      refine m_inc (pc := 51) (v := 1) dX12_listeners_51 rfl rfl ?_
      dsimp only [List.set, List.filter]
      rw [nI_1]
      refine s_goto (pc := 54) (tgt := 24) dX12_listeners_54 rfl ?_
      exact ih (i + 1)  (by omega)
    · refine s_ifeq (pc := 39) (tgt := 48) dX12_listeners_39 rfl (fun h39 => absurd h39 (nws_ne h)) (fun h39 => ?_)
      refine m_ic (pc := 42) (v := 1) dX12_listeners_42 rfl ?_
      refine s_iload_n (pc := 43) (i := 3) dX12_listeners_43 rfl rfl ?_
      refine s_ishl (pc := 44) dX12_listeners_44 ?_
      refine s_goto (pc := 45) (tgt := 49) dX12_listeners_45 rfl ?_
      refine s_ior (pc := 49) dX12_listeners_49 ?_
      rw [bs_s1 (p := (hnw S b)) (by omega) h]
      refine s_istore_n (pc := 50) (i := 2) dX12_listeners_50 rfl (Nat.le_of_ble_eq_true rfl) ?_
      dsimp only [List.set, List.filter]
      refine m_inc (pc := 51) (v := 1) dX12_listeners_51 rfl rfl ?_
      dsimp only [List.set, List.filter]
      rw [nI_1]
      refine s_goto (pc := 54) (tgt := 24) dX12_listeners_54 rfl ?_
      exact ih (i + 1)  (by omega)
theorem c_X12_listeners (hW : Wn I D cs S) {x : Int32} (r0 : ¬ iv 0 (cb D) x → Q (.inl (some (.int 0))) (Z (thr I 1 0) J n w)) (hg : ∀ b, x = nI b → b < cb D → ∀ I', km I I' → I' 534 0 = 0 → Q (.inl (some (.int (nI (bs (hnw S b) (cb D)))))) (Z I' J n w)) : Cn g (d + 3) mX12_listeners [.ref 534, .int x] (Z I J n w) Q := by
  have hb7 := hW.2.1.1
  have hc12 := hW.2.1.2.1
  show Rn g (d + 3) mX12_listeners 0 [.ref 534, .int x, .retAddr 0, .retAddr 0] [] [] (Z I J n w) Q
  refine s_aload_n (pc := 0) (i := 0) dX12_listeners_0 rfl rfl ?_
  refine m_ic (pc := 1) (v := 0) dX12_listeners_1 rfl ?_
  refine m_pi (pc := 2) dX12_listeners_2 ff_X12_3 rfl rfl o_534 ?_
  refine s_aload_n (pc := 5) (i := 0) dX12_listeners_5 rfl rfl ?_
  refine s_iload_n (pc := 6) (i := 1) dX12_listeners_6 rfl rfl ?_
  refine m_ic (pc := 7) (v := 1) dX12_listeners_7 rfl ?_
  refine m_v2 (pc := 8) dX12_listeners_8 lk_X12_385 ok_X12_isBack (rcO o_534 (by decide) rfl) rfl rfl (c_X12_isBack (D := D) up_s ((up_n3 (by omega)).trans hW.1.1) hW.2.1 (by decide) (fun b eb hb => kt_s ?_) (fun z => kt_s ?_))
  · subst eb
    refine s_ifne (pc := 11) (tgt := 16) dX12_listeners_11 rfl (fun h11 => ?_) (fun h11 => absurd h11 (by decide))
    refine s_aload_n (pc := 16) (i := 0) dX12_listeners_16 rfl rfl ?_
    refine m_v0 (pc := 17) dX12_listeners_17 lk_X12_310 ok_X12_take (rcO o_534 (by decide) rfl) rfl rfl (c_X12_take (kt_v ?_))
    have hM := tk_W hW
    have hK := tk_k (I := I)
    have h00 := tk_0 (I := I)
    obtain ⟨I1, e1⟩ : ∃ z, z = cpI (up I 534 0 0) 549 550 126 := ⟨_, rfl⟩
    rw [← e1] at hM hK h00 ⊢
    refine m_ic (pc := 20) (v := 0) dX12_listeners_20 rfl ?_
    refine s_istore_n (pc := 21) (i := 2) dX12_listeners_21 rfl (Nat.le_of_ble_eq_true rfl) ?_
    dsimp only [List.set, List.filter]
    refine m_ic (pc := 22) (v := 0) dX12_listeners_22 rfl ?_
    refine s_istore_n (pc := 23) (i := 3) dX12_listeners_23 rfl (Nat.le_of_ble_eq_true rfl) ?_
    dsimp only [List.set, List.filter]
    exact mli_lp hM hb (hg b rfl hb I1 hK h00) (cb D) 0 (by omega)
  · refine s_ifne (pc := 11) (tgt := 16) dX12_listeners_11 rfl (fun h11 => absurd h11 (by decide)) (fun h11 => ?_)
    refine m_ic (pc := 14) (v := 0) dX12_listeners_14 rfl ?_
    refine s_ireturn (pc := 15) dX12_listeners_15 rfl rfl ?_
    rw [thr_0]
    exact r0  z
def pS0 (S : sD) (b c : Nat) : Bool := decide (sK S b c = some 0)
def pS1 (S : sD) (b c : Nat) : Bool := (sK S b c).isSome && !pS0 S b c
theorem ob_0 (h : sOk D S) : ob (sK S b c) = 0 ↔ pS0 S b c = true := by
  unfold pS0
  cases e : sK S b c with
  | none => simp [ob]
  | some v =>
    have h9 := (h.2.1 b c v e).1
    simp only [ob, decide_eq_true_eq, Option.some.injEq]
    exact ⟨fun z => (nI_eq (a := v) (b := 0) (by omega) (by decide)).mp z, fun z => by rw [z]; rfl⟩
theorem ob_p (h : sOk D S) : ob (sK S b c) ≤ 0 ↔ pS1 S b c = false := by
  unfold pS1 pS0
  cases e : sK S b c with
  | none => simp [ob]
  | some v =>
    have h9 := (h.2.1 b c v e).1
    simp only [ob, Option.isSome_some, Bool.true_and, Bool.not_eq_false', decide_eq_true_eq, Option.some.injEq]
    exact ⟨fun z => by have := (nI_leI (a := v) (b := 0) (by omega) (by decide)).mp z; omega, fun z => by rw [z]; decide⟩
def vSur (D : cD) (S : sD) (b q : Nat) : Int32 := if q = 0 then nI (bs (pS0 S b) (cc D)) else nI (bs (pS1 S b) (cc D))
theorem sur_1 (h : sOk D S) (hk : cOk D) : nI (bs (fun c => (sK S b c).isSome) 12) &&& (nI (bs (pS0 S b) (cc D)) ^^^ -1) = nI (bs (pS1 S b) (cc D)) := by
  rw [bs_up (p := pS0 S b) hk.2.1 (fun i h1 h2 => ?_), bs_an (by decide), bs_up (p := pS1 S b) hk.2.1 (fun i h1 h2 => ?_)]
  · rfl
  · unfold pS1
    cases e : sK S b i with
    | none => rfl
    | some v => have := (h.2.1 b i v e).2.2; omega
  · unfold pS0
    cases e : sK S b i with
    | none => rfl
    | some v => have := (h.2.1 b i v e).2.2; omega
theorem sur_lp {q : Nat} (hW : Wc I 33 D cs S) (hb : b < cb D) (hq2 : q < 2) (hq : Q (.inl (some (.int (vSur D S b q)))) (Z I J n w)) : ∀ f i, i + f = cc D → Rn g (d + 8) mX11_sure 16 [.ref 1, .int (nI b), .int (nI q), .int (nI (bs (pS0 S b) i)), .int (nI i)] [] [] (Z I J n w) Q := by
  intro f
  induction f with
  | zero =>
    intro i hi
    have e : cc D = i := by omega
    subst e
    have hb7 := hW.2.1.1
    have hc12 := hW.2.1.2.1
    refine s_iload (pc := 16) (i := 4) dX11_sure_16 rfl ?_
    refine s_aload_n (pc := 18) (i := 0) dX11_sure_18 rfl rfl ?_
    refine m_gr (pc := 19) dX11_sure_19 ff_X11_19 rfl o_1 r_1_1 ?_
    refine m_gi (pc := 22) dX11_sure_22 ff_X11_184 rfl o_4 ?_
    refine m_nm (v' := nI (cc D)) (hW.1.2.1) ?_
    refine s_icge (pc := 25) (tgt := 58) dX11_sure_25 rfl (fun h25 => ?_) (fun h25 => absurd (nI_le (a := cc D) (b := (cc D)) (by omega) (by omega)) h25)
    refine s_iload_n (pc := 58) (i := 2) dX11_sure_58 rfl rfl ?_
    refine s_ifne (pc := 59) (tgt := 66) dX11_sure_59 rfl (fun h59 => ?_) (fun h59 => ?_)
    · have h59 : ¬ q = 0 := fun z => h59 ((nI_eq (a := q) (b := 0) (by omega) (by omega)).mpr z)
      refine s_aload_n (pc := 66) (i := 0) dX11_sure_66 rfl rfl ?_
      refine m_gr (pc := 67) dX11_sure_67 ff_X11_73 rfl o_1 r_1_10 ?_
      refine m_gr (pc := 70) dX11_sure_70 ff_X11_231 rfl o_33 r_33_3 ?_
      refine s_iload_n (pc := 73) (i := 1) dX11_sure_73 rfl rfl ?_
      refine m_ia (pc := 74) dX11_sure_74 a_37 (vp_in_nI (n := b) (by omega) (by decide)) ?_
      refine m_nm (v' := nI (bs (fun c => (sK S b c).isSome) 12)) (rdI (j := b) ((hW.2.2.2.2.1.1 b (by omega)).2.2.2) (by omega)) ?_
      refine s_iload_n (pc := 75) (i := 3) dX11_sure_75 rfl rfl ?_
      refine m_ic (pc := 76) (v := -1) dX11_sure_76 rfl ?_
      refine s_ixor (pc := 77) dX11_sure_77 ?_
      refine s_iand (pc := 78) dX11_sure_78 ?_
      refine m_nm (v' := nI (bs (pS1 S b) (cc D))) (sur_1 hW.2.2.2.2.2 hW.2.1) ?_
      refine s_ireturn (pc := 79) dX11_sure_79 rfl rfl ?_
      have E : vSur D S b q = nI (bs (pS1 S b) (cc D)) := if_neg h59
      rw [E] at hq; exact hq
    · have h59 : q = 0 := (nI_eq (a := q) (b := 0) (by omega) (by omega)).mp h59
      refine s_iload_n (pc := 62) (i := 3) dX11_sure_62 rfl rfl ?_
      refine s_goto (pc := 63) (tgt := 79) dX11_sure_63 rfl ?_
      refine s_ireturn (pc := 79) dX11_sure_79 rfl rfl ?_
      have E : vSur D S b q = nI (bs (pS0 S b) (cc D)) := if_pos h59
      rw [E] at hq; exact hq
  | succ f ih =>
    intro i hi
    have hb7 := hW.2.1.1
    have hc12 := hW.2.1.2.1
    refine s_iload (pc := 16) (i := 4) dX11_sure_16 rfl ?_
    refine s_aload_n (pc := 18) (i := 0) dX11_sure_18 rfl rfl ?_
    refine m_gr (pc := 19) dX11_sure_19 ff_X11_19 rfl o_1 r_1_1 ?_
    refine m_gi (pc := 22) dX11_sure_22 ff_X11_184 rfl o_4 ?_
    refine m_nm (v' := nI (cc D)) (hW.1.2.1) ?_
    refine s_icge (pc := 25) (tgt := 58) dX11_sure_25 rfl (fun h25 => absurd h25 (nI_ge (a := i) (b := cc D) (by omega) (by omega))) (fun h25 => ?_)
    refine s_iload_n (pc := 28) (i := 3) dX11_sure_28 rfl rfl ?_
    refine s_aload_n (pc := 29) (i := 0) dX11_sure_29 rfl rfl ?_
    refine m_gr (pc := 30) dX11_sure_30 ff_X11_73 rfl o_1 r_1_10 ?_
    refine s_iload_n (pc := 33) (i := 1) dX11_sure_33 rfl rfl ?_
    refine s_iload (pc := 34) (i := 4) dX11_sure_34 rfl ?_
    refine m_v2 (pc := 36) dX11_sure_36 lk_X11_256 ok_X9_hearingsOf (rcO o_33 (by decide) rfl) rfl rfl (c_X9_hearingsOf sO_33 hW.2.2.2.2.1 (by omega) (by omega) (kt_s ?_))
    refine s_ifne (pc := 39) (tgt := 49) dX11_sure_39 rfl (fun h39 => ?_) (fun h39 => ?_)
    · have e : pS0 S b i = false := ts_nt (fun z => h39 ((ob_0 hW.2.2.2.2.2).mpr z))
      refine m_ic (pc := 49) (v := 0) dX11_sure_49 rfl ?_
      refine s_ior (pc := 50) dX11_sure_50 ?_
      rw [bs_s0 (p := (pS0 S b)) e]
      refine s_istore_n (pc := 51) (i := 3) dX11_sure_51 rfl (Nat.le_of_ble_eq_true rfl) ?_
      dsimp only [List.set, List.filter]
      refine m_inc (pc := 52) (v := 1) dX11_sure_52 rfl rfl ?_
      dsimp only [List.set, List.filter]
      rw [nI_1]
      refine s_goto (pc := 55) (tgt := 16) dX11_sure_55 rfl ?_
      exact ih (i + 1)  (by omega)
    · have e := (ob_0 hW.2.2.2.2.2).mp h39
      refine m_ic (pc := 42) (v := 1) dX11_sure_42 rfl ?_
      refine s_iload (pc := 43) (i := 4) dX11_sure_43 rfl ?_
      refine s_ishl (pc := 45) dX11_sure_45 ?_
      refine s_goto (pc := 46) (tgt := 50) dX11_sure_46 rfl ?_
      refine s_ior (pc := 50) dX11_sure_50 ?_
      rw [bs_s1 (p := (pS0 S b)) (by omega) e]
      refine s_istore_n (pc := 51) (i := 3) dX11_sure_51 rfl (Nat.le_of_ble_eq_true rfl) ?_
      dsimp only [List.set, List.filter]
      refine m_inc (pc := 52) (v := 1) dX11_sure_52 rfl rfl ?_
      dsimp only [List.set, List.filter]
      rw [nI_1]
      refine s_goto (pc := 55) (tgt := 16) dX11_sure_55 rfl ?_
      exact ih (i + 1)  (by omega)
theorem c_X11_sure (hW : Wc I 33 D cs S) (hn : n + 1 ≤ 600000 ∧ w + 6 ≤ 7000000) {x y : Int32} (r0 : ¬ iv 0 (cb D) x → Q (.inr 0) (Z (up I 1 17 (I 1 17 + 1)) J (n + 1) (w + 6))) (r1 : iv 0 (cb D) x → ¬ iv 0 (2) y → Q (.inr 1) (Z (up I 1 18 (I 1 18 + 1)) J (n + 1) (w + 6))) (hg : ∀ b, ∀ q, x = nI b → b < cb D → y = nI q → q < 2 → ∀ I', kc I I' → Q (.inl (some (.int (vSur D S b q)))) (Z I' J n w)) : Cn g (d + 8) mX11_sure [.ref 1, .int x, .int y] (Z I J n w) Q := by
  have hb7 := hW.2.1.1
  have hc12 := hW.2.1.2.1
  show Rn g (d + 8) mX11_sure 0 [.ref 1, .int x, .int y, .retAddr 0, .retAddr 0] [] [] (Z I J n w) Q
  refine s_aload_n (pc := 0) (i := 0) dX11_sure_0 rfl rfl ?_
  refine s_iload_n (pc := 1) (i := 1) dX11_sure_1 rfl rfl ?_
  refine m_v1 (pc := 2) dX11_sure_2 lk_X11_214 ok_X11_needBack (rcO o_1 (by decide) rfl) rfl rfl (c_nb hW.1 hW.2.1 hn (fun b eb hb => kt_v ?_) (fun z => kt_x ?_))
  · subst eb
    refine s_aload_n (pc := 5) (i := 0) dX11_sure_5 rfl rfl ?_
    refine s_iload_n (pc := 6) (i := 2) dX11_sure_6 rfl rfl ?_
    refine m_ic (pc := 7) (v := 2) dX11_sure_7 rfl ?_
    refine m_v2 (pc := 8) dX11_sure_8 lk_X11_181 ok_X11_needWhat (rcO o_1 (by decide) rfl) rfl rfl (c_nw (m := 2) rfl (by decide) hn (fun q eq hq => kt_v ?_) (fun z => kt_x ?_))
    · subst eq
      refine m_ic (pc := 11) (v := 0) dX11_sure_11 rfl ?_
      refine s_istore_n (pc := 12) (i := 3) dX11_sure_12 rfl (Nat.le_of_ble_eq_true rfl) ?_
      dsimp only [List.set, List.filter]
      refine m_ic (pc := 13) (v := 0) dX11_sure_13 rfl ?_
      refine s_istore (pc := 14) (i := 4) dX11_sure_14 (Nat.le_of_ble_eq_true rfl) ?_
      dsimp only [List.set, List.filter]
      exact sur_lp hW hb hq (hg b q rfl hb rfl hq I kc_r) (cc D) 0 (by omega)
    · exact r1 ⟨b, rfl, Nat.zero_le _, hb⟩ z
  · exact r0  z
theorem msu0_lp (hM : Wm I D cs S) (hb : b < cb D) (hq : Q (.inl (some (.int (nI (bs (pS0 S b) (cc D)))))) (Z I J n w)) : ∀ f i, i + f = cc D → Rn g (d + 3) mX12_sure 40 [.ref 534, .int (nI b), .int (nI 0), .int (nI (bs (pS0 S b) i)), .int (nI i)] [] [] (Z I J n w) Q := by
  intro f
  induction f with
  | zero =>
    intro i hi
    have e : cc D = i := by omega
    subst e
    have hb7 := hM.2.1.1
    have hc12 := hM.2.1.2.1
    refine s_iload (pc := 40) (i := 4) dX12_sure_40 rfl ?_
    refine s_aload_n (pc := 42) (i := 0) dX12_sure_42 rfl rfl ?_
    refine m_gi (pc := 43) dX12_sure_43 ff_X12_157 rfl o_534 ?_
    refine m_nm (v' := nI (cc D)) (hM.1.2.1) ?_
    refine s_icge (pc := 46) (tgt := 93) dX12_sure_46 rfl (fun h46 => ?_) (fun h46 => absurd (nI_le (a := cc D) (b := (cc D)) (by omega) (by omega)) h46)
    refine s_iload_n (pc := 93) (i := 3) dX12_sure_93 rfl rfl ?_
    refine s_ireturn (pc := 94) dX12_sure_94 rfl rfl ?_
    exact hq
  | succ f ih =>
    intro i hi
    have hb7 := hM.2.1.1
    have hc12 := hM.2.1.2.1
    refine s_iload (pc := 40) (i := 4) dX12_sure_40 rfl ?_
    refine s_aload_n (pc := 42) (i := 0) dX12_sure_42 rfl rfl ?_
    refine m_gi (pc := 43) dX12_sure_43 ff_X12_157 rfl o_534 ?_
    refine m_nm (v' := nI (cc D)) (hM.1.2.1) ?_
    refine s_icge (pc := 46) (tgt := 93) dX12_sure_46 rfl (fun h46 => absurd h46 (nI_ge (a := i) (b := cc D) (by omega) (by omega))) (fun h46 => ?_)
    refine s_iload_n (pc := 49) (i := 3) dX12_sure_49 rfl rfl ?_
    refine s_iload_n (pc := 50) (i := 2) dX12_sure_50 rfl rfl ?_
    refine s_ifne (pc := 51) (tgt := 67) dX12_sure_51 rfl (fun h51 => absurd h51 (by decide)) (fun h51 => ?_)
    refine s_aload_n (pc := 54) (i := 0) dX12_sure_54 rfl rfl ?_
    refine s_iload_n (pc := 55) (i := 1) dX12_sure_55 rfl rfl ?_
    refine s_iload (pc := 56) (i := 4) dX12_sure_56 rfl ?_
    refine m_v2 (pc := 58) dX12_sure_58 lk_X12_329 ok_X12_heardOf (rcO o_534 (by decide) rfl) rfl rfl (c_X12_heardOf hM.2.2.2.2.1 (by omega) (by omega) (kt_s ?_))
    refine s_ifne (pc := 61) (tgt := 84) dX12_sure_61 rfl (fun h61 => ?_) (fun h61 => ?_)
    · have e : pS0 S b i = false := ts_nt (fun z => h61 ((ob_0 hM.2.2.2.2.2).mpr z))
      refine m_ic (pc := 84) (v := 0) dX12_sure_84 rfl ?_
      refine s_ior (pc := 85) dX12_sure_85 ?_
      rw [bs_s0 (p := (pS0 S b)) e]
      refine s_istore_n (pc := 86) (i := 3) dX12_sure_86 rfl (Nat.le_of_ble_eq_true rfl) ?_
      dsimp only [List.set, List.filter]
      refine m_inc (pc := 87) (v := 1) dX12_sure_87 rfl rfl ?_
      dsimp only [List.set, List.filter]
      rw [nI_1]
      refine s_goto (pc := 90) (tgt := 40) dX12_sure_90 rfl ?_
      exact ih (i + 1)  (by omega)
    · have e := (ob_0 hM.2.2.2.2.2).mp h61
      refine s_goto (pc := 64) (tgt := 77) dX12_sure_64 rfl ?_
      refine m_ic (pc := 77) (v := 1) dX12_sure_77 rfl ?_
      refine s_iload (pc := 78) (i := 4) dX12_sure_78 rfl ?_
      refine s_ishl (pc := 80) dX12_sure_80 ?_
      refine s_goto (pc := 81) (tgt := 85) dX12_sure_81 rfl ?_
      refine s_ior (pc := 85) dX12_sure_85 ?_
      rw [bs_s1 (p := (pS0 S b)) (by omega) e]
      refine s_istore_n (pc := 86) (i := 3) dX12_sure_86 rfl (Nat.le_of_ble_eq_true rfl) ?_
      dsimp only [List.set, List.filter]
      refine m_inc (pc := 87) (v := 1) dX12_sure_87 rfl rfl ?_
      dsimp only [List.set, List.filter]
      rw [nI_1]
      refine s_goto (pc := 90) (tgt := 40) dX12_sure_90 rfl ?_
      exact ih (i + 1)  (by omega)
theorem msu1_lp (hM : Wm I D cs S) (hb : b < cb D) (hq : Q (.inl (some (.int (nI (bs (pS1 S b) (cc D)))))) (Z I J n w)) : ∀ f i, i + f = cc D → Rn g (d + 3) mX12_sure 40 [.ref 534, .int (nI b), .int (nI 1), .int (nI (bs (pS1 S b) i)), .int (nI i)] [] [] (Z I J n w) Q := by
  intro f
  induction f with
  | zero =>
    intro i hi
    have e : cc D = i := by omega
    subst e
    have hb7 := hM.2.1.1
    have hc12 := hM.2.1.2.1
    refine s_iload (pc := 40) (i := 4) dX12_sure_40 rfl ?_
    refine s_aload_n (pc := 42) (i := 0) dX12_sure_42 rfl rfl ?_
    refine m_gi (pc := 43) dX12_sure_43 ff_X12_157 rfl o_534 ?_
    refine m_nm (v' := nI (cc D)) (hM.1.2.1) ?_
    refine s_icge (pc := 46) (tgt := 93) dX12_sure_46 rfl (fun h46 => ?_) (fun h46 => absurd (nI_le (a := cc D) (b := (cc D)) (by omega) (by omega)) h46)
    refine s_iload_n (pc := 93) (i := 3) dX12_sure_93 rfl rfl ?_
    refine s_ireturn (pc := 94) dX12_sure_94 rfl rfl ?_
    exact hq
  | succ f ih =>
    intro i hi
    have hb7 := hM.2.1.1
    have hc12 := hM.2.1.2.1
    refine s_iload (pc := 40) (i := 4) dX12_sure_40 rfl ?_
    refine s_aload_n (pc := 42) (i := 0) dX12_sure_42 rfl rfl ?_
    refine m_gi (pc := 43) dX12_sure_43 ff_X12_157 rfl o_534 ?_
    refine m_nm (v' := nI (cc D)) (hM.1.2.1) ?_
    refine s_icge (pc := 46) (tgt := 93) dX12_sure_46 rfl (fun h46 => absurd h46 (nI_ge (a := i) (b := cc D) (by omega) (by omega))) (fun h46 => ?_)
    refine s_iload_n (pc := 49) (i := 3) dX12_sure_49 rfl rfl ?_
    refine s_iload_n (pc := 50) (i := 2) dX12_sure_50 rfl rfl ?_
    refine s_ifne (pc := 51) (tgt := 67) dX12_sure_51 rfl (fun h51 => ?_) (fun h51 => absurd h51 (by decide))
    refine s_aload_n (pc := 67) (i := 0) dX12_sure_67 rfl rfl ?_
    refine s_iload_n (pc := 68) (i := 1) dX12_sure_68 rfl rfl ?_
    refine s_iload (pc := 69) (i := 4) dX12_sure_69 rfl ?_
    refine m_v2 (pc := 71) dX12_sure_71 lk_X12_329 ok_X12_heardOf (rcO o_534 (by decide) rfl) rfl rfl (c_X12_heardOf hM.2.2.2.2.1 (by omega) (by omega) (kt_s ?_))
    refine s_ifle (pc := 74) (tgt := 84) dX12_sure_74 rfl (fun h74 => ?_) (fun h74 => ?_)
    · have e := (ob_p hM.2.2.2.2.2).mp h74
      refine m_ic (pc := 84) (v := 0) dX12_sure_84 rfl ?_
      refine s_ior (pc := 85) dX12_sure_85 ?_
      rw [bs_s0 (p := (pS1 S b)) e]
      refine s_istore_n (pc := 86) (i := 3) dX12_sure_86 rfl (Nat.le_of_ble_eq_true rfl) ?_
      dsimp only [List.set, List.filter]
      refine m_inc (pc := 87) (v := 1) dX12_sure_87 rfl rfl ?_
      dsimp only [List.set, List.filter]
      rw [nI_1]
      refine s_goto (pc := 90) (tgt := 40) dX12_sure_90 rfl ?_
      exact ih (i + 1)  (by omega)
    · have e : pS1 S b i = true := ts_nf (fun z => h74 ((ob_p hM.2.2.2.2.2).mpr z))
      refine m_ic (pc := 77) (v := 1) dX12_sure_77 rfl ?_
      refine s_iload (pc := 78) (i := 4) dX12_sure_78 rfl ?_
      refine s_ishl (pc := 80) dX12_sure_80 ?_
      refine s_goto (pc := 81) (tgt := 85) dX12_sure_81 rfl ?_
      refine s_ior (pc := 85) dX12_sure_85 ?_
      rw [bs_s1 (p := (pS1 S b)) (by omega) e]
      refine s_istore_n (pc := 86) (i := 3) dX12_sure_86 rfl (Nat.le_of_ble_eq_true rfl) ?_
      dsimp only [List.set, List.filter]
      refine m_inc (pc := 87) (v := 1) dX12_sure_87 rfl rfl ?_
      dsimp only [List.set, List.filter]
      rw [nI_1]
      refine s_goto (pc := 90) (tgt := 40) dX12_sure_90 rfl ?_
      exact ih (i + 1)  (by omega)
theorem c_X12_sure (hW : Wn I D cs S) {x y : Int32} (r0 : ¬ iv 0 (cb D) x → Q (.inl (some (.int 0))) (Z (thr I 1 0) J n w)) (r1 : iv 0 (cb D) x → ¬ iv 0 (2) y → Q (.inl (some (.int 0))) (Z (thr I 2 1) J n w)) (hg : ∀ b, ∀ q, x = nI b → b < cb D → y = nI q → q < 2 → ∀ I', km I I' → I' 534 0 = 0 → Q (.inl (some (.int (vSur D S b q)))) (Z I' J n w)) : Cn g (d + 3) mX12_sure [.ref 534, .int x, .int y] (Z I J n w) Q := by
  have hb7 := hW.2.1.1
  have hc12 := hW.2.1.2.1
  show Rn g (d + 3) mX12_sure 0 [.ref 534, .int x, .int y, .retAddr 0, .retAddr 0] [] [] (Z I J n w) Q
  refine s_aload_n (pc := 0) (i := 0) dX12_sure_0 rfl rfl ?_
  refine m_ic (pc := 1) (v := 0) dX12_sure_1 rfl ?_
  refine m_pi (pc := 2) dX12_sure_2 ff_X12_3 rfl rfl o_534 ?_
  refine s_aload_n (pc := 5) (i := 0) dX12_sure_5 rfl rfl ?_
  refine s_iload_n (pc := 6) (i := 1) dX12_sure_6 rfl rfl ?_
  refine m_ic (pc := 7) (v := 1) dX12_sure_7 rfl ?_
  refine m_v2 (pc := 8) dX12_sure_8 lk_X12_385 ok_X12_isBack (rcO o_534 (by decide) rfl) rfl rfl (c_X12_isBack (D := D) up_s ((up_n3 (by omega)).trans hW.1.1) hW.2.1 (by decide) (fun b eb hb => kt_s ?_) (fun z => kt_s ?_))
  · subst eb
    refine s_ifeq (pc := 11) (tgt := 29) dX12_sure_11 rfl (fun h11 => absurd h11 (by decide)) (fun h11 => ?_)
    refine s_aload_n (pc := 14) (i := 0) dX12_sure_14 rfl rfl ?_
    refine s_iload_n (pc := 15) (i := 2) dX12_sure_15 rfl rfl ?_
    refine m_ic (pc := 16) (v := 0) dX12_sure_16 rfl ?_
    refine m_ic (pc := 17) (v := 1) dX12_sure_17 rfl ?_
    refine m_s3 (pc := 18) dX12_sure_18 lk_X12_373 ok_X12_within rfl rfl (c_win (lo := 0) (m := 2) rfl rfl (by omega) (fun q eq lq hq => kt_s ?_) (fun z => kt_s ?_))
    · subst eq
      refine m_ic (pc := 21) (v := 2) dX12_sure_21 rfl ?_
      refine m_ic (pc := 22) (v := 1) dX12_sure_22 rfl ?_
      refine m_v3 (pc := 23) dX12_sure_23 lk_X12_192 ok_X12_may (rcO o_534 (by decide) rfl) rfl rfl (c_may1 (k := 1) (by decide) rfl up_s (by decide) (kt_s ?_))
      · refine s_ifne (pc := 26) (tgt := 31) dX12_sure_26 rfl (fun h26 => ?_) (fun h26 => absurd h26 (by decide))
        refine s_aload_n (pc := 31) (i := 0) dX12_sure_31 rfl rfl ?_
        refine m_v0 (pc := 32) dX12_sure_32 lk_X12_310 ok_X12_take (rcO o_534 (by decide) rfl) rfl rfl (c_X12_take (kt_v ?_))
        have hM := tk_W hW
        have hK := tk_k (I := I)
        have h00 := tk_0 (I := I)
        obtain ⟨I1, e1⟩ : ∃ z, z = cpI (up I 534 0 0) 549 550 126 := ⟨_, rfl⟩
        rw [← e1] at hM hK h00 ⊢
        rcases (show q = 0 ∨ q = 1 from by omega) with qe | qe
        · subst qe
          refine m_ic (pc := 35) (v := 0) dX12_sure_35 rfl ?_
          refine s_istore_n (pc := 36) (i := 3) dX12_sure_36 rfl (Nat.le_of_ble_eq_true rfl) ?_
          dsimp only [List.set, List.filter]
          refine m_ic (pc := 37) (v := 0) dX12_sure_37 rfl ?_
          refine s_istore (pc := 38) (i := 4) dX12_sure_38 (Nat.le_of_ble_eq_true rfl) ?_
          dsimp only [List.set, List.filter]
          exact msu0_lp hM hb (hg b 0 rfl hb rfl (by decide) I1 hK h00) (cc D) 0 (by omega)
        · subst qe
          refine m_ic (pc := 35) (v := 0) dX12_sure_35 rfl ?_
          refine s_istore_n (pc := 36) (i := 3) dX12_sure_36 rfl (Nat.le_of_ble_eq_true rfl) ?_
          dsimp only [List.set, List.filter]
          refine m_ic (pc := 37) (v := 0) dX12_sure_37 rfl ?_
          refine s_istore (pc := 38) (i := 4) dX12_sure_38 (Nat.le_of_ble_eq_true rfl) ?_
          dsimp only [List.set, List.filter]
          exact msu1_lp hM hb (hg b 1 rfl hb rfl (by decide) I1 hK h00) (cc D) 0 (by omega)
    · refine m_ic (pc := 21) (v := 2) dX12_sure_21 rfl ?_
      refine m_ic (pc := 22) (v := 1) dX12_sure_22 rfl ?_
      refine m_v3 (pc := 23) dX12_sure_23 lk_X12_192 ok_X12_may (rcO o_534 (by decide) rfl) rfl rfl (c_may0 (k := 1) (by decide) rfl up_s (by decide) (kt_s ?_))
      · refine s_ifne (pc := 26) (tgt := 31) dX12_sure_26 rfl (fun h26 => absurd h26 (by decide)) (fun h26 => ?_)
        refine m_ic (pc := 29) (v := 0) dX12_sure_29 rfl ?_
        refine s_ireturn (pc := 30) dX12_sure_30 rfl rfl ?_
        rw [thr_0]
        exact r1 ⟨b, rfl, Nat.zero_le _, hb⟩ z
  · refine s_ifeq (pc := 11) (tgt := 29) dX12_sure_11 rfl (fun h11 => ?_) (fun h11 => absurd h11 (by decide))
    refine m_ic (pc := 29) (v := 0) dX12_sure_29 rfl ?_
    refine s_ireturn (pc := 30) dX12_sure_30 rfl rfl ?_
    rw [thr_0]
    exact r0  z
def mxr (v : Nat → Int32) : Nat → Int32 × Int32
  | 0 => (-1, -1)
  | k + 1 => if (mxr v k).2 < v k then (nI k, v k) else mxr v k
theorem mxr_y {v : Nat → Int32} {i : Nat} (h : ¬ v i ≤ (mxr v i).2) : mxr v (i + 1) = (nI i, v i) := if_pos (Int32.not_le.mp h)
theorem mxr_n {v : Nat → Int32} {i : Nat} (h : v i ≤ (mxr v i).2) : mxr v (i + 1) = mxr v i := if_neg (Int32.not_lt.mpr h)
def mx1 (f : Nat → Nat) : Nat → Option Nat
  | 0 => none
  | k + 1 => match mx1 f k with
    | none => some k
    | some b => if f b < f k then some k else some b
theorem mx1_lt {f : Nat → Nat} : ∀ k b, mx1 f k = some b → b < k
  | 0, b, h => by cases h
  | k + 1, b, h => by
    rw [mx1] at h
    split at h
    · injection h with h; omega
    · rename_i a ha
      have := mx1_lt k a ha
      split at h <;> (injection h with h; omega)
theorem mx1_r {f : Nat → Nat} (hf : ∀ i, f i < 2 ^ 30) : ∀ k, mxr (fun i => nI (f i)) k = (ob (mx1 f k), ob ((mx1 f k).map f))
  | 0 => rfl
  | k + 1 => by
    show (if (mxr _ k).2 < nI (f k) then (nI k, nI (f k)) else mxr _ k) = _
    rw [mx1_r hf k, mx1]
    cases e : mx1 f k with
    | none =>
      show (if (-1 : Int32) < nI (f k) then (nI k, nI (f k)) else (-1, -1)) = (nI k, nI (f k))
      rw [if_pos (by rw [fa_lt, nI_toInt (by have := hf k; omega), show ((-1 : Int32)).toInt = -1 from rfl]; omega)]
    | some b =>
      have h1 := hf k
      have h2 := hf b
      show (if nI (f b) < nI (f k) then (nI k, nI (f k)) else (nI b, nI (f b))) = (ob (if f b < f k then some k else some b), ob ((if f b < f k then some k else some b).map f))
      by_cases z : f b < f k
      · rw [if_pos (nI_lt z (by omega)), if_pos z]; rfl
      · rw [if_neg (nI_nlt (a := f b) (b := f k) (by omega) (by omega)), if_neg z]; rfl
/-- which, or how much -/
def vPk (x : Int32 × Int32) (q : Nat) : Int32 := if q = 0 then x.1 else x.2
theorem rum_lp {q : Nat} (hW : Wc I 33 D cs S) (hc : c < cc D) (hq2 : q < 2) (hq : Q (.inl (some (.int (vPk (mxr (fun b => ob (sK S b c)) (cb D)) q)))) (Z I J n w)) : ∀ f i (v6 : Value), i + f = cb D → Rn g (d + 8) mX11_rumour 19 [.ref 1, .int (nI c), .int (nI q), .int (mxr (fun b => ob (sK S b c)) i).1, .int (mxr (fun b => ob (sK S b c)) i).2, .int (nI i), v6] [] [] (Z I J n w) Q := by
  intro f
  induction f with
  | zero =>
    intro i v6 hi
    have e : cb D = i := by omega
    subst e
    have hb7 := hW.2.1.1
    have hc12 := hW.2.1.2.1
    refine s_iload (pc := 19) (i := 5) dX11_rumour_19 rfl ?_
    refine s_aload_n (pc := 21) (i := 0) dX11_rumour_21 rfl rfl ?_
    refine m_gr (pc := 22) dX11_rumour_22 ff_X11_19 rfl o_1 r_1_1 ?_
    refine m_gi (pc := 25) dX11_rumour_25 ff_X11_143 rfl o_4 ?_
    refine m_nm (v' := nI (cb D)) (hW.1.1) ?_
    refine s_icge (pc := 28) (tgt := 63) dX11_rumour_28 rfl (fun h28 => ?_) (fun h28 => absurd (nI_le (a := cb D) (b := (cb D)) (by omega) (by omega)) h28)
    refine s_iload_n (pc := 63) (i := 2) dX11_rumour_63 rfl rfl ?_
    refine s_ifne (pc := 64) (tgt := 71) dX11_rumour_64 rfl (fun h64 => ?_) (fun h64 => ?_)
    · have h64 : ¬ q = 0 := fun z => h64 ((nI_eq (a := q) (b := 0) (by omega) (by omega)).mpr z)
      refine s_iload (pc := 71) (i := 4) dX11_rumour_71 rfl ?_
      refine s_ireturn (pc := 73) dX11_rumour_73 rfl rfl ?_
      have E : vPk (mxr (fun b => ob (sK S b c)) (cb D)) q = (mxr (fun b => ob (sK S b c)) (cb D)).2 := if_neg h64
      rw [E] at hq; exact hq
    · have h64 : q = 0 := (nI_eq (a := q) (b := 0) (by omega) (by omega)).mp h64
      refine s_iload_n (pc := 67) (i := 3) dX11_rumour_67 rfl rfl ?_
      refine s_goto (pc := 68) (tgt := 73) dX11_rumour_68 rfl ?_
      refine s_ireturn (pc := 73) dX11_rumour_73 rfl rfl ?_
      have E : vPk (mxr (fun b => ob (sK S b c)) (cb D)) q = (mxr (fun b => ob (sK S b c)) (cb D)).1 := if_pos h64
      rw [E] at hq; exact hq
  | succ f ih =>
    intro i v6 hi
    have hb7 := hW.2.1.1
    have hc12 := hW.2.1.2.1
    refine s_iload (pc := 19) (i := 5) dX11_rumour_19 rfl ?_
    refine s_aload_n (pc := 21) (i := 0) dX11_rumour_21 rfl rfl ?_
    refine m_gr (pc := 22) dX11_rumour_22 ff_X11_19 rfl o_1 r_1_1 ?_
    refine m_gi (pc := 25) dX11_rumour_25 ff_X11_143 rfl o_4 ?_
    refine m_nm (v' := nI (cb D)) (hW.1.1) ?_
    refine s_icge (pc := 28) (tgt := 63) dX11_rumour_28 rfl (fun h28 => absurd h28 (nI_ge (a := i) (b := cb D) (by omega) (by omega))) (fun h28 => ?_)
    refine s_aload_n (pc := 31) (i := 0) dX11_rumour_31 rfl rfl ?_
    refine m_gr (pc := 32) dX11_rumour_32 ff_X11_73 rfl o_1 r_1_10 ?_
    refine s_iload (pc := 35) (i := 5) dX11_rumour_35 rfl ?_
    refine s_iload_n (pc := 37) (i := 1) dX11_rumour_37 rfl rfl ?_
    refine m_v2 (pc := 38) dX11_rumour_38 lk_X11_256 ok_X9_hearingsOf (rcO o_33 (by decide) rfl) rfl rfl (c_X9_hearingsOf sO_33 hW.2.2.2.2.1 (by omega) (by omega) (kt_s ?_))
    refine s_istore (pc := 41) (i := 6) dX11_rumour_41 (Nat.le_of_ble_eq_true rfl) ?_
    dsimp only [List.set, List.filter]
    refine s_iload (pc := 43) (i := 6) dX11_rumour_43 rfl ?_
    refine s_iload (pc := 45) (i := 4) dX11_rumour_45 rfl ?_
    refine s_icle (pc := 47) (tgt := 57) dX11_rumour_47 rfl (fun h47 => ?_) (fun h47 => ?_)
    · have e := mxr_n (v := (fun b => ob (sK S b c))) h47
      refine m_inc (pc := 57) (v := 1) dX11_rumour_57 rfl rfl ?_
      dsimp only [List.set, List.filter]
      rw [nI_1]
      refine s_goto (pc := 60) (tgt := 19) dX11_rumour_60 rfl ?_
      have h := ih (i + 1) (.int (ob (sK S i c))) (by omega)
      rw [e] at h; exact h
    · have e := mxr_y (v := (fun b => ob (sK S b c))) h47
      refine s_iload (pc := 50) (i := 5) dX11_rumour_50 rfl ?_
      refine s_istore_n (pc := 52) (i := 3) dX11_rumour_52 rfl (Nat.le_of_ble_eq_true rfl) ?_
      dsimp only [List.set, List.filter]
      refine s_iload (pc := 53) (i := 6) dX11_rumour_53 rfl ?_
      refine s_istore (pc := 55) (i := 4) dX11_rumour_55 (Nat.le_of_ble_eq_true rfl) ?_
      dsimp only [List.set, List.filter]
      refine m_inc (pc := 57) (v := 1) dX11_rumour_57 rfl rfl ?_
      dsimp only [List.set, List.filter]
      rw [nI_1]
      refine s_goto (pc := 60) (tgt := 19) dX11_rumour_60 rfl ?_
      have h := ih (i + 1) (.int (ob (sK S i c))) (by omega)
      rw [e] at h; exact h
theorem c_X11_rumour (hW : Wc I 33 D cs S) (hn : n + 1 ≤ 600000 ∧ w + 6 ≤ 7000000) {x y : Int32} (r0 : ¬ iv 0 (cc D) x → Q (.inr 0) (Z (up I 1 17 (I 1 17 + 1)) J (n + 1) (w + 6))) (r1 : iv 0 (cc D) x → ¬ iv 0 (2) y → Q (.inr 1) (Z (up I 1 18 (I 1 18 + 1)) J (n + 1) (w + 6))) (hg : ∀ c, ∀ q, x = nI c → c < cc D → y = nI q → q < 2 → ∀ I', kc I I' → Q (.inl (some (.int (vPk (mxr (fun b => ob (sK S b c)) (cb D)) q)))) (Z I' J n w)) : Cn g (d + 8) mX11_rumour [.ref 1, .int x, .int y] (Z I J n w) Q := by
  have hb7 := hW.2.1.1
  have hc12 := hW.2.1.2.1
  show Rn g (d + 8) mX11_rumour 0 [.ref 1, .int x, .int y, .retAddr 0, .retAddr 0, .retAddr 0, .retAddr 0] [] [] (Z I J n w) Q
  refine s_aload_n (pc := 0) (i := 0) dX11_rumour_0 rfl rfl ?_
  refine s_iload_n (pc := 1) (i := 1) dX11_rumour_1 rfl rfl ?_
  refine m_v1 (pc := 2) dX11_rumour_2 lk_X11_240 ok_X11_needCouncil (rcO o_1 (by decide) rfl) rfl rfl (c_nk hW.1 hW.2.1 hn (fun c ec hc => kt_v ?_) (fun z => kt_x ?_))
  · subst ec
    refine s_aload_n (pc := 5) (i := 0) dX11_rumour_5 rfl rfl ?_
    refine s_iload_n (pc := 6) (i := 2) dX11_rumour_6 rfl rfl ?_
    refine m_ic (pc := 7) (v := 2) dX11_rumour_7 rfl ?_
    refine m_v2 (pc := 8) dX11_rumour_8 lk_X11_181 ok_X11_needWhat (rcO o_1 (by decide) rfl) rfl rfl (c_nw (m := 2) rfl (by decide) hn (fun q eq hq => kt_v ?_) (fun z => kt_x ?_))
    · subst eq
      refine m_ic (pc := 11) (v := -1) dX11_rumour_11 rfl ?_
      refine s_istore_n (pc := 12) (i := 3) dX11_rumour_12 rfl (Nat.le_of_ble_eq_true rfl) ?_
      dsimp only [List.set, List.filter]
      refine m_ic (pc := 13) (v := -1) dX11_rumour_13 rfl ?_
      refine s_istore (pc := 14) (i := 4) dX11_rumour_14 (Nat.le_of_ble_eq_true rfl) ?_
      dsimp only [List.set, List.filter]
      refine m_ic (pc := 16) (v := 0) dX11_rumour_16 rfl ?_
      refine s_istore (pc := 17) (i := 5) dX11_rumour_17 (Nat.le_of_ble_eq_true rfl) ?_
      dsimp only [List.set, List.filter]
      exact rum_lp hW hc hq (hg c q rfl hc rfl hq I kc_r) (cb D) 0 _ (by omega)
    · exact r1 ⟨c, rfl, Nat.zero_le _, hc⟩ z
  · exact r0  z
theorem mru_lp {q : Nat} (hW : Wn I D cs S) (hc : c < cc D) (hq2 : q < 2) (hq : Q (.inl (some (.int (vPk (mxr (fun b => ob (sK S b c)) (cb D)) q)))) (Z I J n w)) : ∀ f i (v6 : Value), i + f = cb D → Rn g (d + 2) mX12_rumour 39 [.ref 534, .int (nI c), .int (nI q), .int (mxr (fun b => ob (sK S b c)) i).1, .int (mxr (fun b => ob (sK S b c)) i).2, .int (nI i), v6] [] [] (Z I J n w) Q := by
  intro f
  induction f with
  | zero =>
    intro i v6 hi
    have e : cb D = i := by omega
    subst e
    have hb7 := hW.2.1.1
    have hc12 := hW.2.1.2.1
    refine s_iload (pc := 39) (i := 5) dX12_rumour_39 rfl ?_
    refine s_aload_n (pc := 41) (i := 0) dX12_rumour_41 rfl rfl ?_
    refine m_gi (pc := 42) dX12_rumour_42 ff_X12_154 rfl o_534 ?_
    refine m_nm (v' := nI (cb D)) (hW.1.1) ?_
    refine s_icge (pc := 45) (tgt := 87) dX12_rumour_45 rfl (fun h45 => ?_) (fun h45 => absurd (nI_le (a := cb D) (b := (cb D)) (by omega) (by omega)) h45)
    refine s_iload_n (pc := 87) (i := 2) dX12_rumour_87 rfl rfl ?_
    refine s_ifne (pc := 88) (tgt := 95) dX12_rumour_88 rfl (fun h88 => ?_) (fun h88 => ?_)
    · have h88 : ¬ q = 0 := fun z => h88 ((nI_eq (a := q) (b := 0) (by omega) (by omega)).mpr z)
      refine s_iload (pc := 95) (i := 4) dX12_rumour_95 rfl ?_
      refine s_ireturn (pc := 97) dX12_rumour_97 rfl rfl ?_
      have E : vPk (mxr (fun b => ob (sK S b c)) (cb D)) q = (mxr (fun b => ob (sK S b c)) (cb D)).2 := if_neg h88
      rw [E] at hq; exact hq
    · have h88 : q = 0 := (nI_eq (a := q) (b := 0) (by omega) (by omega)).mp h88
      refine s_iload_n (pc := 91) (i := 3) dX12_rumour_91 rfl rfl ?_
      refine s_goto (pc := 92) (tgt := 97) dX12_rumour_92 rfl ?_
      refine s_ireturn (pc := 97) dX12_rumour_97 rfl rfl ?_
      have E : vPk (mxr (fun b => ob (sK S b c)) (cb D)) q = (mxr (fun b => ob (sK S b c)) (cb D)).1 := if_pos h88
      rw [E] at hq; exact hq
  | succ f ih =>
    intro i v6 hi
    have hb7 := hW.2.1.1
    have hc12 := hW.2.1.2.1
    refine s_iload (pc := 39) (i := 5) dX12_rumour_39 rfl ?_
    refine s_aload_n (pc := 41) (i := 0) dX12_rumour_41 rfl rfl ?_
    refine m_gi (pc := 42) dX12_rumour_42 ff_X12_154 rfl o_534 ?_
    refine m_nm (v' := nI (cb D)) (hW.1.1) ?_
    refine s_icge (pc := 45) (tgt := 87) dX12_rumour_45 rfl (fun h45 => absurd h45 (nI_ge (a := i) (b := cb D) (by omega) (by omega))) (fun h45 => ?_)
    refine s_aload_n (pc := 48) (i := 0) dX12_rumour_48 rfl rfl ?_
    refine m_gr (pc := 49) dX12_rumour_49 ff_X12_59 rfl o_534 r_534_36 ?_
    refine m_ic (pc := 52) (v := 0) dX12_rumour_52 rfl ?_
    refine m_bi (pc := 53) (v := 12) dX12_rumour_53 rfl ?_
    refine s_iload (pc := 55) (i := 5) dX12_rumour_55 rfl ?_
    refine s_imul (pc := 57) dX12_rumour_57 ?_
    refine m_nm (v' := nI (12 * i)) (pk_mul 12 i) ?_
    refine s_iadd (pc := 58) dX12_rumour_58 ?_
    refine m_nm (v' := nI (12 * i)) (nI_z _) ?_
    refine s_iload_n (pc := 59) (i := 1) dX12_rumour_59 rfl rfl ?_
    refine s_iadd (pc := 60) dX12_rumour_60 ?_
    refine m_nm (v' := nI ((12 * i) + c)) (nI_add (12 * i) c) ?_
    refine m_ia (pc := 61) dX12_rumour_61 a_549 (vp_in_nI (n := (12 * i) + c) (by omega) (by decide)) ?_
    refine m_nm (v' := ob (sK S i c)) (rdI (j := (12 * i) + c) (hW.2.2.2.2.1.2.1 i c (by omega) (by omega)) (by omega)) ?_
    refine s_istore (pc := 62) (i := 6) dX12_rumour_62 (Nat.le_of_ble_eq_true rfl) ?_
    dsimp only [List.set, List.filter]
    refine s_iload (pc := 64) (i := 6) dX12_rumour_64 rfl ?_
    refine s_iload (pc := 66) (i := 4) dX12_rumour_66 rfl ?_
    refine s_icgt (pc := 68) (tgt := 74) dX12_rumour_68 rfl (fun h68 => ?_) (fun h68 => ?_)
    · have e := mxr_y (v := (fun b => ob (sK S b c))) (Int32.not_le.mpr h68)
      refine s_iload (pc := 74) (i := 5) dX12_rumour_74 rfl ?_
      refine s_istore_n (pc := 76) (i := 3) dX12_rumour_76 rfl (Nat.le_of_ble_eq_true rfl) ?_
      dsimp only [List.set, List.filter]
      refine s_iload (pc := 77) (i := 6) dX12_rumour_77 rfl ?_
      refine s_istore (pc := 79) (i := 4) dX12_rumour_79 (Nat.le_of_ble_eq_true rfl) ?_
      dsimp only [List.set, List.filter]
      refine m_inc (pc := 81) (v := 1) dX12_rumour_81 rfl rfl ?_
      dsimp only [List.set, List.filter]
      rw [nI_1]
      refine s_goto (pc := 84) (tgt := 39) dX12_rumour_84 rfl ?_
      have h := ih (i + 1) (.int (ob (sK S i c))) (by omega)
      rw [e] at h; exact h
    · have e := mxr_n (v := (fun b => ob (sK S b c))) (Int32.not_lt.mp h68)
      refine s_goto (pc := 71) (tgt := 81) dX12_rumour_71 rfl ?_
      refine m_inc (pc := 81) (v := 1) dX12_rumour_81 rfl rfl ?_
      dsimp only [List.set, List.filter]
      rw [nI_1]
      refine s_goto (pc := 84) (tgt := 39) dX12_rumour_84 rfl ?_
      have h := ih (i + 1) (.int (ob (sK S i c))) (by omega)
      rw [e] at h; exact h
theorem Wn_0 (h : Wn I D cs S) : Wn (up I 534 0 0) D cs S := ⟨Mo_fr h.1 (fun x j z => up_n3 (by omega)), h.2.1, Lq_fr h.2.2.1 (fun x j z => up_n3 (by omega)), h.2.2.2.1, Sm_fr h.2.2.2.2.1 (fun j _ => up_a (by decide)), h.2.2.2.2.2⟩
theorem c_X12_rumour (hW : Wn I D cs S) {x y : Int32} (r0 : ¬ iv 0 (cc D) x → Q (.inl (some (.int 0))) (Z (thr I 1 0) J n w)) (r1 : iv 0 (cc D) x → ¬ iv 0 (2) y → Q (.inl (some (.int 0))) (Z (thr I 2 1) J n w)) (hg : ∀ c, ∀ q, x = nI c → c < cc D → y = nI q → q < 2 → ∀ I', km I I' → I' 534 0 = 0 → Q (.inl (some (.int (vPk (mxr (fun b => ob (sK S b c)) (cb D)) q)))) (Z I' J n w)) : Cn g (d + 2) mX12_rumour [.ref 534, .int x, .int y] (Z I J n w) Q := by
  have hb7 := hW.2.1.1
  have hc12 := hW.2.1.2.1
  show Rn g (d + 2) mX12_rumour 0 [.ref 534, .int x, .int y, .retAddr 0, .retAddr 0, .retAddr 0, .retAddr 0] [] [] (Z I J n w) Q
  refine s_aload_n (pc := 0) (i := 0) dX12_rumour_0 rfl rfl ?_
  refine m_ic (pc := 1) (v := 0) dX12_rumour_1 rfl ?_
  refine m_pi (pc := 2) dX12_rumour_2 ff_X12_3 rfl rfl o_534 ?_
  refine s_aload_n (pc := 5) (i := 0) dX12_rumour_5 rfl rfl ?_
  refine s_iload_n (pc := 6) (i := 1) dX12_rumour_6 rfl rfl ?_
  refine m_ic (pc := 7) (v := 1) dX12_rumour_7 rfl ?_
  refine m_v2 (pc := 8) dX12_rumour_8 lk_X12_388 ok_X12_isCouncil (rcO o_534 (by decide) rfl) rfl rfl (c_X12_isCouncil (D := D) up_s ((up_n3 (by omega)).trans hW.1.2.1) hW.2.1 (by decide) (fun c ec hc => kt_s ?_) (fun z => kt_s ?_))
  · subst ec
    refine s_ifeq (pc := 11) (tgt := 29) dX12_rumour_11 rfl (fun h11 => absurd h11 (by decide)) (fun h11 => ?_)
    refine s_aload_n (pc := 14) (i := 0) dX12_rumour_14 rfl rfl ?_
    refine s_iload_n (pc := 15) (i := 2) dX12_rumour_15 rfl rfl ?_
    refine m_ic (pc := 16) (v := 0) dX12_rumour_16 rfl ?_
    refine m_ic (pc := 17) (v := 1) dX12_rumour_17 rfl ?_
    refine m_s3 (pc := 18) dX12_rumour_18 lk_X12_373 ok_X12_within rfl rfl (c_win (lo := 0) (m := 2) rfl rfl (by omega) (fun q eq lq hq => kt_s ?_) (fun z => kt_s ?_))
    · subst eq
      refine m_ic (pc := 21) (v := 2) dX12_rumour_21 rfl ?_
      refine m_ic (pc := 22) (v := 1) dX12_rumour_22 rfl ?_
      refine m_v3 (pc := 23) dX12_rumour_23 lk_X12_192 ok_X12_may (rcO o_534 (by decide) rfl) rfl rfl (c_may1 (k := 1) (by decide) rfl up_s (by decide) (kt_s ?_))
      · refine s_ifne (pc := 26) (tgt := 31) dX12_rumour_26 rfl (fun h26 => ?_) (fun h26 => absurd h26 (by decide))
        refine m_ic (pc := 31) (v := -1) dX12_rumour_31 rfl ?_
        refine s_istore_n (pc := 32) (i := 3) dX12_rumour_32 rfl (Nat.le_of_ble_eq_true rfl) ?_
        dsimp only [List.set, List.filter]
        refine m_ic (pc := 33) (v := -1) dX12_rumour_33 rfl ?_
        refine s_istore (pc := 34) (i := 4) dX12_rumour_34 (Nat.le_of_ble_eq_true rfl) ?_
        dsimp only [List.set, List.filter]
        refine m_ic (pc := 36) (v := 0) dX12_rumour_36 rfl ?_
        refine s_istore (pc := 37) (i := 5) dX12_rumour_37 (Nat.le_of_ble_eq_true rfl) ?_
        dsimp only [List.set, List.filter]
        exact mru_lp (Wn_0 hW) hc hq (hg c q rfl hc rfl hq _ th_k up_s) (cb D) 0 _ (by omega)
    · refine m_ic (pc := 21) (v := 2) dX12_rumour_21 rfl ?_
      refine m_ic (pc := 22) (v := 1) dX12_rumour_22 rfl ?_
      refine m_v3 (pc := 23) dX12_rumour_23 lk_X12_192 ok_X12_may (rcO o_534 (by decide) rfl) rfl rfl (c_may0 (k := 1) (by decide) rfl up_s (by decide) (kt_s ?_))
      · refine s_ifne (pc := 26) (tgt := 31) dX12_rumour_26 rfl (fun h26 => absurd h26 (by decide)) (fun h26 => ?_)
        refine m_ic (pc := 29) (v := 0) dX12_rumour_29 rfl ?_
        refine s_ireturn (pc := 30) dX12_rumour_30 rfl rfl ?_
        rw [thr_0]
        exact r1 ⟨c, rfl, Nat.zero_le _, hc⟩ z
  · refine s_ifeq (pc := 11) (tgt := 29) dX12_rumour_11 rfl (fun h11 => ?_) (fun h11 => absurd h11 (by decide))
    refine m_ic (pc := 29) (v := 0) dX12_rumour_29 rfl ?_
    refine s_ireturn (pc := 30) dX12_rumour_30 rfl rfl ?_
    rw [thr_0]
    exact r0  z
def pL (D : cD) (S : sD) (k q c : Nat) : Bool := decide (k ≤ cL D c ∧ ((0 < sN S c) ↔ q = 0))
theorem bs_n {p : Nat → Bool} {i : Nat} (h : p i = false) : bs p (i + 1) = bs p i := by show bs p i + (if p i = true then _ else 0) = _; rw [if_neg (by rw [h]; decide)]; rfl
theorem lie_lp {q : Nat} (hW : Wc I 33 D cs S) (hk9 : k < 10) (hq2 : q < 2) (hq : Q (.inl (some (.int (nI (bs (pL D S k q) (cc D)))))) (Z I J n w)) : ∀ f i (v5 : Value), i + f = cc D → Rn g (d + 8) mX11_lied 19 [.ref 1, .int (nI k), .int (nI q), .int (nI (bs (pL D S k q) i)), .int (nI i), v5] [] [] (Z I J n w) Q := by
  intro f
  induction f with
  | zero =>
    intro i v5 hi
    have e : cc D = i := by omega
    subst e
    have hb7 := hW.2.1.1
    have hc12 := hW.2.1.2.1
    refine s_iload (pc := 19) (i := 4) dX11_lied_19 rfl ?_
    refine s_aload_n (pc := 21) (i := 0) dX11_lied_21 rfl rfl ?_
    refine m_gr (pc := 22) dX11_lied_22 ff_X11_19 rfl o_1 r_1_1 ?_
    refine m_gi (pc := 25) dX11_lied_25 ff_X11_184 rfl o_4 ?_
    refine m_nm (v' := nI (cc D)) (hW.1.2.1) ?_
    refine s_icge (pc := 28) (tgt := 92) dX11_lied_28 rfl (fun h28 => ?_) (fun h28 => absurd (nI_le (a := cc D) (b := (cc D)) (by omega) (by omega)) h28)
    refine s_iload_n (pc := 92) (i := 3) dX11_lied_92 rfl rfl ?_
    refine s_ireturn (pc := 93) dX11_lied_93 rfl rfl ?_
    exact hq
  | succ f ih =>
    intro i v5 hi
    have hb7 := hW.2.1.1
    have hc12 := hW.2.1.2.1
    refine s_iload (pc := 19) (i := 4) dX11_lied_19 rfl ?_
    refine s_aload_n (pc := 21) (i := 0) dX11_lied_21 rfl rfl ?_
    refine m_gr (pc := 22) dX11_lied_22 ff_X11_19 rfl o_1 r_1_1 ?_
    refine m_gi (pc := 25) dX11_lied_25 ff_X11_184 rfl o_4 ?_
    refine m_nm (v' := nI (cc D)) (hW.1.2.1) ?_
    refine s_icge (pc := 28) (tgt := 92) dX11_lied_28 rfl (fun h28 => absurd h28 (nI_ge (a := i) (b := cc D) (by omega) (by omega))) (fun h28 => ?_)
    have hL9 := (hW.2.1.2.2.2.2 i (by omega)).2.2
    refine s_aload_n (pc := 31) (i := 0) dX11_lied_31 rfl rfl ?_
    refine m_gr (pc := 32) dX11_lied_32 ff_X11_73 rfl o_1 r_1_10 ?_
    refine m_gr (pc := 35) dX11_lied_35 ff_X11_249 rfl o_33 r_33_5 ?_
    refine s_iload (pc := 38) (i := 4) dX11_lied_38 rfl ?_
    refine m_ia (pc := 40) dX11_lied_40 a_39 (vp_in_nI (n := i) (by omega) (by decide)) ?_
    refine m_nm (v' := sN S i) (rdI (j := i) (hW.2.2.2.2.1.2.2.1 i (by omega)) (by omega)) ?_
    refine s_ifle (pc := 41) (tgt := 48) dX11_lied_41 rfl (fun h41 => ?_) (fun h41 => ?_)
    · skip
      refine m_ic (pc := 48) (v := 0) dX11_lied_48 rfl ?_
      refine s_istore (pc := 49) (i := 5) dX11_lied_49 (Nat.le_of_ble_eq_true rfl) ?_
      dsimp only [List.set, List.filter]
      refine s_aload_n (pc := 51) (i := 0) dX11_lied_51 rfl rfl ?_
      refine m_gr (pc := 52) dX11_lied_52 ff_X11_19 rfl o_1 r_1_1 ?_
      refine m_gr (pc := 55) dX11_lied_55 ff_X11_246 rfl o_4 r_4_3 ?_
      refine s_iload (pc := 58) (i := 4) dX11_lied_58 rfl ?_
      refine m_ia (pc := 60) dX11_lied_60 a_8 (vp_in_nI (n := i) (by omega) (by decide)) ?_
      refine m_nm (v' := nI (cL D i)) (rdI (j := i) ((hW.1.2.2.2.2 i (by omega)).2) (by omega)) ?_
      refine s_iload_n (pc := 61) (i := 1) dX11_lied_61 rfl rfl ?_
      refine s_iclt (pc := 62) (tgt := 86) dX11_lied_62 rfl (fun h62 => ?_) (fun h62 => ?_)
      · have h62 : (cL D i) < k := (nI_ltI (a := cL D i) (b := k) (by omega) (by omega)).mp h62
        refine m_inc (pc := 86) (v := 1) dX11_lied_86 rfl rfl ?_
        dsimp only [List.set, List.filter]
        rw [nI_1]
        refine s_goto (pc := 89) (tgt := 19) dX11_lied_89 rfl ?_
        have e : pL D S k q i = false := decide_eq_false (fun z => by omega)
        have h := ih (i + 1) (.int 0) (by omega)
        rw [bs_n e] at h; exact h
      · have h62 : ¬ (cL D i) < k := fun z => h62 ((nI_ltI (a := cL D i) (b := k) (by omega) (by omega)).mpr z)
        refine s_iload (pc := 65) (i := 5) dX11_lied_65 rfl ?_
        refine s_iload_n (pc := 67) (i := 2) dX11_lied_67 rfl rfl ?_
        refine s_ifne (pc := 68) (tgt := 75) dX11_lied_68 rfl (fun h68 => ?_) (fun h68 => ?_)
        · have h68 : ¬ q = 0 := fun z => h68 ((nI_eq (a := q) (b := 0) (by omega) (by omega)).mpr z)
          refine m_ic (pc := 75) (v := 0) dX11_lied_75 rfl ?_
          refine s_icne (pc := 76) (tgt := 86) dX11_lied_76 rfl (fun h76 => absurd h76 (by decide)) (fun h76 => ?_)
          refine s_iload_n (pc := 79) (i := 3) dX11_lied_79 rfl rfl ?_
          refine m_ic (pc := 80) (v := 1) dX11_lied_80 rfl ?_
          refine s_iload (pc := 81) (i := 4) dX11_lied_81 rfl ?_
          refine s_ishl (pc := 83) dX11_lied_83 ?_
          refine s_ior (pc := 84) dX11_lied_84 ?_
          rw [bs_s1 (p := (pL D S k q)) (by omega) (decide_eq_true ⟨by omega, fun z => absurd h41 (Int32.not_le.mpr z), fun z => absurd z h68⟩)]
          refine s_istore_n (pc := 85) (i := 3) dX11_lied_85 rfl (Nat.le_of_ble_eq_true rfl) ?_
          dsimp only [List.set, List.filter]
          refine m_inc (pc := 86) (v := 1) dX11_lied_86 rfl rfl ?_
          dsimp only [List.set, List.filter]
          rw [nI_1]
          refine s_goto (pc := 89) (tgt := 19) dX11_lied_89 rfl ?_
          exact ih (i + 1) _ (by omega)
        · have h68 : q = 0 := (nI_eq (a := q) (b := 0) (by omega) (by omega)).mp h68
          refine m_ic (pc := 71) (v := 1) dX11_lied_71 rfl ?_
          refine s_goto (pc := 72) (tgt := 76) dX11_lied_72 rfl ?_
          refine s_icne (pc := 76) (tgt := 86) dX11_lied_76 rfl (fun h76 => ?_) (fun h76 => absurd h76 (by decide))
          refine m_inc (pc := 86) (v := 1) dX11_lied_86 rfl rfl ?_
          dsimp only [List.set, List.filter]
          rw [nI_1]
          refine s_goto (pc := 89) (tgt := 19) dX11_lied_89 rfl ?_
          have e : pL D S k q i = false := decide_eq_false (fun z => absurd (z.2.mpr h68) (Int32.not_lt.mpr h41))
          have h := ih (i + 1) (.int 0) (by omega)
          rw [bs_n e] at h; exact h
    · skip
      refine m_ic (pc := 44) (v := 1) dX11_lied_44 rfl ?_
      refine s_goto (pc := 45) (tgt := 49) dX11_lied_45 rfl ?_
      refine s_istore (pc := 49) (i := 5) dX11_lied_49 (Nat.le_of_ble_eq_true rfl) ?_
      dsimp only [List.set, List.filter]
      refine s_aload_n (pc := 51) (i := 0) dX11_lied_51 rfl rfl ?_
      refine m_gr (pc := 52) dX11_lied_52 ff_X11_19 rfl o_1 r_1_1 ?_
      refine m_gr (pc := 55) dX11_lied_55 ff_X11_246 rfl o_4 r_4_3 ?_
      refine s_iload (pc := 58) (i := 4) dX11_lied_58 rfl ?_
      refine m_ia (pc := 60) dX11_lied_60 a_8 (vp_in_nI (n := i) (by omega) (by decide)) ?_
      refine m_nm (v' := nI (cL D i)) (rdI (j := i) ((hW.1.2.2.2.2 i (by omega)).2) (by omega)) ?_
      refine s_iload_n (pc := 61) (i := 1) dX11_lied_61 rfl rfl ?_
      refine s_iclt (pc := 62) (tgt := 86) dX11_lied_62 rfl (fun h62 => ?_) (fun h62 => ?_)
      · have h62 : (cL D i) < k := (nI_ltI (a := cL D i) (b := k) (by omega) (by omega)).mp h62
        refine m_inc (pc := 86) (v := 1) dX11_lied_86 rfl rfl ?_
        dsimp only [List.set, List.filter]
        rw [nI_1]
        refine s_goto (pc := 89) (tgt := 19) dX11_lied_89 rfl ?_
        have e : pL D S k q i = false := decide_eq_false (fun z => by omega)
        have h := ih (i + 1) (.int 1) (by omega)
        rw [bs_n e] at h; exact h
      · have h62 : ¬ (cL D i) < k := fun z => h62 ((nI_ltI (a := cL D i) (b := k) (by omega) (by omega)).mpr z)
        refine s_iload (pc := 65) (i := 5) dX11_lied_65 rfl ?_
        refine s_iload_n (pc := 67) (i := 2) dX11_lied_67 rfl rfl ?_
        refine s_ifne (pc := 68) (tgt := 75) dX11_lied_68 rfl (fun h68 => ?_) (fun h68 => ?_)
        · have h68 : ¬ q = 0 := fun z => h68 ((nI_eq (a := q) (b := 0) (by omega) (by omega)).mpr z)
          refine m_ic (pc := 75) (v := 0) dX11_lied_75 rfl ?_
          refine s_icne (pc := 76) (tgt := 86) dX11_lied_76 rfl (fun h76 => ?_) (fun h76 => absurd h76 (by decide))
          refine m_inc (pc := 86) (v := 1) dX11_lied_86 rfl rfl ?_
          dsimp only [List.set, List.filter]
          rw [nI_1]
          refine s_goto (pc := 89) (tgt := 19) dX11_lied_89 rfl ?_
          have e : pL D S k q i = false := decide_eq_false (fun z => h68 (z.2.mp (Int32.not_le.mp h41)))
          have h := ih (i + 1) (.int 1) (by omega)
          rw [bs_n e] at h; exact h
        · have h68 : q = 0 := (nI_eq (a := q) (b := 0) (by omega) (by omega)).mp h68
          refine m_ic (pc := 71) (v := 1) dX11_lied_71 rfl ?_
          refine s_goto (pc := 72) (tgt := 76) dX11_lied_72 rfl ?_
          refine s_icne (pc := 76) (tgt := 86) dX11_lied_76 rfl (fun h76 => absurd h76 (by decide)) (fun h76 => ?_)
          refine s_iload_n (pc := 79) (i := 3) dX11_lied_79 rfl rfl ?_
          refine m_ic (pc := 80) (v := 1) dX11_lied_80 rfl ?_
          refine s_iload (pc := 81) (i := 4) dX11_lied_81 rfl ?_
          refine s_ishl (pc := 83) dX11_lied_83 ?_
          refine s_ior (pc := 84) dX11_lied_84 ?_
          rw [bs_s1 (p := (pL D S k q)) (by omega) (decide_eq_true ⟨by omega, fun _ => h68, fun _ => Int32.not_le.mp h41⟩)]
          refine s_istore_n (pc := 85) (i := 3) dX11_lied_85 rfl (Nat.le_of_ble_eq_true rfl) ?_
          dsimp only [List.set, List.filter]
          refine m_inc (pc := 86) (v := 1) dX11_lied_86 rfl rfl ?_
          dsimp only [List.set, List.filter]
          rw [nI_1]
          refine s_goto (pc := 89) (tgt := 19) dX11_lied_89 rfl ?_
          exact ih (i + 1) _ (by omega)
theorem c_X11_lied (hW : Wc I 33 D cs S) (hn : n + 1 ≤ 600000 ∧ w + 6 ≤ 7000000) {x y : Int32} (r0 : ¬ iv 0 (10) x → Q (.inr 1) (Z (up I 1 18 (I 1 18 + 1)) J (n + 1) (w + 6))) (r1 : iv 0 (10) x → ¬ iv 0 (2) y → Q (.inr 1) (Z (up I 1 18 (I 1 18 + 1)) J (n + 1) (w + 6))) (hg : ∀ k, ∀ q, x = nI k → k < 10 → y = nI q → q < 2 → ∀ I', kc I I' → Q (.inl (some (.int (nI (bs (pL D S k q) (cc D)))))) (Z I' J n w)) : Cn g (d + 8) mX11_lied [.ref 1, .int x, .int y] (Z I J n w) Q := by
  have hb7 := hW.2.1.1
  have hc12 := hW.2.1.2.1
  show Rn g (d + 8) mX11_lied 0 [.ref 1, .int x, .int y, .retAddr 0, .retAddr 0, .retAddr 0] [] [] (Z I J n w) Q
  refine s_aload_n (pc := 0) (i := 0) dX11_lied_0 rfl rfl ?_
  refine s_iload_n (pc := 1) (i := 1) dX11_lied_1 rfl rfl ?_
  refine m_ic (pc := 2) (v := 0) dX11_lied_2 rfl ?_
  refine m_bi (pc := 3) (v := 9) dX11_lied_3 rfl ?_
  refine m_v3 (pc := 5) dX11_lied_5 lk_X11_267 ok_X11_needRange (rcO o_1 (by decide) rfl) rfl rfl (c_nr (lo := 0) (m := 10) rfl rfl (by omega) hn (fun k ek lk hk => kt_v ?_) (fun z => kt_x ?_))
  · subst ek
    refine s_aload_n (pc := 8) (i := 0) dX11_lied_8 rfl rfl ?_
    refine s_iload_n (pc := 9) (i := 2) dX11_lied_9 rfl rfl ?_
    refine m_ic (pc := 10) (v := 2) dX11_lied_10 rfl ?_
    refine m_v2 (pc := 11) dX11_lied_11 lk_X11_181 ok_X11_needWhat (rcO o_1 (by decide) rfl) rfl rfl (c_nw (m := 2) rfl (by decide) hn (fun q eq hq => kt_v ?_) (fun z => kt_x ?_))
    · subst eq
      refine m_ic (pc := 14) (v := 0) dX11_lied_14 rfl ?_
      refine s_istore_n (pc := 15) (i := 3) dX11_lied_15 rfl (Nat.le_of_ble_eq_true rfl) ?_
      dsimp only [List.set, List.filter]
      refine m_ic (pc := 16) (v := 0) dX11_lied_16 rfl ?_
      refine s_istore (pc := 17) (i := 4) dX11_lied_17 (Nat.le_of_ble_eq_true rfl) ?_
      dsimp only [List.set, List.filter]
      exact lie_lp hW hk hq (hg k q rfl hk rfl hq I kc_r) (cc D) 0 _ (by omega)
    · exact r1 ⟨k, rfl, Nat.zero_le _, hk⟩ z
  · exact r0  z
theorem mlie_lp {q : Nat} (hW : Wn I D cs S) (hk9 : k < 10) (hq2 : q < 2) (hq : Q (.inl (some (.int (nI (bs (pL D S k q) (cc D)))))) (Z I J n w)) : ∀ f i, i + f = cc D → Rn g (d + 2) mX12_lied 45 [.ref 534, .int (nI k), .int (nI q), .int (nI (bs (pL D S k q) i)), .int (nI i)] [] [] (Z I J n w) Q := by
  intro f
  induction f with
  | zero =>
    intro i hi
    have e : cc D = i := by omega
    subst e
    have hb7 := hW.2.1.1
    have hc12 := hW.2.1.2.1
    refine s_iload (pc := 45) (i := 4) dX12_lied_45 rfl ?_
    refine s_aload_n (pc := 47) (i := 0) dX12_lied_47 rfl rfl ?_
    refine m_gi (pc := 48) dX12_lied_48 ff_X12_157 rfl o_534 ?_
    refine m_nm (v' := nI (cc D)) (hW.1.2.1) ?_
    refine s_icge (pc := 51) (tgt := 108) dX12_lied_51 rfl (fun h51 => ?_) (fun h51 => absurd (nI_le (a := cc D) (b := (cc D)) (by omega) (by omega)) h51)
    refine s_iload_n (pc := 108) (i := 3) dX12_lied_108 rfl rfl ?_
    refine s_ireturn (pc := 109) dX12_lied_109 rfl rfl ?_
    exact hq
  | succ f ih =>
    intro i hi
    have hb7 := hW.2.1.1
    have hc12 := hW.2.1.2.1
    refine s_iload (pc := 45) (i := 4) dX12_lied_45 rfl ?_
    refine s_aload_n (pc := 47) (i := 0) dX12_lied_47 rfl rfl ?_
    refine m_gi (pc := 48) dX12_lied_48 ff_X12_157 rfl o_534 ?_
    refine m_nm (v' := nI (cc D)) (hW.1.2.1) ?_
    refine s_icge (pc := 51) (tgt := 108) dX12_lied_51 rfl (fun h51 => absurd h51 (nI_ge (a := i) (b := cc D) (by omega) (by omega))) (fun h51 => ?_)
    have hL9 := (hW.2.1.2.2.2.2 i (by omega)).2.2
    refine s_iload_n (pc := 54) (i := 3) dX12_lied_54 rfl rfl ?_
    refine s_aload_n (pc := 55) (i := 0) dX12_lied_55 rfl rfl ?_
    refine m_gr (pc := 56) dX12_lied_56 ff_X12_32 rfl o_534 r_534_13 ?_
    refine m_ic (pc := 59) (v := 2) dX12_lied_59 rfl ?_
    refine s_iload (pc := 60) (i := 4) dX12_lied_60 rfl ?_
    refine s_imul (pc := 62) dX12_lied_62 ?_
    refine m_nm (v' := nI (2 * i)) (pk_mul 2 i) ?_
    refine m_ic (pc := 63) (v := 1) dX12_lied_63 rfl ?_
    refine s_iadd (pc := 64) dX12_lied_64 ?_
    refine m_nm (v' := nI ((2 * i) + 1)) (nI_add (2 * i) 1) ?_
    refine m_ia (pc := 65) dX12_lied_65 a_540 (vp_in_nI (n := (2 * i) + 1) (by omega) (by decide)) ?_
    refine m_nm (v' := nI (cL D i)) (rdI (j := (2 * i) + 1) ((hW.1.2.2.2.2 i (by omega)).2) (by omega)) ?_
    refine s_iload_n (pc := 66) (i := 1) dX12_lied_66 rfl rfl ?_
    refine s_iclt (pc := 67) (tgt := 99) dX12_lied_67 rfl (fun h67 => ?_) (fun h67 => ?_)
    · have h67 : (cL D i) < k := (nI_ltI (a := cL D i) (b := k) (by omega) (by omega)).mp h67
      refine m_ic (pc := 99) (v := 0) dX12_lied_99 rfl ?_
      refine s_ior (pc := 100) dX12_lied_100 ?_
      rw [bs_s0 (p := (pL D S k q)) (decide_eq_false (fun z => by omega))]
      refine s_istore_n (pc := 101) (i := 3) dX12_lied_101 rfl (Nat.le_of_ble_eq_true rfl) ?_
      dsimp only [List.set, List.filter]
      refine m_inc (pc := 102) (v := 1) dX12_lied_102 rfl rfl ?_
      dsimp only [List.set, List.filter]
      rw [nI_1]
      refine s_goto (pc := 105) (tgt := 45) dX12_lied_105 rfl ?_
      exact ih (i + 1)  (by omega)
    · have h67 : ¬ (cL D i) < k := fun z => h67 ((nI_ltI (a := cL D i) (b := k) (by omega) (by omega)).mpr z)
      refine s_aload_n (pc := 70) (i := 0) dX12_lied_70 rfl rfl ?_
      refine m_gr (pc := 71) dX12_lied_71 ff_X12_59 rfl o_534 r_534_36 ?_
      refine m_bi (pc := 74) (v := 112) dX12_lied_74 rfl ?_
      refine s_iload (pc := 76) (i := 4) dX12_lied_76 rfl ?_
      refine s_iadd (pc := 78) dX12_lied_78 ?_
      refine m_nm (v' := nI (112 + i)) (nI_add 112 i) ?_
      refine m_ia (pc := 79) dX12_lied_79 a_549 (vp_in_nI (n := 112 + i) (by omega) (by decide)) ?_
      refine m_nm (v' := sN S i) (rdI (j := 112 + i) (hW.2.2.2.2.1.2.2.1 i (by omega)) (by omega)) ?_
      refine s_ifle (pc := 80) (tgt := 87) dX12_lied_80 rfl (fun h80 => ?_) (fun h80 => ?_)
      · skip
        refine m_ic (pc := 87) (v := 1) dX12_lied_87 rfl ?_
        refine s_iload_n (pc := 88) (i := 2) dX12_lied_88 rfl rfl ?_
        refine s_icne (pc := 89) (tgt := 99) dX12_lied_89 rfl (fun h89 => ?_) (fun h89 => ?_)
        · have h89 : ¬ 1 = q := fun z => h89 ((nI_eq (a := 1) (b := q) (by omega) (by omega)).mpr z)
          refine m_ic (pc := 99) (v := 0) dX12_lied_99 rfl ?_
          refine s_ior (pc := 100) dX12_lied_100 ?_
          rw [bs_s0 (p := (pL D S k q)) (decide_eq_false (fun z => absurd (z.2.mpr (by omega)) (Int32.not_lt.mpr h80)))]
          refine s_istore_n (pc := 101) (i := 3) dX12_lied_101 rfl (Nat.le_of_ble_eq_true rfl) ?_
          dsimp only [List.set, List.filter]
          refine m_inc (pc := 102) (v := 1) dX12_lied_102 rfl rfl ?_
          dsimp only [List.set, List.filter]
          rw [nI_1]
          refine s_goto (pc := 105) (tgt := 45) dX12_lied_105 rfl ?_
          exact ih (i + 1)  (by omega)
        · have h89 : 1 = q := (nI_eq (a := 1) (b := q) (by omega) (by omega)).mp h89
          refine m_ic (pc := 92) (v := 1) dX12_lied_92 rfl ?_
          refine s_iload (pc := 93) (i := 4) dX12_lied_93 rfl ?_
          refine s_ishl (pc := 95) dX12_lied_95 ?_
          refine s_goto (pc := 96) (tgt := 100) dX12_lied_96 rfl ?_
          refine s_ior (pc := 100) dX12_lied_100 ?_
          rw [bs_s1 (p := (pL D S k q)) (by omega) (decide_eq_true ⟨by omega, fun z => absurd h80 (Int32.not_le.mpr z), fun z => by omega⟩)]
          refine s_istore_n (pc := 101) (i := 3) dX12_lied_101 rfl (Nat.le_of_ble_eq_true rfl) ?_
          dsimp only [List.set, List.filter]
          refine m_inc (pc := 102) (v := 1) dX12_lied_102 rfl rfl ?_
          dsimp only [List.set, List.filter]
          rw [nI_1]
          refine s_goto (pc := 105) (tgt := 45) dX12_lied_105 rfl ?_
          exact ih (i + 1)  (by omega)
      · skip
        refine m_ic (pc := 83) (v := 0) dX12_lied_83 rfl ?_
        refine s_goto (pc := 84) (tgt := 88) dX12_lied_84 rfl ?_
        refine s_iload_n (pc := 88) (i := 2) dX12_lied_88 rfl rfl ?_
        refine s_icne (pc := 89) (tgt := 99) dX12_lied_89 rfl (fun h89 => ?_) (fun h89 => ?_)
        · have h89 : ¬ 0 = q := fun z => h89 ((nI_eq (a := 0) (b := q) (by omega) (by omega)).mpr z)
          refine m_ic (pc := 99) (v := 0) dX12_lied_99 rfl ?_
          refine s_ior (pc := 100) dX12_lied_100 ?_
          rw [bs_s0 (p := (pL D S k q)) (decide_eq_false (fun z => h89 (z.2.mp (Int32.not_le.mp h80)).symm))]
          refine s_istore_n (pc := 101) (i := 3) dX12_lied_101 rfl (Nat.le_of_ble_eq_true rfl) ?_
          dsimp only [List.set, List.filter]
          refine m_inc (pc := 102) (v := 1) dX12_lied_102 rfl rfl ?_
          dsimp only [List.set, List.filter]
          rw [nI_1]
          refine s_goto (pc := 105) (tgt := 45) dX12_lied_105 rfl ?_
          exact ih (i + 1)  (by omega)
        · have h89 : 0 = q := (nI_eq (a := 0) (b := q) (by omega) (by omega)).mp h89
          refine m_ic (pc := 92) (v := 1) dX12_lied_92 rfl ?_
          refine s_iload (pc := 93) (i := 4) dX12_lied_93 rfl ?_
          refine s_ishl (pc := 95) dX12_lied_95 ?_
          refine s_goto (pc := 96) (tgt := 100) dX12_lied_96 rfl ?_
          refine s_ior (pc := 100) dX12_lied_100 ?_
          rw [bs_s1 (p := (pL D S k q)) (by omega) (decide_eq_true ⟨by omega, fun _ => h89.symm, fun _ => Int32.not_le.mp h80⟩)]
          refine s_istore_n (pc := 101) (i := 3) dX12_lied_101 rfl (Nat.le_of_ble_eq_true rfl) ?_
          dsimp only [List.set, List.filter]
          refine m_inc (pc := 102) (v := 1) dX12_lied_102 rfl rfl ?_
          dsimp only [List.set, List.filter]
          rw [nI_1]
          refine s_goto (pc := 105) (tgt := 45) dX12_lied_105 rfl ?_
          exact ih (i + 1)  (by omega)
theorem c_X12_lied (hW : Wn I D cs S) {x y : Int32} (r0 : ¬ iv 0 (10) x → Q (.inl (some (.int 0))) (Z (thr I 1 1) J n w)) (r1 : iv 0 (10) x → ¬ iv 0 (2) y → Q (.inl (some (.int 0))) (Z (thr I 1 1) J n w)) (hg : ∀ k, ∀ q, x = nI k → k < 10 → y = nI q → q < 2 → ∀ I', km I I' → I' 534 0 = 0 → Q (.inl (some (.int (nI (bs (pL D S k q) (cc D)))))) (Z I' J n w)) : Cn g (d + 2) mX12_lied [.ref 534, .int x, .int y] (Z I J n w) Q := by
  have hb7 := hW.2.1.1
  have hc12 := hW.2.1.2.1
  show Rn g (d + 2) mX12_lied 0 [.ref 534, .int x, .int y, .retAddr 0, .retAddr 0] [] [] (Z I J n w) Q
  refine s_aload_n (pc := 0) (i := 0) dX12_lied_0 rfl rfl ?_
  refine m_ic (pc := 1) (v := 0) dX12_lied_1 rfl ?_
  refine m_pi (pc := 2) dX12_lied_2 ff_X12_3 rfl rfl o_534 ?_
  refine s_aload_n (pc := 5) (i := 0) dX12_lied_5 rfl rfl ?_
  refine s_iload_n (pc := 6) (i := 1) dX12_lied_6 rfl rfl ?_
  refine m_ic (pc := 7) (v := 0) dX12_lied_7 rfl ?_
  refine m_bi (pc := 8) (v := 9) dX12_lied_8 rfl ?_
  refine m_s3 (pc := 10) dX12_lied_10 lk_X12_373 ok_X12_within rfl rfl (c_win (lo := 0) (m := 10) rfl rfl (by omega) (fun k ek lk hk => kt_s ?_) (fun z => kt_s ?_))
  · subst ek
    refine s_ifeq (pc := 13) (tgt := 29) dX12_lied_13 rfl (fun h13 => absurd h13 (by decide)) (fun h13 => ?_)
    refine s_iload_n (pc := 16) (i := 2) dX12_lied_16 rfl rfl ?_
    refine m_ic (pc := 17) (v := 0) dX12_lied_17 rfl ?_
    refine m_ic (pc := 18) (v := 1) dX12_lied_18 rfl ?_
    refine m_s3 (pc := 19) dX12_lied_19 lk_X12_373 ok_X12_within rfl rfl (c_win (lo := 0) (m := 2) rfl rfl (by omega) (fun q eq lq hq => kt_s ?_) (fun z => kt_s ?_))
    · subst eq
      refine s_ifeq (pc := 22) (tgt := 29) dX12_lied_22 rfl (fun h22 => absurd h22 (by decide)) (fun h22 => ?_)
      refine m_ic (pc := 25) (v := 1) dX12_lied_25 rfl ?_
      refine s_goto (pc := 26) (tgt := 30) dX12_lied_26 rfl ?_
      refine m_ic (pc := 30) (v := 1) dX12_lied_30 rfl ?_
      refine m_ic (pc := 31) (v := 1) dX12_lied_31 rfl ?_
      refine m_v3 (pc := 32) dX12_lied_32 lk_X12_192 ok_X12_may (rcO o_534 (by decide) rfl) rfl rfl (c_may1 (k := 1) (by decide) rfl up_s (by decide) (kt_s ?_))
      · refine s_ifne (pc := 35) (tgt := 40) dX12_lied_35 rfl (fun h35 => ?_) (fun h35 => absurd h35 (by decide))
        refine m_ic (pc := 40) (v := 0) dX12_lied_40 rfl ?_
        refine s_istore_n (pc := 41) (i := 3) dX12_lied_41 rfl (Nat.le_of_ble_eq_true rfl) ?_
        dsimp only [List.set, List.filter]
        refine m_ic (pc := 42) (v := 0) dX12_lied_42 rfl ?_
        refine s_istore (pc := 43) (i := 4) dX12_lied_43 (Nat.le_of_ble_eq_true rfl) ?_
        dsimp only [List.set, List.filter]
        exact mlie_lp (Wn_0 hW) hk hq (hg k q rfl hk rfl hq _ th_k up_s) (cc D) 0 (by omega)
    · refine s_ifeq (pc := 22) (tgt := 29) dX12_lied_22 rfl (fun h22 => ?_) (fun h22 => absurd h22 (by decide))
      refine m_ic (pc := 29) (v := 0) dX12_lied_29 rfl ?_
      refine m_ic (pc := 30) (v := 1) dX12_lied_30 rfl ?_
      refine m_ic (pc := 31) (v := 1) dX12_lied_31 rfl ?_
      refine m_v3 (pc := 32) dX12_lied_32 lk_X12_192 ok_X12_may (rcO o_534 (by decide) rfl) rfl rfl (c_may0 (k := 1) (by decide) rfl up_s (by decide) (kt_s ?_))
      · refine s_ifne (pc := 35) (tgt := 40) dX12_lied_35 rfl (fun h35 => absurd h35 (by decide)) (fun h35 => ?_)
        refine m_ic (pc := 38) (v := 0) dX12_lied_38 rfl ?_
        refine s_ireturn (pc := 39) dX12_lied_39 rfl rfl ?_
        rw [thr_0]
        exact r1 ⟨k, rfl, Nat.zero_le _, hk⟩ z
  · refine s_ifeq (pc := 13) (tgt := 29) dX12_lied_13 rfl (fun h13 => ?_) (fun h13 => absurd h13 (by decide))
    refine m_ic (pc := 29) (v := 0) dX12_lied_29 rfl ?_
    refine m_ic (pc := 30) (v := 1) dX12_lied_30 rfl ?_
    refine m_ic (pc := 31) (v := 1) dX12_lied_31 rfl ?_
    refine m_v3 (pc := 32) dX12_lied_32 lk_X12_192 ok_X12_may (rcO o_534 (by decide) rfl) rfl rfl (c_may0 (k := 1) (by decide) rfl up_s (by decide) (kt_s ?_))
    · refine s_ifne (pc := 35) (tgt := 40) dX12_lied_35 rfl (fun h35 => absurd h35 (by decide)) (fun h35 => ?_)
      refine m_ic (pc := 38) (v := 0) dX12_lied_38 rfl ?_
      refine s_ireturn (pc := 39) dX12_lied_39 rfl rfl ?_
      rw [thr_0]
      exact r0  z
end S
