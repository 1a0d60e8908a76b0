section S
variable {g : aG} {d : Nat} {I : Nat → Nat → Int32} {J : Nat → Nat → Int64} {n w : Nat} {Q : aO → aS → Prop}
variable {σ : aS} {S : sD} {D : cD} {cs : List Nat} {a b c k v : Nat} {B : Nat → Option Nat}
theorem wo_lp (hW : Wm I D cs S) (hB : Bm I 553 B) (hbk : bOk B) (ha : a < cb D) (hq : ∀ I', fmL I I' → Q (.inl (some (.int (nI (wLf D cs S B a))))) (Z I' J n w)) : ∀ f i I1 (v4 : Value) (v5 : Value), i + f = cb D → fmL I I1 → (∀ u, u < 1000 → I1 557 u = nI ((fTb D cs S B a i 0) u)) → Rn g (d + 8) mX12_worstOf 26 [.ref 534, .int (nI a), .int (nI (mxv (fTb D cs S B a i 0) 1000)), .int (nI i), v4, v5] [] [] (Z I1 J n w) Q := by
  intro f
  induction f with
  | zero =>
    intro i I1 v4 v5 hi hF hM
    have e : cb D = i := by omega
    subst e
    have hb7 := hW.2.1.1
    have hc12 := hW.2.1.2.1
    refine s_iload_n (pc := 26) (i := 3) dX12_worstOf_26 rfl rfl ?_
    refine s_aload_n (pc := 27) (i := 0) dX12_worstOf_27 rfl rfl ?_
    refine m_gi (pc := 28) dX12_worstOf_28 ff_X12_154 rfl o_534 ?_
    refine m_nm (v' := nI (cb D)) ((Wm_L hW hF).1.1) ?_
    refine s_icge (pc := 31) (tgt := 115) dX12_worstOf_31 rfl (fun h31 => ?_) (fun h31 => absurd (nI_le (a := cb D) (b := (cb D)) (by omega) (by omega)) h31)
    refine s_iload_n (pc := 115) (i := 2) dX12_worstOf_115 rfl rfl ?_
    refine s_ireturn (pc := 116) dX12_worstOf_116 rfl rfl ?_
    have h := hq I1 hF
    rw [← wM_eq hW.2.1 (hW.2.2.2.2.2.1 a).1, ← fTb_e] at h; exact h
  | succ f ih =>
    intro i I1 v4 v5 hi hF hM
    have hb7 := hW.2.1.1
    have hc12 := hW.2.1.2.1
    refine s_iload_n (pc := 26) (i := 3) dX12_worstOf_26 rfl rfl ?_
    refine s_aload_n (pc := 27) (i := 0) dX12_worstOf_27 rfl rfl ?_
    refine m_gi (pc := 28) dX12_worstOf_28 ff_X12_154 rfl o_534 ?_
    refine m_nm (v' := nI (cb D)) ((Wm_L hW hF).1.1) ?_
    refine s_icge (pc := 31) (tgt := 115) dX12_worstOf_31 rfl (fun h31 => absurd h31 (nI_ge (a := i) (b := cb D) (by omega) (by omega))) (fun h31 => ?_)
    refine m_ic (pc := 34) (v := 0) dX12_worstOf_34 rfl ?_
    refine s_istore (pc := 35) (i := 4) dX12_worstOf_35 (Nat.le_of_ble_eq_true rfl) ?_
    dsimp only [List.set, List.filter]
    refine wi_lp (Wm_L hW hF) (Bm_L hB hF) hbk ha (by omega) (fun I2 w5 f2 h2 => ?_) (cc D) 0 I1 _ (by omega) fmL_r hM
    refine m_inc (pc := 109) (v := 1) dX12_worstOf_109 rfl rfl ?_
    dsimp only [List.set, List.filter]
    rw [nI_1]
    refine s_goto (pc := 112) (tgt := 26) dX12_worstOf_112 rfl ?_
    rw [← fTb_s]
    exact ih (i + 1) I2 _ _ (by omega) (fmL_t hF f2) (by rw [fTb_s]; exact h2)
theorem c_X12_worstOf (hW : Wm I D cs S) (hB : Bm I 553 B) (hbk : bOk B) (ha : a < cb D) (hq : ∀ I', fmL I I' → Q (.inl (some (.int (nI (wLf D cs S B a))))) (Z I' J n w)) : Cn g (d + 8) mX12_worstOf [.ref 534, .int (nI a)] (Z I J n w) Q := by
  show Rn g (d + 8) mX12_worstOf 0 [.ref 534, .int (nI a), .retAddr 0, .retAddr 0, .retAddr 0, .retAddr 0] [] [] (Z I J n w) Q
  refine m_ic (pc := 0) (v := 0) dX12_worstOf_0 rfl ?_
  refine s_istore_n (pc := 1) (i := 2) dX12_worstOf_1 rfl (Nat.le_of_ble_eq_true rfl) ?_
  dsimp only [List.set, List.filter]
  refine wz_lp (fun I1 f1 h1 => ?_) 1000 0 I (by omega) fmL_r (fun u hu => absurd hu (Nat.not_lt_zero _))
  refine m_ic (pc := 22) (v := 0) dX12_worstOf_22 rfl ?_
  refine s_istore_n (pc := 23) (i := 2) dX12_worstOf_23 rfl (Nat.le_of_ble_eq_true rfl) ?_
  dsimp only [List.set, List.filter]
  refine m_ic (pc := 24) (v := 0) dX12_worstOf_24 rfl ?_
  refine s_istore_n (pc := 25) (i := 3) dX12_worstOf_25 rfl (Nat.le_of_ble_eq_true rfl) ?_
  dsimp only [List.set, List.filter]
  have E : mxv (fTb D cs S B a 0 0) 1000 = 0 := (mxv_c 1000 (fun _ _ => rfl)).trans (mxv_z 1000)
  have h := fun v4 v5 : Value => wo_lp (g := g) (d := d) (J := J) (n := n) (w := w) hW hB hbk ha hq (cb D) 0 I1 v4 v5 (by omega) f1 (fun u hu => h1 u hu)
  simp only [E] at h; exact h _ _
theorem mlk_lp {q : Nat} (hq2 : q < 2) (hW : Wm I D cs S) (hB : Bm I 553 B) (hbk : bOk B) (hq : ∀ I', fmL I I' → Q (.inl (some (.int (vLk D cs S B q)))) (Z I' J n w)) : ∀ f i I1 (v5 : Value), i + f = cb D → fmL I I1 → Rn g (d + 9) mX12_look 33 [.ref 534, .int (nI q), .int (l1 (lkA (wLf D cs S B) B i)), .int (l2 (lkA (wLf D cs S B) B i)), .int (nI i), v5] [] [] (Z I1 J n w) Q := by
  intro f
  induction f with
  | zero =>
    intro i I1 v5 hi hF
    have e : cb D = i := by omega
    subst e
    have hb7 := hW.2.1.1
    have hc12 := hW.2.1.2.1
    refine s_iload (pc := 33) (i := 4) dX12_look_33 rfl ?_
    refine s_aload_n (pc := 35) (i := 0) dX12_look_35 rfl rfl ?_
    refine m_gi (pc := 36) dX12_look_36 ff_X12_154 rfl o_534 ?_
    refine m_nm (v' := nI (cb D)) ((Wm_L hW hF).1.1) ?_
    refine s_icge (pc := 39) (tgt := 90) dX12_look_39 rfl (fun h39 => ?_) (fun h39 => absurd (nI_le (a := cb D) (b := (cb D)) (by omega) (by omega)) h39)
    refine s_iload_n (pc := 90) (i := 1) dX12_look_90 rfl rfl ?_
    refine s_ifne (pc := 91) (tgt := 98) dX12_look_91 rfl (fun h91 => ?_) (fun h91 => ?_)
    · have h91 : ¬ q = 0 := fun z => h91 ((nI_eq (a := q) (b := 0) (by omega) (by omega)).mpr z)
      refine s_iload_n (pc := 98) (i := 3) dX12_look_98 rfl rfl ?_
      refine s_ireturn (pc := 99) dX12_look_99 rfl rfl ?_
      have E : vLk D cs S B q = l2 (lkA (wLf D cs S B) B (cb D)) := if_neg h91
      have h := hq I1 hF
      rw [E] at h; exact h
    · have h91 : q = 0 := (nI_eq (a := q) (b := 0) (by omega) (by omega)).mp h91
      refine s_iload_n (pc := 94) (i := 2) dX12_look_94 rfl rfl ?_
      refine s_goto (pc := 95) (tgt := 99) dX12_look_95 rfl ?_
      refine s_ireturn (pc := 99) dX12_look_99 rfl rfl ?_
      have E : vLk D cs S B q = l1 (lkA (wLf D cs S B) B (cb D)) := if_pos h91
      have h := hq I1 hF
      rw [E] at h; exact h
  | succ f ih =>
    intro i I1 v5 hi hF
    have hb7 := hW.2.1.1
    have hc12 := hW.2.1.2.1
    refine s_iload (pc := 33) (i := 4) dX12_look_33 rfl ?_
    refine s_aload_n (pc := 35) (i := 0) dX12_look_35 rfl rfl ?_
    refine m_gi (pc := 36) dX12_look_36 ff_X12_154 rfl o_534 ?_
    refine m_nm (v' := nI (cb D)) ((Wm_L hW hF).1.1) ?_
    refine s_icge (pc := 39) (tgt := 90) dX12_look_39 rfl (fun h39 => absurd h39 (nI_ge (a := i) (b := cb D) (by omega) (by omega))) (fun h39 => ?_)
    refine s_aload_n (pc := 42) (i := 0) dX12_look_42 rfl rfl ?_
    refine m_gr (pc := 43) dX12_look_43 ff_X12_71 rfl o_534 r_534_40 ?_
    refine s_iload (pc := 46) (i := 4) dX12_look_46 rfl ?_
    refine m_ia (pc := 48) dX12_look_48 a_553 (vp_in_nI (n := i) (by omega) (by decide)) ?_
    refine m_nm (v' := ob (B i)) (rdI (j := i) ((Bm_L hB hF) i (by omega)) (by omega)) ?_
    refine m_ic (pc := 49) (v := -1) dX12_look_49 rfl ?_
    refine s_iceq (pc := 50) (tgt := 56) dX12_look_50 rfl (fun h50 => ?_) (fun h50 => ?_)
    · have z := (ob_no hbk).mp h50
      refine s_aload_n (pc := 56) (i := 0) dX12_look_56 rfl rfl ?_
      refine s_iload (pc := 57) (i := 4) dX12_look_57 rfl ?_
      refine m_v1 (pc := 59) dX12_look_59 lk_X12_422 ok_X12_worstOf (rcO o_534 (by decide) rfl) rfl rfl (c_X12_worstOf (Wm_L hW hF) (Bm_L hB hF) hbk (by omega) (fun I2 f2 => kt_s ?_))
      refine s_istore (pc := 62) (i := 5) dX12_look_62 (Nat.le_of_ble_eq_true rfl) ?_
      dsimp only [List.set, List.filter]
      rcases eo : (lkA (wLf D cs S B) B i) with _ | ⟨x, y⟩
      · skip
        refine s_iload_n (pc := 64) (i := 2) dX12_look_64 rfl rfl ?_
        refine m_nm (v' := -1) (rfl) ?_
        refine m_ic (pc := 65) (v := -1) dX12_look_65 rfl ?_
        refine s_iceq (pc := 66) (tgt := 78) dX12_look_66 rfl (fun h66 => ?_) (fun h66 => absurd h66 (by decide))
        refine s_iload (pc := 78) (i := 4) dX12_look_78 rfl ?_
        refine s_istore_n (pc := 80) (i := 2) dX12_look_80 rfl (Nat.le_of_ble_eq_true rfl) ?_
        dsimp only [List.set, List.filter]
        refine s_iload (pc := 81) (i := 5) dX12_look_81 rfl ?_
        refine s_istore_n (pc := 83) (i := 3) dX12_look_83 rfl (Nat.le_of_ble_eq_true rfl) ?_
        dsimp only [List.set, List.filter]
        refine m_inc (pc := 84) (v := 1) dX12_look_84 rfl rfl ?_
        dsimp only [List.set, List.filter]
        rw [nI_1]
        refine s_goto (pc := 87) (tgt := 33) dX12_look_87 rfl ?_
        have E := lk_0 (f := wLf D cs S B) z eo
        have h := ih (i + 1) I2 (.int (nI (wLf D cs S B i))) (by omega) (fmL_t hF f2)
        rw [E] at h; exact h
      · have hxy := lk_lt i x y (fun j hj => wLf_le (cs := cs) (S := S) (B := B) (a := j) (show j < cb D by omega) hW.2.1) eo
        have hx := hxy.1
        have hy := hxy.2
        have hw := wLf_le (cs := cs) (S := S) (B := B) (a := i) (show i < cb D by omega) hW.2.1
        refine s_iload_n (pc := 64) (i := 2) dX12_look_64 rfl rfl ?_
        refine m_nm (v' := nI x) (rfl) ?_
        refine m_ic (pc := 65) (v := -1) dX12_look_65 rfl ?_
        refine s_iceq (pc := 66) (tgt := 78) dX12_look_66 rfl (fun h66 => absurd h66 (nI_m1 (by omega))) (fun h66 => ?_)
        refine s_iload (pc := 69) (i := 5) dX12_look_69 rfl ?_
        refine s_iload_n (pc := 71) (i := 3) dX12_look_71 rfl rfl ?_
        refine m_nm (v' := nI y) (rfl) ?_
        refine s_iclt (pc := 72) (tgt := 78) dX12_look_72 rfl (fun h72 => ?_) (fun h72 => ?_)
        · have h72 : (wLf D cs S B i) < y := (nI_ltI (a := wLf D cs S B i) (b := y) (by omega) (by omega)).mp h72
          refine s_iload (pc := 78) (i := 4) dX12_look_78 rfl ?_
          refine s_istore_n (pc := 80) (i := 2) dX12_look_80 rfl (Nat.le_of_ble_eq_true rfl) ?_
          dsimp only [List.set, List.filter]
          refine s_iload (pc := 81) (i := 5) dX12_look_81 rfl ?_
          refine s_istore_n (pc := 83) (i := 3) dX12_look_83 rfl (Nat.le_of_ble_eq_true rfl) ?_
          dsimp only [List.set, List.filter]
          refine m_inc (pc := 84) (v := 1) dX12_look_84 rfl rfl ?_
          dsimp only [List.set, List.filter]
          rw [nI_1]
          refine s_goto (pc := 87) (tgt := 33) dX12_look_87 rfl ?_
          have E := lk_y (f := wLf D cs S B) z eo (by omega)
          have h := ih (i + 1) I2 (.int (nI (wLf D cs S B i))) (by omega) (fmL_t hF f2)
          rw [E] at h; exact h
        · have h72 : ¬ (wLf D cs S B i) < y := fun z => h72 ((nI_ltI (a := wLf D cs S B i) (b := y) (by omega) (by omega)).mpr z)
          refine s_goto (pc := 75) (tgt := 84) dX12_look_75 rfl ?_
          refine m_inc (pc := 84) (v := 1) dX12_look_84 rfl rfl ?_
          dsimp only [List.set, List.filter]
          rw [nI_1]
          refine s_goto (pc := 87) (tgt := 33) dX12_look_87 rfl ?_
          have E := lk_n (f := wLf D cs S B) z eo (by omega)
          have h := ih (i + 1) I2 (.int (nI (wLf D cs S B i))) (by omega) (fmL_t hF f2)
          rw [E, eo] at h; exact h
    · have z := ts_nf (fun y => h50 ((ob_no hbk).mpr y))
      refine s_goto (pc := 53) (tgt := 84) dX12_look_53 rfl ?_
      refine m_inc (pc := 84) (v := 1) dX12_look_84 rfl rfl ?_
      dsimp only [List.set, List.filter]
      rw [nI_1]
      refine s_goto (pc := 87) (tgt := 33) dX12_look_87 rfl ?_
      have E := lk_s (f := wLf D cs S B) z
      have h := ih (i + 1) I1 v5 (by omega) hF
      rw [E] at h; exact h
theorem c_X12_look (hW : Wn I D cs S) (hB : Bm I 553 B) (hbk : bOk B) {x : Int32} (r0 : ¬ iv 0 (2) x → Q (.inl (some (.int 0))) (Z (thr I 1 1) J n w)) (hg : ∀ q, x = nI q → q < 2 → ∀ I', km I I' → I' 534 0 = 0 → Q (.inl (some (.int (vLk D cs S B q)))) (Z I' J n w)) : Cn g (d + 9) mX12_look [.ref 534, .int x] (Z I J n w) Q := by
  have hb7 := hW.2.1.1
  have hc12 := hW.2.1.2.1
  show Rn g (d + 9) mX12_look 0 [.ref 534, .int x, .retAddr 0, .retAddr 0, .retAddr 0, .retAddr 0] [] [] (Z I J n w) Q
  refine s_aload_n (pc := 0) (i := 0) dX12_look_0 rfl rfl ?_
  refine m_ic (pc := 1) (v := 0) dX12_look_1 rfl ?_
  refine m_pi (pc := 2) dX12_look_2 ff_X12_3 rfl rfl o_534 ?_
  refine s_aload_n (pc := 5) (i := 0) dX12_look_5 rfl rfl ?_
  refine s_iload_n (pc := 6) (i := 1) dX12_look_6 rfl rfl ?_
  refine m_ic (pc := 7) (v := 0) dX12_look_7 rfl ?_
  refine m_ic (pc := 8) (v := 1) dX12_look_8 rfl ?_
  refine m_s3 (pc := 9) dX12_look_9 lk_X12_373 ok_X12_within rfl rfl (c_win (lo := 0) (m := 2) rfl rfl (by omega) (fun q eq lq hq => kt_s ?_) (fun z => kt_s ?_))
  · subst eq
    refine m_ic (pc := 12) (v := 1) dX12_look_12 rfl ?_
    refine m_ic (pc := 13) (v := 1) dX12_look_13 rfl ?_
    refine m_v3 (pc := 14) dX12_look_14 lk_X12_192 ok_X12_may (rcO o_534 (by decide) rfl) rfl rfl (c_may1 (k := 1) (by decide) rfl up_s (by decide) (kt_s ?_))
    · refine s_ifne (pc := 17) (tgt := 22) dX12_look_17 rfl (fun h17 => ?_) (fun h17 => absurd h17 (by decide))
      refine s_aload_n (pc := 22) (i := 0) dX12_look_22 rfl rfl ?_
      refine m_v0 (pc := 23) dX12_look_23 lk_X12_310 ok_X12_take (rcO o_534 (by decide) rfl) rfl rfl (c_X12_take (kt_v ?_))
      have hM := tk_W hW
      have hK := tk_k (I := I)
      have h00 := tk_0 (I := I)
      obtain ⟨I1, e1⟩ : ∃ z, z = cpI (up I 534 0 0) 549 550 126 := ⟨_, rfl⟩
      rw [← e1] at hM hK h00 ⊢
      have hB1 : Bm I1 553 B := fun j hj => (hK 553 j (by unfold mS; omega)).trans (hB j hj)
      refine m_ic (pc := 26) (v := -1) dX12_look_26 rfl ?_
      refine s_istore_n (pc := 27) (i := 2) dX12_look_27 rfl (Nat.le_of_ble_eq_true rfl) ?_
      dsimp only [List.set, List.filter]
      refine m_ic (pc := 28) (v := -1) dX12_look_28 rfl ?_
      refine s_istore_n (pc := 29) (i := 3) dX12_look_29 rfl (Nat.le_of_ble_eq_true rfl) ?_
      dsimp only [List.set, List.filter]
      refine m_ic (pc := 30) (v := 0) dX12_look_30 rfl ?_
      refine s_istore (pc := 31) (i := 4) dX12_look_31 (Nat.le_of_ble_eq_true rfl) ?_
      dsimp only [List.set, List.filter]
      exact mlk_lp hq hM hB1 hbk (fun I' f => hg q rfl hq I' (km_t hK (fmL_km f)) ((f 534 0 (by decide) (by decide) (by decide)).trans h00)) (cb D) 0 I1 _ (by omega) fmL_r
  · refine m_ic (pc := 12) (v := 1) dX12_look_12 rfl ?_
    refine m_ic (pc := 13) (v := 1) dX12_look_13 rfl ?_
    refine m_v3 (pc := 14) dX12_look_14 lk_X12_192 ok_X12_may (rcO o_534 (by decide) rfl) rfl rfl (c_may0 (k := 1) (by decide) rfl up_s (by decide) (kt_s ?_))
    · refine s_ifne (pc := 17) (tgt := 22) dX12_look_17 rfl (fun h17 => absurd h17 (by decide)) (fun h17 => ?_)
      refine m_ic (pc := 20) (v := 0) dX12_look_20 rfl ?_
      refine s_ireturn (pc := 21) dX12_look_21 rfl rfl ?_
      rw [thr_0]
      exact r0  z
end S
