section S
variable {g : aG} {d : Nat} {I : Nat → Nat → Int32} {J : Nat → Nat → Int64} {n w : Nat} {Q : aO → aS → Prop}
variable {σ : aS} {S : sD} {D : cD} {cs : List Nat} {a b c k v : Nat} {B : Nat → Option Nat}
def fmL (I I' : Nat → Nat → Int32) : Prop := ∀ x j, x ≠ 545 → x ≠ 546 → x ≠ 557 → I' x j = I x j
theorem fmL_r : fmL I I := fun _ _ _ _ _ => rfl
theorem fmL_t {I' I'' : Nat → Nat → Int32} (h : fmL I I') (h2 : fmL I' I'') : fmL I I'' := fun x j a b c => (h2 x j a b c).trans (h x j a b c)
theorem fmL_m {I' I'' : Nat → Nat → Int32} (h : fmL I I') (h2 : fm I' I'') : fmL I I'' := fun x j a b c => (h2 x j a b).trans (h x j a b c)
theorem fmL_u {I' : Nat → Nat → Int32} {j : Nat} {x : Int32} (h : fmL I I') : fmL I (up I' 557 j x) := fun y t a b c => (up_a c).trans (h y t a b c)
theorem fmL_km {I' : Nat → Nat → Int32} (h : fmL I I') : km I I' := fun x j z => h x j (fun e => z (by unfold mS; omega)) (fun e => z (by unfold mS; omega)) (fun e => z (by unfold mS; omega))
theorem Wm_L {I' : Nat → Nat → Int32} (h : Wm I D cs S) (hf : fmL I I') : Wm I' D cs S := ⟨Mo_fr h.1 (fun x j _ => hf x j (by omega) (by omega) (by omega)), h.2.1, Lq_fr h.2.2.1 (fun x j _ => hf x j (by omega) (by omega) (by omega)), h.2.2.2.1, Sm_fr h.2.2.2.2.1 (fun j _ => hf 550 j (by decide) (by decide) (by decide)), h.2.2.2.2.2⟩
theorem Bm_L {I' : Nat → Nat → Int32} (h : Bm I 553 B) (hf : fmL I I') : Bm I' 553 B := fun j hj => (hf 553 j (by decide) (by decide) (by decide)).trans (h j hj)
/-- the table after b rows and i of the row b -/
def fTb (D : cD) (cs : List Nat) (S : sD) (B : Nat → Option Nat) (a b i u : Nat) : Nat := cnv (fiP D cs S B) (kM D cs S a) (cc D) b u + cnr (fiP D cs S B) (kM D cs S a) u b i
theorem fTb_e : fTb D cs S B a b 0 = cnv (fiP D cs S B) (kM D cs S a) (cc D) b := funext fun u => Nat.add_zero _
theorem fTb_s : fTb D cs S B a (b + 1) 0 = fTb D cs S B a b (cc D) := funext fun u => Nat.add_zero _
theorem fTb_n {i u : Nat} (h : fiP D cs S B b i = false) : fTb D cs S B a b (i + 1) u = fTb D cs S B a b i u := by unfold fTb cnr; rw [bc_nn (by rw [h]; rfl)]
theorem fTb_y {i : Nat} (h : fiP D cs S B b i = true) : fTb D cs S B a b (i + 1) (kM D cs S a b i) = fTb D cs S B a b i (kM D cs S a b i) + 1 := by unfold fTb cnr; rw [bc_yy (by rw [h]; simp)]; rfl
theorem fTb_o {i u : Nat} (h : u ≠ kM D cs S a b i) : fTb D cs S B a b (i + 1) u = fTb D cs S B a b i u := by unfold fTb cnr; rw [bc_nn (by rw [decide_eq_false (fun z => h z.symm)]; simp)]
theorem fTb_le {i u : Nat} (hk : cOk D) (hb : b ≤ 7) (hi : i ≤ 12) : fTb D cs S B a b i u ≤ 96 := by
  have h1 : cnr (fiP D cs S B) (kM D cs S a) u b i ≤ i := bc_le _ _
  have h2 : cnv (fiP D cs S B) (kM D cs S a) (cc D) b u ≤ b * cc D := fb_sm_bound (fun j _ => bc_le _ _)
  have h3 := Nat.mul_le_mul hb hk.2.1
  unfold fTb; omega
theorem fTb_f {i : Nat} (h : fiP D cs S B b i = false) : fTb D cs S B a b (i + 1) = fTb D cs S B a b i := funext fun _ => fTb_n h
theorem fTb_z {u : Nat} : fTb D cs S B a 0 0 u = 0 := rfl
theorem mxv_z : ∀ m, mxv (fun _ => 0) m = 0
  | 0 => rfl
  | m + 1 => by rw [mxv_1, mxv_z m]; rfl
theorem wz_lp (hc : ∀ I', fmL I I' → (∀ u, u < 1000 → I' 557 u = 0) → Rn g (d + 8) mX12_worstOf 22 [.ref 534, .int (nI a), .int (nI 1000), .retAddr 0, .retAddr 0, .retAddr 0] [] [] (Z I' J n w) Q) : ∀ f i I1, i + f = 1000 → fmL I I1 → (∀ u, u < i → I1 557 u = 0) → Rn g (d + 8) mX12_worstOf 2 [.ref 534, .int (nI a), .int (nI i), .retAddr 0, .retAddr 0, .retAddr 0] [] [] (Z I1 J n w) Q := by
  intro f
  induction f with
  | zero =>
    intro i I1 hi hF hM
    have e : 1000 = i := by omega
    subst e
    refine s_iload_n (pc := 2) (i := 2) dX12_worstOf_2 rfl rfl ?_
    refine m_si (pc := 3) (v := 1000) dX12_worstOf_3 rfl ?_
    refine s_icge (pc := 6) (tgt := 22) dX12_worstOf_6 rfl (fun h6 => ?_) (fun h6 => absurd (nI_le (a := 1000) (b := 1000) (by omega) (by omega)) h6)
    exact hc I1 hF hM
  | succ f ih =>
    intro i I1 hi hF hM
    refine s_iload_n (pc := 2) (i := 2) dX12_worstOf_2 rfl rfl ?_
    refine m_si (pc := 3) (v := 1000) dX12_worstOf_3 rfl ?_
    refine s_icge (pc := 6) (tgt := 22) dX12_worstOf_6 rfl (fun h6 => absurd h6 (nI_ge (a := i) (b := 1000) (by omega) (by omega))) (fun h6 => ?_)
    refine s_aload_n (pc := 9) (i := 0) dX12_worstOf_9 rfl rfl ?_
    refine m_gr (pc := 10) dX12_worstOf_10 ff_X12_83 rfl o_534 r_534_46 ?_
    refine s_iload_n (pc := 13) (i := 2) dX12_worstOf_13 rfl rfl ?_
    refine m_ic (pc := 14) (v := 0) dX12_worstOf_14 rfl ?_
    refine m_is (pc := 15) dX12_worstOf_15 a_557 (vp_in_nI (n := i) (by omega) (by decide)) ?_
    rw [nI_clamp (n := i) (by omega)]
    refine m_inc (pc := 16) (v := 1) dX12_worstOf_16 rfl rfl ?_
    dsimp only [List.set, List.filter]
    rw [nI_1]
    refine s_goto (pc := 19) (tgt := 2) dX12_worstOf_19 rfl ?_
    refine ih (i + 1) _ (by omega) (fmL_u hF) (fun u hu => ?_)
    by_cases e : u = i
    · subst e; exact up_s
    · rw [up_k e]; exact hM u (by omega)
theorem wi_lp (hW : Wm I D cs S) (hB : Bm I 553 B) (hbk : bOk B) (ha : a < cb D) (hb : b < cb D) (hc : ∀ I' v5, fmL I I' → (∀ u, u < 1000 → I' 557 u = nI ((fTb D cs S B a b (cc D)) u)) → Rn g (d + 8) mX12_worstOf 109 [.ref 534, .int (nI a), .int (nI (mxv (fTb D cs S B a b (cc D)) 1000)), .int (nI b), .int (nI (cc D)), v5] [] [] (Z I' J n w) Q) : ∀ f i I1 (v5 : Value), i + f = cc D → fmL I I1 → (∀ u, u < 1000 → I1 557 u = nI ((fTb D cs S B a b i) u)) → Rn g (d + 8) mX12_worstOf 37 [.ref 534, .int (nI a), .int (nI (mxv (fTb D cs S B a b i) 1000)), .int (nI b), .int (nI i), v5] [] [] (Z I1 J n w) Q := by
  intro f
  induction f with
  | zero =>
    intro i I1 v5 hi hF hM
    have e : cc D = i := by omega
    subst e
    have hb7 := hW.2.1.1
    have hc12 := hW.2.1.2.1
    refine s_iload (pc := 37) (i := 4) dX12_worstOf_37 rfl ?_
    refine s_aload_n (pc := 39) (i := 0) dX12_worstOf_39 rfl rfl ?_
    refine m_gi (pc := 40) dX12_worstOf_40 ff_X12_157 rfl o_534 ?_
    refine m_nm (v' := nI (cc D)) ((Wm_L hW hF).1.2.1) ?_
    refine s_icge (pc := 43) (tgt := 109) dX12_worstOf_43 rfl (fun h43 => ?_) (fun h43 => absurd (nI_le (a := cc D) (b := (cc D)) (by omega) (by omega)) h43)
    exact hc I1 v5 hF hM
  | succ f ih =>
    intro i I1 v5 hi hF hM
    have hb7 := hW.2.1.1
    have hc12 := hW.2.1.2.1
    have hT := (hW.2.2.2.2.2.1 a).1
    have hL := kL_le (cs := cs) (S := S) (a := a) (b := b) hW.2.1 (show i < cc D by omega)
    have hKM : (kM D cs S a b i) = sT S a + kL D cs S a b i := kM_L
    have hf := fTb_le (cs := cs) (S := S) (B := B) (a := a) (b := b) (i := i) (u := (kM D cs S a b i)) hW.2.1 (by omega) (by omega)
    have hm := mxv_le (f := (fTb D cs S B a b i)) (x := 96) 1000 (fun u _ => fTb_le hW.2.1 (by omega) (by omega))
    refine s_iload (pc := 37) (i := 4) dX12_worstOf_37 rfl ?_
    refine s_aload_n (pc := 39) (i := 0) dX12_worstOf_39 rfl rfl ?_
    refine m_gi (pc := 40) dX12_worstOf_40 ff_X12_157 rfl o_534 ?_
    refine m_nm (v' := nI (cc D)) ((Wm_L hW hF).1.2.1) ?_
    refine s_icge (pc := 43) (tgt := 109) dX12_worstOf_43 rfl (fun h43 => absurd h43 (nI_ge (a := i) (b := cc D) (by omega) (by omega))) (fun h43 => ?_)
    refine s_aload_n (pc := 46) (i := 0) dX12_worstOf_46 rfl rfl ?_
    refine s_iload_n (pc := 47) (i := 3) dX12_worstOf_47 rfl rfl ?_
    refine s_iload (pc := 48) (i := 4) dX12_worstOf_48 rfl ?_
    refine m_v2 (pc := 50) dX12_worstOf_50 lk_X12_419 ok_X12_isFit (rcO o_534 (by decide) rfl) rfl rfl (c_X12_isFit (Wm_L hW hF) (Bm_L hB hF) hbk hb (by omega) (fun I2 f2 => kt_s ?_))
    refine s_ifne (pc := 53) (tgt := 59) dX12_worstOf_53 rfl (fun h53 => ?_) (fun h53 => ?_)
    · have e1 : fiP D cs S B b i = true := flb_1 h53
      refine s_aload_n (pc := 59) (i := 0) dX12_worstOf_59 rfl rfl ?_
      refine s_iload_n (pc := 60) (i := 1) dX12_worstOf_60 rfl rfl ?_
      refine s_iload_n (pc := 61) (i := 3) dX12_worstOf_61 rfl rfl ?_
      refine s_iload (pc := 62) (i := 4) dX12_worstOf_62 rfl ?_
      refine m_v3 (pc := 64) dX12_worstOf_64 lk_X12_416 ok_X12_tiredThen (rcO o_534 (by decide) rfl) rfl rfl (c_X12_tiredThen (Wm_fm (Wm_L hW hF) f2) ha hb (by omega) (fun I3 f3 => kt_s ?_))
      refine m_nm (v' := nI (kM D cs S a b i)) (rfl) ?_
      refine s_istore (pc := 67) (i := 5) dX12_worstOf_67 (Nat.le_of_ble_eq_true rfl) ?_
      dsimp only [List.set, List.filter]
      refine s_aload_n (pc := 69) (i := 0) dX12_worstOf_69 rfl rfl ?_
      refine m_gr (pc := 70) dX12_worstOf_70 ff_X12_83 rfl o_534 r_534_46 ?_
      refine s_iload (pc := 73) (i := 5) dX12_worstOf_73 rfl ?_
      refine s_dup2 (pc := 75) dX12_worstOf_75 rfl rfl ?_
      refine m_ia (pc := 76) dX12_worstOf_76 a_557 (vp_in_nI (n := kM D cs S a b i) (by omega) (by decide)) ?_
      refine m_nm (v' := nI ((fTb D cs S B a b i) (kM D cs S a b i))) (rdI (j := kM D cs S a b i) ((f3 557 _ (by decide) (by decide)).trans ((f2 557 _ (by decide) (by decide)).trans (hM _ (by omega)))) (by omega)) ?_
      refine m_ic (pc := 77) (v := 1) dX12_worstOf_77 rfl ?_
      refine s_iadd (pc := 78) dX12_worstOf_78 ?_
      refine m_nm (v' := nI (((fTb D cs S B a b i) (kM D cs S a b i)) + 1)) (nI_add ((fTb D cs S B a b i) (kM D cs S a b i)) 1) ?_
      refine m_is (pc := 79) dX12_worstOf_79 a_557 (vp_in_nI (n := kM D cs S a b i) (by omega) (by decide)) ?_
      rw [nI_clamp (n := kM D cs S a b i) (by omega)]
      refine s_aload_n (pc := 80) (i := 0) dX12_worstOf_80 rfl rfl ?_
      refine m_gr (pc := 81) dX12_worstOf_81 ff_X12_83 rfl o_534 r_534_46 ?_
      refine s_iload (pc := 84) (i := 5) dX12_worstOf_84 rfl ?_
      refine m_ia (pc := 86) dX12_worstOf_86 a_557 (vp_in_nI (n := kM D cs S a b i) (by omega) (by decide)) ?_
      refine m_nm (v' := nI ((fTb D cs S B a b i) (kM D cs S a b i) + 1)) (rdI (j := kM D cs S a b i) (up_s) (by omega)) ?_
      refine s_iload_n (pc := 87) (i := 2) dX12_worstOf_87 rfl rfl ?_
      refine s_icle (pc := 88) (tgt := 101) dX12_worstOf_88 rfl (fun h88 => ?_) (fun h88 => ?_)
      · have h88 : ((fTb D cs S B a b i) (kM D cs S a b i) + 1) ≤ (mxv (fTb D cs S B a b i) 1000) := (nI_leI (a := (fTb D cs S B a b i) (kM D cs S a b i) + 1) (b := mxv (fTb D cs S B a b i) 1000) (by omega) (by omega)).mp h88
        refine s_iload_n (pc := 101) (i := 2) dX12_worstOf_101 rfl rfl ?_
        refine s_istore_n (pc := 102) (i := 2) dX12_worstOf_102 rfl (Nat.le_of_ble_eq_true rfl) ?_
        dsimp only [List.set, List.filter]
        refine m_inc (pc := 103) (v := 1) dX12_worstOf_103 rfl rfl ?_
        dsimp only [List.set, List.filter]
        rw [nI_1]
        refine s_goto (pc := 106) (tgt := 37) dX12_worstOf_106 rfl ?_
        have E1 := fTb_y (a := a) e1
        have E := mxv_up (f := (fTb D cs S B a b i)) (f' := (fTb D cs S B a b (i + 1))) (u := (kM D cs S a b i)) (N := 1000) (by omega) E1 (fun u z => fTb_o z)
        rw [Nat.max_eq_left (by omega)] at E
        rw [← E]
        refine ih (i + 1) _ _ (by omega) (fmL_u (fmL_m (fmL_m hF f2) f3)) (fun u hu => ?_)
        by_cases e : u = (kM D cs S a b i)
        · subst e; rw [up_s, E1]
        · rw [up_k e, fTb_o e]; exact (f3 557 u (by decide) (by decide)).trans ((f2 557 u (by decide) (by decide)).trans (hM u hu))
      · have h88 : ¬ ((fTb D cs S B a b i) (kM D cs S a b i) + 1) ≤ (mxv (fTb D cs S B a b i) 1000) := fun z => h88 ((nI_leI (a := (fTb D cs S B a b i) (kM D cs S a b i) + 1) (b := mxv (fTb D cs S B a b i) 1000) (by omega) (by omega)).mpr z)
        refine s_aload_n (pc := 91) (i := 0) dX12_worstOf_91 rfl rfl ?_
        refine m_gr (pc := 92) dX12_worstOf_92 ff_X12_83 rfl o_534 r_534_46 ?_
        refine s_iload (pc := 95) (i := 5) dX12_worstOf_95 rfl ?_
        refine m_ia (pc := 97) dX12_worstOf_97 a_557 (vp_in_nI (n := kM D cs S a b i) (by omega) (by decide)) ?_
        refine m_nm (v' := nI ((fTb D cs S B a b i) (kM D cs S a b i) + 1)) (rdI (j := kM D cs S a b i) (up_s) (by omega)) ?_
        refine s_goto (pc := 98) (tgt := 102) dX12_worstOf_98 rfl ?_
        refine s_istore_n (pc := 102) (i := 2) dX12_worstOf_102 rfl (Nat.le_of_ble_eq_true rfl) ?_
        dsimp only [List.set, List.filter]
        refine m_inc (pc := 103) (v := 1) dX12_worstOf_103 rfl rfl ?_
        dsimp only [List.set, List.filter]
        rw [nI_1]
        refine s_goto (pc := 106) (tgt := 37) dX12_worstOf_106 rfl ?_
        have E1 := fTb_y (a := a) e1
        have E := mxv_up (f := (fTb D cs S B a b i)) (f' := (fTb D cs S B a b (i + 1))) (u := (kM D cs S a b i)) (N := 1000) (by omega) E1 (fun u z => fTb_o z)
        rw [Nat.max_eq_right (by omega)] at E
        rw [← E]
        refine ih (i + 1) _ _ (by omega) (fmL_u (fmL_m (fmL_m hF f2) f3)) (fun u hu => ?_)
        by_cases e : u = (kM D cs S a b i)
        · subst e; rw [up_s, E1, E]
        · rw [up_k e, fTb_o e]; exact (f3 557 u (by decide) (by decide)).trans ((f2 557 u (by decide) (by decide)).trans (hM u hu))
    · have e0 : fiP D cs S B b i = false := flb_0 h53
      refine s_goto (pc := 56) (tgt := 103) dX12_worstOf_56 rfl ?_
      refine m_inc (pc := 103) (v := 1) dX12_worstOf_103 rfl rfl ?_
      dsimp only [List.set, List.filter]
      rw [nI_1]
      refine s_goto (pc := 106) (tgt := 37) dX12_worstOf_106 rfl ?_
      rw [← fTb_f (a := a) e0]
      exact ih (i + 1) I2 _ (by omega) (fmL_m hF f2) (fun u hu => by rw [fTb_n e0]; exact (f2 557 u (by decide) (by decide)).trans (hM u hu))
end S
