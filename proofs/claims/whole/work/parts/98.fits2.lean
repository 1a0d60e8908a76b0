section S
variable {g : aG} {d : Nat} {I : Nat → Nat → Int32} {J : Nat → Nat → Int64} {n w : Nat} {Q : aO → aS → Prop}
variable {σ : aS} {S : sD} {D : cD} {cs : List Nat} {b c k v : Nat} {B : Nat → Option Nat}
def fpS (P : Nat → Nat → Bool) (b c : Nat) (s : Nat × Int32) : Nat × Int32 := if P b c = true then (s.1 + 1, if s.1 = 0 then nI (100 * b + c) else s.2) else s
def fpR (P : Nat → Nat → Bool) (b : Nat) : Nat → Nat × Int32 → Nat × Int32
  | 0, s => s
  | m + 1, s => fpS P b m (fpR P b m s)
def fpA (P : Nat → Nat → Bool) (C : Nat) : Nat → Nat × Int32
  | 0 => (0, -1)
  | m + 1 => fpR P m C (fpA P C m)
def fpI (s : Nat × Int32) (m : Nat) : Prop := s.1 ≤ m ∧ (s.2 = -1 ↔ s.1 = 0)
theorem fpS_y {P : Nat → Nat → Bool} {s : Nat × Int32} (h : P b c = true) : fpS P b c s = (s.1 + 1, if s.1 = 0 then nI (100 * b + c) else s.2) := if_pos h
theorem fpS_n {P : Nat → Nat → Bool} {s : Nat × Int32} (h : P b c = false) : fpS P b c s = s := if_neg (by rw [h]; decide)
theorem fpS_I {P : Nat → Nat → Bool} {s : Nat × Int32} {m : Nat} (h : fpI s m) (hb : b < 7) (hc : c < 12) : fpI (fpS P b c s) (m + 1) := by
  cases e : P b c with
  | false => rw [fpS_n e]; exact ⟨Nat.le_succ_of_le h.1, h.2⟩
  | true =>
    rw [fpS_y e]
    refine ⟨Nat.succ_le_succ h.1, ?_⟩
    constructor
    · intro z
      have z : (if s.1 = 0 then nI (100 * b + c) else s.2) = -1 := z
      by_cases y : s.1 = 0
      · rw [if_pos y] at z; exact absurd z (nI_m1 (by omega))
      · rw [if_neg y] at z; exact absurd (h.2.mp z) y
    · intro z; exact absurd z (Nat.succ_ne_zero _)
theorem fpR_I {P : Nat → Nat → Bool} {s : Nat × Int32} {m : Nat} (h : fpI s m) (hb : b < 7) : ∀ C, C ≤ 12 → fpI (fpR P b C s) (m + C)
  | 0, _ => h
  | C + 1, hC => fpS_I (fpR_I h hb C (by omega)) hb (by omega)
theorem fpA_I {P : Nat → Nat → Bool} {C : Nat} (hC : C ≤ 12) : ∀ m, m ≤ 7 → fpI (fpA P C m) (12 * m)
  | 0, _ => ⟨Nat.le_refl _, fun _ => rfl, fun _ => rfl⟩
  | m + 1, hm => by
    have h := fpR_I (P := P) (fpA_I (P := P) hC m (by omega)) (show m < 7 by omega) C hC
    exact ⟨Nat.le_trans h.1 (by omega), h.2⟩
def fgs (I I' : Nat → Nat → Int32) : Prop := ∀ x j, x ≠ 16 → x ≠ 17 → x ≠ 524 → x ≠ 525 → I' x j = I x j
theorem fgs_r : fgs I I := fun _ _ _ _ _ _ => rfl
theorem fgs_l {I' I'' : Nat → Nat → Int32} (h : fgs I I') (h2 : fl I' I'') : fgs I I'' := fun x j a b c d => (h2 x j a b).trans (h x j a b c d)
theorem fgs_u {I' : Nat → Nat → Int32} {j : Nat} {x : Int32} (h : fgs I I') : fgs I (up I' 524 j x) := fun y t a b c d => (up_a c).trans (h y t a b c d)
theorem fgs_kc {I' : Nat → Nat → Int32} (h : fgs I I') : kc I I' := fun x j z => h x j (fun e => z (by unfold kS; omega)) (fun e => z (by unfold kS; omega)) (fun e => z (by unfold kS; omega)) (fun e => z (by unfold kS; omega))
theorem Wc_g {I' : Nat → Nat → Int32} (h : Wc I 33 D cs S) (hf : fgs I I') : Wc I' 33 D cs S := ⟨Co_fr h.1 (fun x j _ _ => hf x j (by omega) (by omega) (by omega) (by omega)), h.2.1, Lw_fr h.2.2.1 (fun x j _ _ => hf x j (by omega) (by omega) (by omega) (by omega)), h.2.2.2.1, Sc_fr h.2.2.2.2.1 (fun x j _ _ => hf x j (by omega) (by omega) (by omega) (by omega)), h.2.2.2.2.2⟩
theorem Bc_g {I' : Nat → Nat → Int32} (h : Bc I 22 B k) (hf : fgs I I') : Bc I' 22 B k := ⟨(hf 22 1 (by decide) (by decide) (by decide) (by decide)).trans h.1, fun b hb => (hf 23 b (by decide) (by decide) (by decide) (by decide)).trans (h.2 b hb)⟩
def fiP (D : cD) (cs : List Nat) (S : sD) (B : Nat → Option Nat) (b c : Nat) : Bool := rgt S B b (adn D cs S b c) (cb D)
theorem ff_in {s : Nat × Int32} (hW : Wc I 33 D cs S) (hB : Bc I 22 B k) (hbk : bOk B) (hb : b < cb D) (hs : fpI s (12 * b)) (hc : ∀ I', fgs I I' → I' 524 3 = nI (fpR (fiP D cs S B) b (cc D) s).1 ∧ I' 524 4 = (fpR (fiP D cs S B) b (cc D) s).2 → Rn g (d + 5) mX2_findFits 98 [.ref 524, .ref 33, .int (nI b), .int (nI (cc D))] [] [] (Z I' J n w) Q) : ∀ f i I1, i + f = cc D → fgs I I1 → (I1 524 3 = nI (fpR (fiP D cs S B) b i s).1 ∧ I1 524 4 = (fpR (fiP D cs S B) b i s).2) → Rn g (d + 5) mX2_findFits 28 [.ref 524, .ref 33, .int (nI b), .int (nI i)] [] [] (Z I1 J n w) Q := by
  intro f
  induction f with
  | zero =>
    intro i I1 hi hF hM
    have e : cc D = i := by omega
    subst e
    have hb7 := hW.2.1.1
    have hc12 := hW.2.1.2.1
    refine s_iload_n (pc := 28) (i := 3) dX2_findFits_28 rfl rfl ?_
    refine s_aload_n (pc := 29) (i := 0) dX2_findFits_29 rfl rfl ?_
    refine m_gr (pc := 30) dX2_findFits_30 ff_X2_15 rfl o_524 r_524_0 ?_
    refine m_gr (pc := 33) dX2_findFits_33 ff_X2_30 rfl o_31 r_31_0 ?_
    refine m_gi (pc := 36) dX2_findFits_36 ff_X2_41 rfl o_4 ?_
    refine m_nm (v' := nI (cc D)) ((Wc_g hW hF).1.2.1) ?_
    refine s_icge (pc := 39) (tgt := 98) dX2_findFits_39 rfl (fun h39 => ?_) (fun h39 => absurd (nI_le (a := cc D) (b := (cc D)) (by omega) (by omega)) h39)
    exact hc I1 hF hM
  | succ f ih =>
    intro i I1 hi hF hM
    have hb7 := hW.2.1.1
    have hc12 := hW.2.1.2.1
    have hR := fpR_I (P := (fiP D cs S B)) hs (show b < 7 by omega) i (by omega)
    have hR1 := hR.1
    refine s_iload_n (pc := 28) (i := 3) dX2_findFits_28 rfl rfl ?_
    refine s_aload_n (pc := 29) (i := 0) dX2_findFits_29 rfl rfl ?_
    refine m_gr (pc := 30) dX2_findFits_30 ff_X2_15 rfl o_524 r_524_0 ?_
    refine m_gr (pc := 33) dX2_findFits_33 ff_X2_30 rfl o_31 r_31_0 ?_
    refine m_gi (pc := 36) dX2_findFits_36 ff_X2_41 rfl o_4 ?_
    refine m_nm (v' := nI (cc D)) ((Wc_g hW hF).1.2.1) ?_
    refine s_icge (pc := 39) (tgt := 98) dX2_findFits_39 rfl (fun h39 => absurd h39 (nI_ge (a := i) (b := cc D) (by omega) (by omega))) (fun h39 => ?_)
    refine s_aload_n (pc := 42) (i := 0) dX2_findFits_42 rfl rfl ?_
    refine s_aload_n (pc := 43) (i := 1) dX2_findFits_43 rfl rfl ?_
    refine s_iload_n (pc := 44) (i := 2) dX2_findFits_44 rfl rfl ?_
    refine s_aload_n (pc := 45) (i := 0) dX2_findFits_45 rfl rfl ?_
    refine s_aload_n (pc := 46) (i := 1) dX2_findFits_46 rfl rfl ?_
    refine s_iload_n (pc := 47) (i := 2) dX2_findFits_47 rfl rfl ?_
    refine s_iload_n (pc := 48) (i := 3) dX2_findFits_48 rfl rfl ?_
    refine m_v3 (pc := 49) dX2_findFits_49 lk_X2_44 ok_X2_added (rcO o_524 (by decide) rfl) rfl rfl (c_X2_added (Wc_g hW hF) hb (by omega) (fun I2 f2 => kt_s ?_))
    refine m_v3 (pc := 52) dX2_findFits_52 lk_X2_48 ok_X2_isRight (rcO o_524 (by decide) rfl) rfl rfl (c_X2_isRight (Wc_g hW (fgs_l hF f2)) (Bc_g hB (fgs_l hF f2)) hbk hb (fun z => kt_s ?_) (fun z => kt_s ?_))
    · refine s_ifeq (pc := 55) (tgt := 92) dX2_findFits_55 rfl (fun h55 => absurd h55 (by decide)) (fun h55 => ?_)
      refine s_aload_n (pc := 58) (i := 0) dX2_findFits_58 rfl rfl ?_
      refine s_aload_n (pc := 59) (i := 0) dX2_findFits_59 rfl rfl ?_
      refine m_gi (pc := 60) dX2_findFits_60 ff_X2_23 rfl o_524 ?_
      refine m_nm (v' := nI (fpR (fiP D cs S B) b i s).1) ((f2 524 3 (by decide) (by decide)).trans hM.1) ?_
      refine s_ifne (pc := 63) (tgt := 75) dX2_findFits_63 rfl (fun h63 => ?_) (fun h63 => ?_)
      · have h63 : ¬ ((fpR (fiP D cs S B) b i s).1) = 0 := fun z => h63 ((nI_eq (a := (fpR (fiP D cs S B) b i s).1) (b := 0) (by omega) (by omega)).mpr z)
        refine s_aload_n (pc := 75) (i := 0) dX2_findFits_75 rfl rfl ?_
        refine m_gi (pc := 76) dX2_findFits_76 ff_X2_27 rfl o_524 ?_
        refine m_nm (v' := (fpR (fiP D cs S B) b i s).2) ((f2 524 4 (by decide) (by decide)).trans hM.2) ?_
        refine m_pi (pc := 79) dX2_findFits_79 ff_X2_27 rfl rfl o_524 ?_
        refine s_aload_n (pc := 82) (i := 0) dX2_findFits_82 rfl rfl ?_
        refine s_dup (pc := 83) dX2_findFits_83 rfl ?_
        refine m_gi (pc := 84) dX2_findFits_84 ff_X2_23 rfl o_524 ?_
        refine m_nm (v' := nI (fpR (fiP D cs S B) b i s).1) ((up_k (by decide)).trans ((f2 524 3 (by decide) (by decide)).trans hM.1)) ?_
        refine m_ic (pc := 87) (v := 1) dX2_findFits_87 rfl ?_
        refine s_iadd (pc := 88) dX2_findFits_88 ?_
        refine m_nm (v' := nI (((fpR (fiP D cs S B) b i s).1) + 1)) (nI_add ((fpR (fiP D cs S B) b i s).1) 1) ?_
        refine m_pi (pc := 89) dX2_findFits_89 ff_X2_23 rfl rfl o_524 ?_
        refine m_inc (pc := 92) (v := 1) dX2_findFits_92 rfl rfl ?_
        dsimp only [List.set, List.filter]
        rw [nI_1]
        refine s_goto (pc := 95) (tgt := 28) dX2_findFits_95 rfl ?_
        have E := fpS_y (s := (fpR (fiP D cs S B) b i s)) (b := b) (c := i) (P := (fiP D cs S B)) z
        refine ih (i + 1) _ (by omega) (fgs_u (fgs_u (fgs_l hF f2))) ⟨up_s.trans ?_, (up_k (by decide)).trans (up_s.trans ?_)⟩
        · show _ = nI (fpS (fiP D cs S B) b i (fpR (fiP D cs S B) b i s)).1
          rw [E]
        · show _ = (fpS (fiP D cs S B) b i (fpR (fiP D cs S B) b i s)).2
          rw [E]; exact (if_neg h63).symm
      · have h63 : ((fpR (fiP D cs S B) b i s).1) = 0 := (nI_eq (a := (fpR (fiP D cs S B) b i s).1) (b := 0) (by omega) (by omega)).mp h63
        refine m_bi (pc := 66) (v := 100) dX2_findFits_66 rfl ?_
        refine s_iload_n (pc := 68) (i := 2) dX2_findFits_68 rfl rfl ?_
        refine s_imul (pc := 69) dX2_findFits_69 ?_
        refine m_nm (v' := nI (100 * b)) (pk_mul 100 b) ?_
        refine s_iload_n (pc := 70) (i := 3) dX2_findFits_70 rfl rfl ?_
        refine s_iadd (pc := 71) dX2_findFits_71 ?_
        refine m_nm (v' := nI ((100 * b) + i)) (nI_add (100 * b) i) ?_
        refine s_goto (pc := 72) (tgt := 79) dX2_findFits_72 rfl ?_
        refine m_pi (pc := 79) dX2_findFits_79 ff_X2_27 rfl rfl o_524 ?_
        refine s_aload_n (pc := 82) (i := 0) dX2_findFits_82 rfl rfl ?_
        refine s_dup (pc := 83) dX2_findFits_83 rfl ?_
        refine m_gi (pc := 84) dX2_findFits_84 ff_X2_23 rfl o_524 ?_
        refine m_nm (v' := nI (fpR (fiP D cs S B) b i s).1) ((up_k (by decide)).trans ((f2 524 3 (by decide) (by decide)).trans hM.1)) ?_
        refine m_ic (pc := 87) (v := 1) dX2_findFits_87 rfl ?_
        refine s_iadd (pc := 88) dX2_findFits_88 ?_
        refine m_nm (v' := nI (((fpR (fiP D cs S B) b i s).1) + 1)) (nI_add ((fpR (fiP D cs S B) b i s).1) 1) ?_
        refine m_pi (pc := 89) dX2_findFits_89 ff_X2_23 rfl rfl o_524 ?_
        refine m_inc (pc := 92) (v := 1) dX2_findFits_92 rfl rfl ?_
        dsimp only [List.set, List.filter]
        rw [nI_1]
        refine s_goto (pc := 95) (tgt := 28) dX2_findFits_95 rfl ?_
        have E := fpS_y (s := (fpR (fiP D cs S B) b i s)) (b := b) (c := i) (P := (fiP D cs S B)) z
        refine ih (i + 1) _ (by omega) (fgs_u (fgs_u (fgs_l hF f2))) ⟨up_s.trans ?_, (up_k (by decide)).trans (up_s.trans ?_)⟩
        · show _ = nI (fpS (fiP D cs S B) b i (fpR (fiP D cs S B) b i s)).1
          rw [E]
        · show _ = (fpS (fiP D cs S B) b i (fpR (fiP D cs S B) b i s)).2
          rw [E]; exact (if_pos h63).symm
    · refine s_ifeq (pc := 55) (tgt := 92) dX2_findFits_55 rfl (fun h55 => ?_) (fun h55 => absurd h55 (by decide))
      refine m_inc (pc := 92) (v := 1) dX2_findFits_92 rfl rfl ?_
      dsimp only [List.set, List.filter]
      rw [nI_1]
      refine s_goto (pc := 95) (tgt := 28) dX2_findFits_95 rfl ?_
      have E := fpS_n (s := (fpR (fiP D cs S B) b i s)) (b := b) (c := i) (P := (fiP D cs S B)) z
      exact ih (i + 1) I2 (by omega) (fgs_l hF f2) (by show I2 524 3 = nI (fpS (fiP D cs S B) b i (fpR (fiP D cs S B) b i s)).1 ∧ I2 524 4 = (fpS (fiP D cs S B) b i (fpR (fiP D cs S B) b i s)).2; rw [E]; exact ⟨(f2 524 3 (by decide) (by decide)).trans hM.1, (f2 524 4 (by decide) (by decide)).trans hM.2⟩)
end S
