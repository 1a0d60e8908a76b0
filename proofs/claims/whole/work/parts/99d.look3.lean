section S
variable {g : aG} {d : Nat} {I : Nat → Nat → Int32} {J : Nat → Nat → Int64} {n w : Nat} {Q : aO → aS → Prop}
variable {σ : aS} {S : sD} {D : cD} {cs : List Nat} {a b c k v : Nat} {B : Nat → Option Nat}
/-- the first back without a line whose worst is least -/
def lkA (f : Nat → Nat) (B : Nat → Option Nat) : Nat → Option (Nat × Nat)
  | 0 => none
  | m + 1 => if (B m).isSome = true then lkA f B m else match lkA f B m with
    | none => some (m, f m)
    | some (x, y) => if f m < y then some (m, f m) else some (x, y)
variable {f : Nat → Nat}
theorem lk_s {m : Nat} (h : (B m).isSome = true) : lkA f B (m + 1) = lkA f B m := if_pos h
theorem lk_0 {m : Nat} (h : (B m).isSome = false) (e : lkA f B m = none) : lkA f B (m + 1) = some (m, f m) := by rw [lkA, if_neg (by rw [h]; decide), e]
theorem lk_y {m x y : Nat} (h : (B m).isSome = false) (e : lkA f B m = some (x, y)) (z : f m < y) : lkA f B (m + 1) = some (m, f m) := by rw [lkA, if_neg (by rw [h]; decide), e]; exact if_pos z
theorem lk_n {m x y : Nat} (h : (B m).isSome = false) (e : lkA f B m = some (x, y)) (z : ¬ f m < y) : lkA f B (m + 1) = lkA f B m := by rw [lkA, if_neg (by rw [h]; decide), e]; exact if_neg z
theorem lk_lt {M : Nat} : ∀ m x y, (∀ j, j < m → f j ≤ M) → lkA f B m = some (x, y) → x < m ∧ y ≤ M
  | 0, x, y, _, h => by cases h
  | m + 1, x, y, hf, h => by
    have ih := fun x y => lk_lt m x y (fun j hj => hf j (by omega))
    cases hs : (B m).isSome with
    | true => rw [lk_s hs] at h; have := ih x y h; omega
    | false =>
      cases e : lkA f B m with
      | none => rw [lk_0 hs e] at h; cases h; exact ⟨by omega, hf m (by omega)⟩
      | some q =>
        obtain ⟨x', y'⟩ := q
        by_cases z : f m < y'
        · rw [lk_y hs e z] at h; cases h; exact ⟨by omega, hf m (by omega)⟩
        · rw [lk_n hs e z] at h; have := ih x y h; omega
def l1 (o : Option (Nat × Nat)) : Int32 := ob (o.map Prod.fst)
def l2 (o : Option (Nat × Nat)) : Int32 := ob (o.map Prod.snd)
theorem wLf_le (ha : a < cb D) (hk : cOk D) : wLf D cs S B a ≤ 1000 := mxv_le _ (fun i _ => cn_le ha hk)
def vLk (D : cD) (cs : List Nat) (S : sD) (B : Nat → Option Nat) (q : Nat) : Int32 := if q = 0 then l1 (lkA (wLf D cs S B) B (cb D)) else l2 (lkA (wLf D cs S B) B (cb D))
theorem lk_lp (hW : Wc I 33 D cs S) (hB : Bc I 22 B k) (hbk : bOk B) (hq : ∀ I', fgs I I' → (I' 524 3 = nI (fpA (fiP D cs S B) (cc D) (cb D)).1 ∧ I' 524 5 = l1 (lkA (wLf D cs S B) B (cb D)) ∧ I' 524 6 = l2 (lkA (wLf D cs S B) B (cb D))) → Q (.inl none) (Z I' J n w)) : ∀ f i I1 (v3 : Value), i + f = cb D → fgs I I1 → (I1 524 3 = nI (fpA (fiP D cs S B) (cc D) (cb D)).1 ∧ I1 524 5 = l1 (lkA (wLf D cs S B) B i) ∧ I1 524 6 = l2 (lkA (wLf D cs S B) B i)) → Rn g (d + 6) mX2_findLook 17 [.ref 524, .ref 33, .int (nI i), v3] [] [] (Z I1 J n w) Q := by
  intro f
  induction f with
  | zero =>
    intro i I1 v3 hi hF hM
    have e : cb D = i := by omega
    subst e
    have hb7 := hW.2.1.1
    have hc12 := hW.2.1.2.1
    refine s_iload_n (pc := 17) (i := 2) dX2_findLook_17 rfl rfl ?_
    refine s_aload_n (pc := 18) (i := 0) dX2_findLook_18 rfl rfl ?_
    refine m_gr (pc := 19) dX2_findLook_19 ff_X2_15 rfl o_524 r_524_0 ?_
    refine m_gr (pc := 22) dX2_findLook_22 ff_X2_30 rfl o_31 r_31_0 ?_
    refine m_gi (pc := 25) dX2_findLook_25 ff_X2_36 rfl o_4 ?_
    refine m_nm (v' := nI (cb D)) ((Wc_g hW hF).1.1) ?_
    refine s_icge (pc := 28) (tgt := 84) dX2_findLook_28 rfl (fun h28 => ?_) (fun h28 => absurd (nI_le (a := cb D) (b := (cb D)) (by omega) (by omega)) h28)
    refine s_return (pc := 84) dX2_findLook_84 rfl ?_
    exact hq I1 hF hM
  | succ f ih =>
    intro i I1 v3 hi hF hM
    have hb7 := hW.2.1.1
    have hc12 := hW.2.1.2.1
    refine s_iload_n (pc := 17) (i := 2) dX2_findLook_17 rfl rfl ?_
    refine s_aload_n (pc := 18) (i := 0) dX2_findLook_18 rfl rfl ?_
    refine m_gr (pc := 19) dX2_findLook_19 ff_X2_15 rfl o_524 r_524_0 ?_
    refine m_gr (pc := 22) dX2_findLook_22 ff_X2_30 rfl o_31 r_31_0 ?_
    refine m_gi (pc := 25) dX2_findLook_25 ff_X2_36 rfl o_4 ?_
    refine m_nm (v' := nI (cb D)) ((Wc_g hW hF).1.1) ?_
    refine s_icge (pc := 28) (tgt := 84) dX2_findLook_28 rfl (fun h28 => absurd h28 (nI_ge (a := i) (b := cb D) (by omega) (by omega))) (fun h28 => ?_)
    refine s_aload_n (pc := 31) (i := 0) dX2_findLook_31 rfl rfl ?_
    refine m_gr (pc := 32) dX2_findLook_32 ff_X2_19 rfl o_524 r_524_1 ?_
    refine s_iload_n (pc := 35) (i := 2) dX2_findLook_35 rfl rfl ?_
    refine m_v1 (pc := 36) dX2_findLook_36 lk_X2_62 ok_X0_hasLine (rcO o_22 (by decide) rfl) rfl rfl (c_X0_hasLine rfl (Bc_g hB hF) hbk (by omega) (fun z => kt_s ?_) (fun z => kt_s ?_))
    · refine s_ifeq (pc := 39) (tgt := 45) dX2_findLook_39 rfl (fun h39 => absurd h39 (by decide)) (fun h39 => ?_)
      refine s_goto (pc := 42) (tgt := 78) dX2_findLook_42 rfl ?_
      refine m_inc (pc := 78) (v := 1) dX2_findLook_78 rfl rfl ?_
      dsimp only [List.set, List.filter]
      rw [nI_1]
      refine s_goto (pc := 81) (tgt := 17) dX2_findLook_81 rfl ?_
      have E := lk_s (f := wLf D cs S B) z
      exact ih (i + 1) I1 _ (by omega) hF (by rw [E]; exact hM)
    · refine s_ifeq (pc := 39) (tgt := 45) dX2_findLook_39 rfl (fun h39 => ?_) (fun h39 => absurd h39 (by decide))
      refine s_aload_n (pc := 45) (i := 0) dX2_findLook_45 rfl rfl ?_
      refine s_aload_n (pc := 46) (i := 1) dX2_findLook_46 rfl rfl ?_
      refine s_iload_n (pc := 47) (i := 2) dX2_findLook_47 rfl rfl ?_
      refine m_v2 (pc := 48) dX2_findLook_48 lk_X2_68 ok_X2_worstLeft (rcO o_524 (by decide) rfl) rfl rfl (c_X2_worstLeft (Wc_g hW hF) (Bc_g hB hF) hbk (by omega) hM.1 (fun I2 f2 => kt_s ?_))
      refine s_istore_n (pc := 51) (i := 3) dX2_findLook_51 rfl (Nat.le_of_ble_eq_true rfl) ?_
      dsimp only [List.set, List.filter]
      rcases eo : (lkA (wLf D cs S B) B i) with _ | ⟨x, y⟩
      · skip
        refine s_aload_n (pc := 52) (i := 0) dX2_findLook_52 rfl rfl ?_
        refine m_gi (pc := 53) dX2_findLook_53 ff_X2_56 rfl o_524 ?_
        refine m_nm (v' := -1) ((f2 524 5 (by decide) (by decide) (by decide)).trans (hM.2.1.trans (by rw [eo]; rfl))) ?_
        refine m_ic (pc := 56) (v := -1) dX2_findLook_56 rfl ?_
        refine s_iceq (pc := 57) (tgt := 68) dX2_findLook_57 rfl (fun h57 => ?_) (fun h57 => absurd h57 (by decide))
        refine s_aload_n (pc := 68) (i := 0) dX2_findLook_68 rfl rfl ?_
        refine s_iload_n (pc := 69) (i := 2) dX2_findLook_69 rfl rfl ?_
        refine m_pi (pc := 70) dX2_findLook_70 ff_X2_56 rfl rfl o_524 ?_
        refine s_aload_n (pc := 73) (i := 0) dX2_findLook_73 rfl rfl ?_
        refine s_iload_n (pc := 74) (i := 3) dX2_findLook_74 rfl rfl ?_
        refine m_pi (pc := 75) dX2_findLook_75 ff_X2_59 rfl rfl o_524 ?_
        refine m_inc (pc := 78) (v := 1) dX2_findLook_78 rfl rfl ?_
        dsimp only [List.set, List.filter]
        rw [nI_1]
        refine s_goto (pc := 81) (tgt := 17) dX2_findLook_81 rfl ?_
        have E := lk_0 (f := wLf D cs S B) z eo
        refine ih (i + 1) _ _ (by omega) (fgs_u (fgs_u (fgs_t hF (ftl_g f2)))) ⟨(up_k (by decide)).trans ((up_k (by decide)).trans ((f2 524 3 (by decide) (by decide) (by decide)).trans hM.1)), ?_, ?_⟩
        · rw [up_k (by decide), up_s, E]; rfl
        · rw [up_s, E]; rfl
      · have hxy := lk_lt i x y (fun j hj => wLf_le (cs := cs) (S := S) (B := B) (a := j) (show j < cb D by omega) hW.2.1) eo
        have hx := hxy.1
        have hy := hxy.2
        have hw := wLf_le (cs := cs) (S := S) (B := B) (a := i) (show i < cb D by omega) hW.2.1
        refine s_aload_n (pc := 52) (i := 0) dX2_findLook_52 rfl rfl ?_
        refine m_gi (pc := 53) dX2_findLook_53 ff_X2_56 rfl o_524 ?_
        refine m_nm (v' := nI x) ((f2 524 5 (by decide) (by decide) (by decide)).trans (hM.2.1.trans (by rw [eo]; rfl))) ?_
        refine m_ic (pc := 56) (v := -1) dX2_findLook_56 rfl ?_
        refine s_iceq (pc := 57) (tgt := 68) dX2_findLook_57 rfl (fun h57 => absurd h57 (nI_m1 (by omega))) (fun h57 => ?_)
        refine s_iload_n (pc := 60) (i := 3) dX2_findLook_60 rfl rfl ?_
        refine s_aload_n (pc := 61) (i := 0) dX2_findLook_61 rfl rfl ?_
        refine m_gi (pc := 62) dX2_findLook_62 ff_X2_59 rfl o_524 ?_
        refine m_nm (v' := nI y) ((f2 524 6 (by decide) (by decide) (by decide)).trans (hM.2.2.trans (by rw [eo]; rfl))) ?_
        refine s_icge (pc := 65) (tgt := 78) dX2_findLook_65 rfl (fun h65 => ?_) (fun h65 => ?_)
        · have h65 : y ≤ (wLf D cs S B i) := (nI_leI (a := y) (b := wLf D cs S B i) (by omega) (by omega)).mp h65
          refine m_inc (pc := 78) (v := 1) dX2_findLook_78 rfl rfl ?_
          dsimp only [List.set, List.filter]
          rw [nI_1]
          refine s_goto (pc := 81) (tgt := 17) dX2_findLook_81 rfl ?_
          have E := lk_n (f := wLf D cs S B) z eo (by omega)
          exact ih (i + 1) I2 _ (by omega) (fgs_t hF (ftl_g f2)) ⟨(f2 524 3 (by decide) (by decide) (by decide)).trans hM.1, by rw [E]; exact (f2 524 5 (by decide) (by decide) (by decide)).trans hM.2.1, by rw [E]; exact (f2 524 6 (by decide) (by decide) (by decide)).trans hM.2.2⟩
        · have h65 : ¬ y ≤ (wLf D cs S B i) := fun z => h65 ((nI_leI (a := y) (b := wLf D cs S B i) (by omega) (by omega)).mpr z)
          refine s_aload_n (pc := 68) (i := 0) dX2_findLook_68 rfl rfl ?_
          refine s_iload_n (pc := 69) (i := 2) dX2_findLook_69 rfl rfl ?_
          refine m_pi (pc := 70) dX2_findLook_70 ff_X2_56 rfl rfl o_524 ?_
          refine s_aload_n (pc := 73) (i := 0) dX2_findLook_73 rfl rfl ?_
          refine s_iload_n (pc := 74) (i := 3) dX2_findLook_74 rfl rfl ?_
          refine m_pi (pc := 75) dX2_findLook_75 ff_X2_59 rfl rfl o_524 ?_
          refine m_inc (pc := 78) (v := 1) dX2_findLook_78 rfl rfl ?_
          dsimp only [List.set, List.filter]
          rw [nI_1]
          refine s_goto (pc := 81) (tgt := 17) dX2_findLook_81 rfl ?_
          have E := lk_y (f := wLf D cs S B) z eo (by omega)
          refine ih (i + 1) _ _ (by omega) (fgs_u (fgs_u (fgs_t hF (ftl_g f2)))) ⟨(up_k (by decide)).trans ((up_k (by decide)).trans ((f2 524 3 (by decide) (by decide) (by decide)).trans hM.1)), ?_, ?_⟩
          · rw [up_k (by decide), up_s, E]; rfl
          · rw [up_s, E]; rfl
theorem c_X2_findLook (hW : Wc I 33 D cs S) (hB : Bc I 22 B k) (hbk : bOk B) (hq : ∀ I', fgs I I' → (I' 524 3 = nI (fpA (fiP D cs S B) (cc D) (cb D)).1 ∧ I' 524 5 = l1 (lkA (wLf D cs S B) B (cb D)) ∧ I' 524 6 = l2 (lkA (wLf D cs S B) B (cb D))) → Q (.inl none) (Z I' J n w)) : Cn g (d + 6) mX2_findLook [.ref 524, .ref 33] (Z I J n w) Q := by
  show Rn g (d + 6) mX2_findLook 0 [.ref 524, .ref 33, .retAddr 0, .retAddr 0] [] [] (Z I J n w) Q
  refine s_aload_n (pc := 0) (i := 0) dX2_findLook_0 rfl rfl ?_
  refine s_aload_n (pc := 1) (i := 1) dX2_findLook_1 rfl rfl ?_
  refine m_v1 (pc := 2) dX2_findLook_2 lk_X2_52 ok_X2_findFits (rcO o_524 (by decide) rfl) rfl rfl (c_X2_findFits hW hB hbk (fun I1 f1 h1 => kt_v ?_))
  refine s_aload_n (pc := 5) (i := 0) dX2_findLook_5 rfl rfl ?_
  refine m_ic (pc := 6) (v := -1) dX2_findLook_6 rfl ?_
  refine m_pi (pc := 7) dX2_findLook_7 ff_X2_56 rfl rfl o_524 ?_
  refine s_aload_n (pc := 10) (i := 0) dX2_findLook_10 rfl rfl ?_
  refine m_ic (pc := 11) (v := -1) dX2_findLook_11 rfl ?_
  refine m_pi (pc := 12) dX2_findLook_12 ff_X2_59 rfl rfl o_524 ?_
  refine m_ic (pc := 15) (v := 0) dX2_findLook_15 rfl ?_
  refine s_istore_n (pc := 16) (i := 2) dX2_findLook_16 rfl (Nat.le_of_ble_eq_true rfl) ?_
  dsimp only [List.set, List.filter]
  exact lk_lp hW hB hbk hq (cb D) 0 _ _ (by omega) (fgs_u (fgs_u f1)) ⟨(up_k (by decide)).trans ((up_k (by decide)).trans h1.1), (up_k (by decide)).trans up_s, up_s⟩
theorem c_X11_look (hW : Wc I 33 D cs S) (hn : n + 1 ≤ 600000 ∧ w + 6 ≤ 7000000) (hB : Bc I 22 B k) (hbk : bOk B) {x : Int32} (r0 : ¬ iv 0 (2) x → Q (.inr 1) (Z (up I 1 18 (I 1 18 + 1)) J (n + 1) (w + 6))) (hg : ∀ q, x = nI q → q < 2 → ∀ I', kc I I' → Q (.inl (some (.int (vLk D cs S B q)))) (Z I' J n w)) : Cn g (d + 8) mX11_look [.ref 1, .int x] (Z I J n w) Q := by
  have hb7 := hW.2.1.1
  have hc12 := hW.2.1.2.1
  show Rn g (d + 8) mX11_look 0 [.ref 1, .int x] [] [] (Z I J n w) Q
  refine s_aload_n (pc := 0) (i := 0) dX11_look_0 rfl rfl ?_
  refine s_iload_n (pc := 1) (i := 1) dX11_look_1 rfl rfl ?_
  refine m_ic (pc := 2) (v := 2) dX11_look_2 rfl ?_
  refine m_v2 (pc := 3) dX11_look_3 lk_X11_181 ok_X11_needWhat (rcO o_1 (by decide) rfl) rfl rfl (c_nw (m := 2) rfl (by decide) hn (fun q eq hq => kt_v ?_) (fun z => kt_x ?_))
  · subst eq
    refine s_aload_n (pc := 6) (i := 0) dX11_look_6 rfl rfl ?_
    refine m_gr (pc := 7) dX11_look_7 ff_X11_92 rfl o_1 r_1_13 ?_
    refine s_aload_n (pc := 10) (i := 0) dX11_look_10 rfl rfl ?_
    refine m_gr (pc := 11) dX11_look_11 ff_X11_73 rfl o_1 r_1_10 ?_
    refine m_v1 (pc := 14) dX11_look_14 lk_X11_334 ok_X2_findLook (rcO o_524 (by decide) rfl) rfl rfl (c_X2_findLook hW hB hbk (fun I2 f2 h2 => kt_v ?_))
    refine s_iload_n (pc := 17) (i := 1) dX11_look_17 rfl rfl ?_
    refine s_ifne (pc := 18) (tgt := 31) dX11_look_18 rfl (fun h18 => ?_) (fun h18 => ?_)
    · have h18 : ¬ q = 0 := fun z => h18 ((nI_eq (a := q) (b := 0) (by omega) (by omega)).mpr z)
      refine s_aload_n (pc := 31) (i := 0) dX11_look_31 rfl rfl ?_
      refine m_gr (pc := 32) dX11_look_32 ff_X11_92 rfl o_1 r_1_13 ?_
      refine m_gi (pc := 35) dX11_look_35 ff_X11_340 rfl o_524 ?_
      refine s_ireturn (pc := 38) dX11_look_38 rfl rfl ?_
      have E : vLk D cs S B q = l2 (lkA (wLf D cs S B) B (cb D)) := if_neg h18
      have h := hg q rfl hq I2 (fgs_kc f2)
      rw [E, ← h2.2.2] at h; exact h
    · have h18 : q = 0 := (nI_eq (a := q) (b := 0) (by omega) (by omega)).mp h18
      refine s_aload_n (pc := 21) (i := 0) dX11_look_21 rfl rfl ?_
      refine m_gr (pc := 22) dX11_look_22 ff_X11_92 rfl o_1 r_1_13 ?_
      refine m_gi (pc := 25) dX11_look_25 ff_X11_337 rfl o_524 ?_
      refine s_goto (pc := 28) (tgt := 38) dX11_look_28 rfl ?_
      refine s_ireturn (pc := 38) dX11_look_38 rfl rfl ?_
      have E : vLk D cs S B q = l1 (lkA (wLf D cs S B) B (cb D)) := if_pos h18
      have h := hg q rfl hq I2 (fgs_kc f2)
      rw [E, ← h2.2.1] at h; exact h
  · exact r0  z
end S
