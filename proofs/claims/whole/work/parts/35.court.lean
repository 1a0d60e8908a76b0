section S
variable {g : aG} {d : Nat} {I : Nat → Nat → Int32} {J : Nat → Nat → Int64} {n w : Nat} {Q : aO → aS → Prop}
variable {t : Nat → Nat} {N a wf wt : Nat} {fk fp bk op : Int32} {σ : aS}
theorem tp_up {x k : Nat} {v : Int32} (h : x ≠ 2) : up (tp I a wf wt fk fp) x k v = tp (up I x k v) a wf wt fk fp := by
  funext y j; unfold up tp; dsimp only
  by_cases e : y = x ∧ j = k
  · rw [if_pos e, if_pos e, if_neg (by omega), if_neg (by omega), if_neg (by omega), if_neg (by omega), if_neg (by omega)]
  · rw [if_neg e, if_neg e]
theorem mp_up {x k : Nat} {v : Int32} {bad : Int32} (h : x ≠ 534 ∨ k < 4 ∨ 7 < k) : up (mp I a bad bk op) x k v = mp (up I x k v) a bad bk op := by
  funext y j; unfold up mp; dsimp only
  by_cases e : y = x ∧ j = k
  · rw [if_pos e, if_pos e, if_neg (by omega), if_neg (by omega), if_neg (by omega), if_neg (by omega)]
  · rw [if_neg e, if_neg e]
theorem tx_up {x k : Nat} {v : Int32} (h : tx I t N) (h2 : x ≠ 2) (h3 : x ≠ 3) : tx (up I x k v) t N := ⟨h.1, by rw [up_a (Ne.symm h2)]; exact h.2.1, fun i hi => by rw [up_a (Ne.symm h3)]; exact h.2.2 i hi⟩
theorem mx_up {x k : Nat} {v : Int32} (h : mx I t N) (h2 : x ≠ 534 ∨ k ≠ 3) (h3 : x ≠ 536) : mx (up I x k v) t N := ⟨h.1, by unfold up; rw [if_neg (by omega)]; exact h.2.1, fun i hi => by rw [up_a (Ne.symm h3)]; exact h.2.2 i hi⟩
theorem st_tp {y : aM} {pc : Nat} {l : List Value} {ll : List (Nat × Int64)} {st : List Value} {x k : Nat} {v : Int32} (hx : tx I t N) (h2 : x ≠ 2) (h3 : x ≠ 3) (kk : ∀ I', I' = up I x k v → tx I' t N → Rn g d y pc l ll st (Z (tp I' a wf wt fk fp) J n w) Q) : Rn g d y pc l ll st (Z (up (tp I a wf wt fk fp) x k v) J n w) Q := by
  rw [tp_up h2]; exact kk _ rfl (tx_up hx h2 h3)
theorem st_mp {y : aM} {pc : Nat} {l : List Value} {ll : List (Nat × Int64)} {st : List Value} {x k : Nat} {v bad : Int32} (hm : mx I t N) (h2 : x ≠ 534 ∨ (k ≠ 3 ∧ k ≠ 4 ∧ k ≠ 5 ∧ k ≠ 6 ∧ k ≠ 7)) (h3 : x ≠ 536) (kk : ∀ I', I' = up I x k v → mx I' t N → Rn g d y pc l ll st (Z (mp I' a bad bk op) J n w) Q) : Rn g d y pc l ll st (Z (up (mp I a bad bk op) x k v) J n w) Q := by
  rw [mp_up (by omega)]; exact kk _ rfl (mx_up hm (by omega) h3)
/-- a court as the text tells it -/
abbrev cD := Nat × Nat × Nat × (Nat → Nat) × (Nat → Nat) × (Nat → Nat) × (Nat → Nat)
def cb (D : cD) : Nat := D.1
def cc (D : cD) : Nat := D.2.1
def ck (D : cD) : Nat := D.2.2.1
def cS (D : cD) : Nat → Nat := D.2.2.2.1
def cC (D : cD) : Nat → Nat := D.2.2.2.2.1
def cH (D : cD) : Nat → Nat := D.2.2.2.2.2.1
def cL (D : cD) : Nat → Nat := D.2.2.2.2.2.2
def fs (f : Nat → Nat) (i v : Nat) : Nat → Nat := fun x => if x = i then v else f x
def cOk (D : cD) : Prop := cb D ≤ 7 ∧ cc D ≤ 12 ∧ (1 ≤ ck D ∧ ck D ≤ 40) ∧ (∀ b, b < cb D → 1 ≤ cS D b ∧ cS D b ≤ 99 ∧ cC D b ≤ 9) ∧ ∀ c, c < cc D → 1 ≤ cH D c ∧ cH D c ≤ 9 ∧ cL D c ≤ 9
/-- a court of the class; of the model -/
def Co (I : Nat → Nat → Int32) (o : Nat) (D : cD) : Prop := I o 4 = nI (cb D) ∧ I o 5 = nI (cc D) ∧ I o 6 = nI (ck D) ∧ (∀ b, b < cb D → I (o + 1) b = nI (cS D b) ∧ I (o + 2) b = nI (cC D b)) ∧ ∀ c, c < cc D → I (o + 3) c = nI (cH D c) ∧ I (o + 4) c = nI (cL D c)
def Mo (I : Nat → Nat → Int32) (f x y : Nat) (D : cD) : Prop := I 534 f = nI (cb D) ∧ I 534 (f + 1) = nI (cc D) ∧ I 534 (f + 2) = nI (ck D) ∧ (∀ b, b < cb D → I x (2 * b) = nI (cS D b) ∧ I x (2 * b + 1) = nI (cC D b)) ∧ ∀ c, c < cc D → I y (2 * c) = nI (cH D c) ∧ I y (2 * c + 1) = nI (cL D c)
def dB (D : cD) (v u : Nat) : cD := (cb D + 1, cc D, ck D, fs (cS D) (cb D) v, fs (cC D) (cb D) u, cH D, cL D)
def dC (D : cD) (v u : Nat) : cD := (cb D, cc D + 1, ck D, cS D, cC D, fs (cH D) (cc D) v, fs (cL D) (cc D) u)
def dK (D : cD) (v : Nat) : cD := (cb D, cc D, v, cS D, cC D, cH D, cL D)
def d0 : cD := (0, 0, 20, fun _ => 0, fun _ => 0, fun _ => 0, fun _ => 0)
theorem cOk_B {D : cD} {v u : Nat} (h : cOk D) (h7 : cb D < 7) (hv : 1 ≤ v ∧ v < 100) (hu : u < 10) : cOk (dB D v u) := by
  obtain ⟨h1, h2, h3, h4, h5⟩ := h
  refine ⟨by show cb D + 1 ≤ 7; omega, h2, h3, fun b hb => ?_, h5⟩
  show 1 ≤ fs (cS D) (cb D) v b ∧ fs (cS D) (cb D) v b ≤ 99 ∧ fs (cC D) (cb D) u b ≤ 9
  have hb2 : b < cb D + 1 := hb
  unfold fs
  by_cases e : b = cb D
  · rw [if_pos e, if_pos e]; omega
  · rw [if_neg e, if_neg e]; exact h4 b (by omega)
theorem cOk_C {D : cD} {v u : Nat} (h : cOk D) (h7 : cc D < 12) (hv : 1 ≤ v ∧ v < 10) (hu : u < 10) : cOk (dC D v u) := by
  obtain ⟨h1, h2, h3, h4, h5⟩ := h
  refine ⟨h1, by show cc D + 1 ≤ 12; omega, h3, h4, fun b hb => ?_⟩
  show 1 ≤ fs (cH D) (cc D) v b ∧ fs (cH D) (cc D) v b ≤ 9 ∧ fs (cL D) (cc D) u b ≤ 9
  have hb2 : b < cc D + 1 := hb
  unfold fs
  by_cases e : b = cc D
  · rw [if_pos e, if_pos e]; omega
  · rw [if_neg e, if_neg e]; exact h5 b (by omega)
theorem cOk_K {D : cD} {v : Nat} (h : cOk D) (hv : 1 ≤ v ∧ v < 41) : cOk (dK D v) := ⟨h.1, h.2.1, by show 1 ≤ v ∧ v ≤ 40; omega, h.2.2.2.1, h.2.2.2.2⟩
theorem cOk_0 : cOk d0 := ⟨by decide, by decide, by decide, fun b hb => by simp [d0, cb] at hb, fun b hb => by simp [d0, cc] at hb⟩
theorem Co_B {D : cD} {v u : Nat} (h : Co I 9 D) : Co (up (up (up I 10 (cb D) (nI v)) 11 (cb D) (nI u)) 9 4 (nI (cb D + 1))) 9 (dB D v u) := by
  obtain ⟨h1, h2, h3, h4, h5⟩ := h
  refine ⟨rfl, ?_, ?_, fun b hb => ?_, fun c hc => ?_⟩
  · rw [up_k (by decide), up_a (by decide), up_a (by decide)]; exact h2
  · rw [up_k (by decide), up_a (by decide), up_a (by decide)]; exact h3
  · show _ = nI (fs (cS D) (cb D) v b) ∧ _ = nI (fs (cC D) (cb D) u b)
    have hb2 : b < cb D + 1 := hb
    unfold fs
    by_cases e : b = cb D
    · subst e; rw [if_pos rfl, if_pos rfl]; exact ⟨by simp [up], by simp [up]⟩
    · rw [if_neg e, if_neg e]
      have := h4 b (by omega)
      exact ⟨by simp [up, e]; exact this.1, by simp [up, e]; exact this.2⟩
  · have := h5 c hc
    exact ⟨by simp [up]; exact this.1, by simp [up]; exact this.2⟩
theorem Co_C {D : cD} {v u : Nat} (h : Co I 9 D) : Co (up (up (up I 12 (cc D) (nI v)) 13 (cc D) (nI u)) 9 5 (nI (cc D + 1))) 9 (dC D v u) := by
  obtain ⟨h1, h2, h3, h4, h5⟩ := h
  refine ⟨?_, rfl, ?_, fun b hb => ?_, fun c hc => ?_⟩
  · rw [up_k (by decide), up_a (by decide), up_a (by decide)]; exact h1
  · rw [up_k (by decide), up_a (by decide), up_a (by decide)]; exact h3
  · have := h4 b hb
    exact ⟨by simp [up]; exact this.1, by simp [up]; exact this.2⟩
  · show _ = nI (fs (cH D) (cc D) v c) ∧ _ = nI (fs (cL D) (cc D) u c)
    have hb2 : c < cc D + 1 := hc
    unfold fs
    by_cases e : c = cc D
    · subst e; rw [if_pos rfl, if_pos rfl]; exact ⟨by simp [up], by simp [up]⟩
    · rw [if_neg e, if_neg e]
      have := h5 c (by omega)
      exact ⟨by simp [up, e]; exact this.1, by simp [up, e]; exact this.2⟩
theorem Co_K {D : cD} {v : Nat} (h : Co I 9 D) : Co (up I 9 6 (nI v)) 9 (dK D v) := by
  obtain ⟨h1, h2, h3, h4, h5⟩ := h
  exact ⟨by rw [up_k (by decide)]; exact h1, by rw [up_k (by decide)]; exact h2, rfl, fun b hb => by simp [up]; exact h4 b hb, fun c hc => by simp [up]; exact h5 c hc⟩
/-- what reading changes in the class, the tape aside -/
def fC (I I' : Nat → Nat → Int32) : Prop := ∀ x j, (x < 9 ∨ (13 < x ∧ x < 18) ∨ (21 < x ∧ x < 24) ∨ 30 < x) → I' x j = I x j
theorem fC_r : fC I I := fun _ _ _ => rfl
theorem fC_t {I' I'' : Nat → Nat → Int32} (h : fC I I') (h2 : fC I' I'') : fC I I'' := fun x j q => (h2 x j q).trans (h x j q)
theorem fC_u {I' : Nat → Nat → Int32} {x k : Nat} {v : Int32} (h : fC I I') (hx : ¬ (x < 9 ∨ (13 < x ∧ x < 18) ∨ (21 < x ∧ x < 24) ∨ 30 < x)) : fC I (up I' x k v) := fun y j q => by rw [up_a (by intro e; subst e; exact hx q)]; exact h y j q
theorem tx_f {I' : Nat → Nat → Int32} (h : tx I t N) (f : fC I I') : tx I' t N := ⟨h.1, (f 2 2 (by omega)).trans h.2.1, fun i hi => ⟨(h.2.2 i hi).1, (f 3 i (by omega)).trans (h.2.2 i hi).2⟩⟩
/-- the text of one back, one council, the king; a clause; all of them -/
def rB (t : Nat → Nat) (N p : Nat) (D : cD) : Sum (Nat × Nat) (Nat × cD) := match nR t N p 1 100 with
  | .inl e => .inl e
  | .inr (v, q) => match nR t N q 0 10 with
    | .inl e => .inl e
    | .inr (u, z) => .inr (z, dB D v u)
def rC (t : Nat → Nat) (N p : Nat) (D : cD) : Sum (Nat × Nat) (Nat × cD) := match nR t N p 1 10 with
  | .inl e => .inl e
  | .inr (v, q) => match nR t N q 0 10 with
    | .inl e => .inl e
    | .inr (u, z) => .inr (z, dC D v u)
def rK (t : Nat → Nat) (N p : Nat) (D : cD) : Sum (Nat × Nat) (Nat × cD) := match nR t N p 1 41 with
  | .inl e => .inl e
  | .inr (v, q) => .inr (q, dK D v)
def rCl (t : Nat → Nat) (N p k : Nat) (D : cD) : Sum (Nat × Nat) (Nat × cD) :=
  if wB t N p 0 = false ∧ wB t N p 1 = false ∧ wB t N p 2 = false then .inl (1, p)
  else if (wB t N p 0 = true ∧ cb D = 7) ∨ (wB t N p 1 = true ∧ cc D = 12) ∨ 60 ≤ k then .inl (3, p)
  else if wB t N p 0 = true then rB t N (sk t N (wE t N p)) D else if wB t N p 1 = true then rC t N (sk t N (wE t N p)) D else rK t N (sk t N (wE t N p)) D
def rCo (t : Nat → Nat) (N : Nat) : Nat → Nat → Nat → cD → Sum (Nat × Nat) cD
  | 0, _, _, _ => .inl (0, 0)
  | f + 1, k, p, D => if N ≤ p then .inr D else match rCl t N p k D with
    | .inl e => .inl e
    | .inr (q, D') => match sR t N q 59 with
      | .inl e => .inl e
      | .inr z => rCo t N f (k + 1) z D'
theorem nR_ge {p lo hi v q : Nat} (h : nR t N p lo hi = .inr (v, q)) : p < q := by
  unfold nR at h
  split at h
  · rename_i h1
    split at h
    · injection h with h; injection h with _ h; subst h
      have h2 := sk_ge (t := t) (N := N) (a := dE t N p)
      have h3 := dE_one (t := t) h1.1 h1.2
      have h4 := dE_ge (t := t) (N := N) (a := p + 1)
      omega
    · cases h
  · cases h
theorem c_X1_readBack {D : cD} (hx : tx I t N) (ha : a ≤ N) (hD : Co I 9 D) (hk : cOk D) (h7 : cb D < 7) (hb : ∀ e a' wf' wt' I', rB t N a D = .inl e → fC I I' → Q (.inl (some (.int 0))) (Z (tp I' a' wf' wt' (nI e.1) (nI e.2)) J n w)) (hg : ∀ p D' I' wf' wt', rB t N a D = .inr (p, D') → p ≤ N → a ≤ p → fC I I' → Co I' 9 D' → cOk D' → Q (.inl (some (.int 1))) (Z (tp I' p wf' wt' fk fp) J n w)) : Cn g (d + 2) mX1_readBack [.ref 9, .ref 2] (Z (tp I a wf wt fk fp) J n w) Q := by
  have hN := hx.1
  have hc7 := hk.1
  have hc12 := hk.2.1
  show Rn g (d + 2) mX1_readBack 0 [.ref 9, .ref 2, .retAddr 0, .retAddr 0] [] [] (Z (tp I a wf wt fk fp) J n w) Q
  refine s_aload_n (pc := 0) (i := 1) dX1_readBack_0 rfl rfl ?_
  refine m_ic (pc := 1) (v := 1) dX1_readBack_1 rfl ?_
  refine m_bi (pc := 2) (v := 99) dX1_readBack_2 rfl ?_
  refine m_v2 (pc := 4) dX1_readBack_4 lk_X1_81 ok_X10_needNumber (rcO o_2 (by decide) rfl) rfl rfl (c_nn hx ha (lo1 := 1) (hi1 := 100) rfl rfl (by decide) (fun e a1 h1 => kt_s ?_) (fun v1 p1 h1 hv1 hv2 hp1 => kt_s ?_))
  · refine s_istore_n (pc := 7) (i := 2) dX1_readBack_7 rfl (Nat.le_of_ble_eq_true rfl) ?_
    dsimp only [List.set, List.filter]
    refine s_iload_n (pc := 8) (i := 2) dX1_readBack_8 rfl rfl ?_
    refine m_ic (pc := 9) (v := -1) dX1_readBack_9 rfl ?_
    refine s_icne (pc := 10) (tgt := 15) dX1_readBack_10 rfl (fun h10 => absurd h10 (by decide)) (fun h10 => ?_)
    refine m_ic (pc := 13) (v := 0) dX1_readBack_13 rfl ?_
    refine s_ireturn (pc := 14) dX1_readBack_14 rfl rfl ?_
    exact hb e a1 _ _ I (by unfold rB; rw [h1]) fC_r
  · refine s_istore_n (pc := 7) (i := 2) dX1_readBack_7 rfl (Nat.le_of_ble_eq_true rfl) ?_
    dsimp only [List.set, List.filter]
    refine s_iload_n (pc := 8) (i := 2) dX1_readBack_8 rfl rfl ?_
    refine m_ic (pc := 9) (v := -1) dX1_readBack_9 rfl ?_
    refine s_icne (pc := 10) (tgt := 15) dX1_readBack_10 rfl (fun h10 => ?_) (fun h10 => absurd h10 (nI_m1 (by omega)))
    refine s_aload_n (pc := 15) (i := 1) dX1_readBack_15 rfl rfl ?_
    refine m_ic (pc := 16) (v := 0) dX1_readBack_16 rfl ?_
    refine m_bi (pc := 17) (v := 9) dX1_readBack_17 rfl ?_
    refine m_v2 (pc := 19) dX1_readBack_19 lk_X1_81 ok_X10_needNumber (rcO o_2 (by decide) rfl) rfl rfl (c_nn hx hp1 (lo1 := 0) (hi1 := 10) rfl rfl (by decide) (fun e a1 h2 => kt_s ?_) (fun v2 p2 h2 hu1 hu2 hp2 => kt_s ?_))
    · refine s_istore_n (pc := 22) (i := 3) dX1_readBack_22 rfl (Nat.le_of_ble_eq_true rfl) ?_
      dsimp only [List.set, List.filter]
      refine s_iload_n (pc := 23) (i := 3) dX1_readBack_23 rfl rfl ?_
      refine m_ic (pc := 24) (v := -1) dX1_readBack_24 rfl ?_
      refine s_icne (pc := 25) (tgt := 30) dX1_readBack_25 rfl (fun h25 => absurd h25 (by decide)) (fun h25 => ?_)
      refine m_ic (pc := 28) (v := 0) dX1_readBack_28 rfl ?_
      refine s_ireturn (pc := 29) dX1_readBack_29 rfl rfl ?_
      exact hb e a1 _ _ I (by unfold rB; rw [h1]; simp only []; rw [h2]) fC_r
    · refine s_istore_n (pc := 22) (i := 3) dX1_readBack_22 rfl (Nat.le_of_ble_eq_true rfl) ?_
      dsimp only [List.set, List.filter]
      refine s_iload_n (pc := 23) (i := 3) dX1_readBack_23 rfl rfl ?_
      refine m_ic (pc := 24) (v := -1) dX1_readBack_24 rfl ?_
      refine s_icne (pc := 25) (tgt := 30) dX1_readBack_25 rfl (fun h25 => ?_) (fun h25 => absurd h25 (nI_m1 (by omega)))
      refine s_aload_n (pc := 30) (i := 0) dX1_readBack_30 rfl rfl ?_
      refine m_gr (pc := 31) dX1_readBack_31 ff_X1_9 rfl o_9 r_9_0 ?_
      refine s_aload_n (pc := 34) (i := 0) dX1_readBack_34 rfl rfl ?_
      refine m_gi (pc := 35) dX1_readBack_35 ff_X1_34 rfl o_9 ?_
      refine m_nm (v' := nI (cb D)) ((tp_o (by decide)).trans hD.1) ?_
      refine s_iload_n (pc := 38) (i := 2) dX1_readBack_38 rfl rfl ?_
      refine m_is (pc := 39) dX1_readBack_39 a_10 (vp_in_nI (by omega) (by decide)) ?_
      refine st_tp hx (by decide) (by decide) (fun I39 e39 hx => ?_)
      refine s_aload_n (pc := 40) (i := 0) dX1_readBack_40 rfl rfl ?_
      refine m_gr (pc := 41) dX1_readBack_41 ff_X1_15 rfl o_9 r_9_1 ?_
      refine s_aload_n (pc := 44) (i := 0) dX1_readBack_44 rfl rfl ?_
      refine m_gi (pc := 45) dX1_readBack_45 ff_X1_34 rfl o_9 ?_
      refine m_nm (v' := nI (cb D)) (by rw [tp_o (by decide), e39, up_a (by decide)]; exact hD.1) ?_
      refine s_iload_n (pc := 48) (i := 3) dX1_readBack_48 rfl rfl ?_
      refine m_is (pc := 49) dX1_readBack_49 a_11 (vp_in_nI (by omega) (by decide)) ?_
      refine st_tp hx (by decide) (by decide) (fun I49 e49 hx => ?_)
      refine s_aload_n (pc := 50) (i := 0) dX1_readBack_50 rfl rfl ?_
      refine s_dup (pc := 51) dX1_readBack_51 rfl ?_
      refine m_gi (pc := 52) dX1_readBack_52 ff_X1_34 rfl o_9 ?_
      refine m_nm (v' := nI (cb D)) (by rw [tp_o (by decide), e49, up_a (by decide), e39, up_a (by decide)]; exact hD.1) ?_
      refine m_ic (pc := 55) (v := 1) dX1_readBack_55 rfl ?_
      refine s_iadd (pc := 56) dX1_readBack_56 ?_
      refine m_nm (v' := nI (cb D + 1)) (nI_1 _) ?_
      refine m_pi (pc := 57) dX1_readBack_57 ff_X1_34 rfl rfl o_9 ?_
      refine st_tp hx (by decide) (by decide) (fun I57 e57 hx => ?_)
      refine m_ic (pc := 60) (v := 1) dX1_readBack_60 rfl ?_
      refine s_ireturn (pc := 61) dX1_readBack_61 rfl rfl ?_
      rw [nI_clamp (by omega)] at e39 e49
      have q1 := nR_ge h1
      have q2 := nR_ge h2
      subst e57; subst e49; subst e39
      exact hg p2 _ _ _ _ (by unfold rB; rw [h1]; simp only []; rw [h2]) hp2 (by omega) (fC_u (fC_u (fC_u fC_r (by decide)) (by decide)) (by decide)) (Co_B hD) (cOk_B hk h7 ⟨hv1, hv2⟩ hu2)
theorem c_X1_readCouncil {D : cD} (hx : tx I t N) (ha : a ≤ N) (hD : Co I 9 D) (hk : cOk D) (h7 : cc D < 12) (hb : ∀ e a' wf' wt' I', rC t N a D = .inl e → fC I I' → Q (.inl (some (.int 0))) (Z (tp I' a' wf' wt' (nI e.1) (nI e.2)) J n w)) (hg : ∀ p D' I' wf' wt', rC t N a D = .inr (p, D') → p ≤ N → a ≤ p → fC I I' → Co I' 9 D' → cOk D' → Q (.inl (some (.int 1))) (Z (tp I' p wf' wt' fk fp) J n w)) : Cn g (d + 2) mX1_readCouncil [.ref 9, .ref 2] (Z (tp I a wf wt fk fp) J n w) Q := by
  have hN := hx.1
  have hc7 := hk.1
  have hc12 := hk.2.1
  show Rn g (d + 2) mX1_readCouncil 0 [.ref 9, .ref 2, .retAddr 0, .retAddr 0] [] [] (Z (tp I a wf wt fk fp) J n w) Q
  refine s_aload_n (pc := 0) (i := 1) dX1_readCouncil_0 rfl rfl ?_
  refine m_ic (pc := 1) (v := 1) dX1_readCouncil_1 rfl ?_
  refine m_bi (pc := 2) (v := 9) dX1_readCouncil_2 rfl ?_
  refine m_v2 (pc := 4) dX1_readCouncil_4 lk_X1_81 ok_X10_needNumber (rcO o_2 (by decide) rfl) rfl rfl (c_nn hx ha (lo1 := 1) (hi1 := 10) rfl rfl (by decide) (fun e a1 h1 => kt_s ?_) (fun v1 p1 h1 hv1 hv2 hp1 => kt_s ?_))
  · refine s_istore_n (pc := 7) (i := 2) dX1_readCouncil_7 rfl (Nat.le_of_ble_eq_true rfl) ?_
    dsimp only [List.set, List.filter]
    refine s_iload_n (pc := 8) (i := 2) dX1_readCouncil_8 rfl rfl ?_
    refine m_ic (pc := 9) (v := -1) dX1_readCouncil_9 rfl ?_
    refine s_icne (pc := 10) (tgt := 15) dX1_readCouncil_10 rfl (fun h10 => absurd h10 (by decide)) (fun h10 => ?_)
    refine m_ic (pc := 13) (v := 0) dX1_readCouncil_13 rfl ?_
    refine s_ireturn (pc := 14) dX1_readCouncil_14 rfl rfl ?_
    exact hb e a1 _ _ I (by unfold rC; rw [h1]) fC_r
  · refine s_istore_n (pc := 7) (i := 2) dX1_readCouncil_7 rfl (Nat.le_of_ble_eq_true rfl) ?_
    dsimp only [List.set, List.filter]
    refine s_iload_n (pc := 8) (i := 2) dX1_readCouncil_8 rfl rfl ?_
    refine m_ic (pc := 9) (v := -1) dX1_readCouncil_9 rfl ?_
    refine s_icne (pc := 10) (tgt := 15) dX1_readCouncil_10 rfl (fun h10 => ?_) (fun h10 => absurd h10 (nI_m1 (by omega)))
    refine s_aload_n (pc := 15) (i := 1) dX1_readCouncil_15 rfl rfl ?_
    refine m_ic (pc := 16) (v := 0) dX1_readCouncil_16 rfl ?_
    refine m_bi (pc := 17) (v := 9) dX1_readCouncil_17 rfl ?_
    refine m_v2 (pc := 19) dX1_readCouncil_19 lk_X1_81 ok_X10_needNumber (rcO o_2 (by decide) rfl) rfl rfl (c_nn hx hp1 (lo1 := 0) (hi1 := 10) rfl rfl (by decide) (fun e a1 h2 => kt_s ?_) (fun v2 p2 h2 hu1 hu2 hp2 => kt_s ?_))
    · refine s_istore_n (pc := 22) (i := 3) dX1_readCouncil_22 rfl (Nat.le_of_ble_eq_true rfl) ?_
      dsimp only [List.set, List.filter]
      refine s_iload_n (pc := 23) (i := 3) dX1_readCouncil_23 rfl rfl ?_
      refine m_ic (pc := 24) (v := -1) dX1_readCouncil_24 rfl ?_
      refine s_icne (pc := 25) (tgt := 30) dX1_readCouncil_25 rfl (fun h25 => absurd h25 (by decide)) (fun h25 => ?_)
      refine m_ic (pc := 28) (v := 0) dX1_readCouncil_28 rfl ?_
      refine s_ireturn (pc := 29) dX1_readCouncil_29 rfl rfl ?_
      exact hb e a1 _ _ I (by unfold rC; rw [h1]; simp only []; rw [h2]) fC_r
    · refine s_istore_n (pc := 22) (i := 3) dX1_readCouncil_22 rfl (Nat.le_of_ble_eq_true rfl) ?_
      dsimp only [List.set, List.filter]
      refine s_iload_n (pc := 23) (i := 3) dX1_readCouncil_23 rfl rfl ?_
      refine m_ic (pc := 24) (v := -1) dX1_readCouncil_24 rfl ?_
      refine s_icne (pc := 25) (tgt := 30) dX1_readCouncil_25 rfl (fun h25 => ?_) (fun h25 => absurd h25 (nI_m1 (by omega)))
      refine s_aload_n (pc := 30) (i := 0) dX1_readCouncil_30 rfl rfl ?_
      refine m_gr (pc := 31) dX1_readCouncil_31 ff_X1_18 rfl o_9 r_9_2 ?_
      refine s_aload_n (pc := 34) (i := 0) dX1_readCouncil_34 rfl rfl ?_
      refine m_gi (pc := 35) dX1_readCouncil_35 ff_X1_37 rfl o_9 ?_
      refine m_nm (v' := nI (cc D)) ((tp_o (by decide)).trans hD.2.1) ?_
      refine s_iload_n (pc := 38) (i := 2) dX1_readCouncil_38 rfl rfl ?_
      refine m_is (pc := 39) dX1_readCouncil_39 a_12 (vp_in_nI (by omega) (by decide)) ?_
      refine st_tp hx (by decide) (by decide) (fun I39 e39 hx => ?_)
      refine s_aload_n (pc := 40) (i := 0) dX1_readCouncil_40 rfl rfl ?_
      refine m_gr (pc := 41) dX1_readCouncil_41 ff_X1_21 rfl o_9 r_9_3 ?_
      refine s_aload_n (pc := 44) (i := 0) dX1_readCouncil_44 rfl rfl ?_
      refine m_gi (pc := 45) dX1_readCouncil_45 ff_X1_37 rfl o_9 ?_
      refine m_nm (v' := nI (cc D)) (by rw [tp_o (by decide), e39, up_a (by decide)]; exact hD.2.1) ?_
      refine s_iload_n (pc := 48) (i := 3) dX1_readCouncil_48 rfl rfl ?_
      refine m_is (pc := 49) dX1_readCouncil_49 a_13 (vp_in_nI (by omega) (by decide)) ?_
      refine st_tp hx (by decide) (by decide) (fun I49 e49 hx => ?_)
      refine s_aload_n (pc := 50) (i := 0) dX1_readCouncil_50 rfl rfl ?_
      refine s_dup (pc := 51) dX1_readCouncil_51 rfl ?_
      refine m_gi (pc := 52) dX1_readCouncil_52 ff_X1_37 rfl o_9 ?_
      refine m_nm (v' := nI (cc D)) (by rw [tp_o (by decide), e49, up_a (by decide), e39, up_a (by decide)]; exact hD.2.1) ?_
      refine m_ic (pc := 55) (v := 1) dX1_readCouncil_55 rfl ?_
      refine s_iadd (pc := 56) dX1_readCouncil_56 ?_
      refine m_nm (v' := nI (cc D + 1)) (nI_1 _) ?_
      refine m_pi (pc := 57) dX1_readCouncil_57 ff_X1_37 rfl rfl o_9 ?_
      refine st_tp hx (by decide) (by decide) (fun I57 e57 hx => ?_)
      refine m_ic (pc := 60) (v := 1) dX1_readCouncil_60 rfl ?_
      refine s_ireturn (pc := 61) dX1_readCouncil_61 rfl rfl ?_
      rw [nI_clamp (by omega)] at e39 e49
      have q1 := nR_ge h1
      have q2 := nR_ge h2
      subst e57; subst e49; subst e39
      exact hg p2 _ _ _ _ (by unfold rC; rw [h1]; simp only []; rw [h2]) hp2 (by omega) (fC_u (fC_u (fC_u fC_r (by decide)) (by decide)) (by decide)) (Co_C hD) (cOk_C hk h7 ⟨hv1, hv2⟩ hu2)
theorem c_X1_readKing {D : cD} (hx : tx I t N) (ha : a ≤ N) (hD : Co I 9 D) (hk : cOk D) (hb : ∀ e a' wf' wt' I', rK t N a D = .inl e → fC I I' → Q (.inl (some (.int 0))) (Z (tp I' a' wf' wt' (nI e.1) (nI e.2)) J n w)) (hg : ∀ p D' I' wf' wt', rK t N a D = .inr (p, D') → p ≤ N → a ≤ p → fC I I' → Co I' 9 D' → cOk D' → Q (.inl (some (.int 1))) (Z (tp I' p wf' wt' fk fp) J n w)) : Cn g (d + 2) mX1_readKing [.ref 9, .ref 2] (Z (tp I a wf wt fk fp) J n w) Q := by
  have hN := hx.1
  show Rn g (d + 2) mX1_readKing 0 [.ref 9, .ref 2] [] [] (Z (tp I a wf wt fk fp) J n w) Q
  refine s_aload_n (pc := 0) (i := 0) dX1_readKing_0 rfl rfl ?_
  refine s_aload_n (pc := 1) (i := 1) dX1_readKing_1 rfl rfl ?_
  refine m_ic (pc := 2) (v := 1) dX1_readKing_2 rfl ?_
  refine m_bi (pc := 3) (v := 40) dX1_readKing_3 rfl ?_
  refine m_v2 (pc := 5) dX1_readKing_5 lk_X1_81 ok_X10_needNumber (rcO o_2 (by decide) rfl) rfl rfl (c_nn hx ha (lo1 := 1) (hi1 := 41) rfl rfl (by decide) (fun e a1 h1 => kt_s ?_) (fun v1 p1 h1 hv1 hv2 hp1 => kt_s ?_))
  · refine m_pi (pc := 8) dX1_readKing_8 ff_X1_24 rfl rfl o_9 ?_
    refine st_tp hx (by decide) (by decide) (fun I8 e8 hx => ?_)
    refine s_aload_n (pc := 11) (i := 0) dX1_readKing_11 rfl rfl ?_
    refine m_gi (pc := 12) dX1_readKing_12 ff_X1_24 rfl o_9 ?_
    refine m_nm (v' := -1) (by rw [tp_o (by decide), e8, up_s]) ?_
    refine m_ic (pc := 15) (v := -1) dX1_readKing_15 rfl ?_
    refine s_iceq (pc := 16) (tgt := 23) dX1_readKing_16 rfl (fun h16 => ?_) (fun h16 => absurd (rfl) h16)
    refine m_ic (pc := 23) (v := 0) dX1_readKing_23 rfl ?_
    refine s_ireturn (pc := 24) dX1_readKing_24 rfl rfl ?_
    subst e8
    exact hb e a1 _ _ _ (by unfold rK; rw [h1]) (fC_u fC_r (by decide))
  · refine m_pi (pc := 8) dX1_readKing_8 ff_X1_24 rfl rfl o_9 ?_
    refine st_tp hx (by decide) (by decide) (fun I8 e8 hx => ?_)
    refine s_aload_n (pc := 11) (i := 0) dX1_readKing_11 rfl rfl ?_
    refine m_gi (pc := 12) dX1_readKing_12 ff_X1_24 rfl o_9 ?_
    refine m_nm (v' := nI v1) (by rw [tp_o (by decide), e8, up_s]) ?_
    refine m_ic (pc := 15) (v := -1) dX1_readKing_15 rfl ?_
    refine s_iceq (pc := 16) (tgt := 23) dX1_readKing_16 rfl (fun h16 => absurd h16 (nI_m1 (by omega))) (fun h16 => ?_)
    refine m_ic (pc := 19) (v := 1) dX1_readKing_19 rfl ?_
    refine s_goto (pc := 20) (tgt := 24) dX1_readKing_20 rfl ?_
    refine s_ireturn (pc := 24) dX1_readKing_24 rfl rfl ?_
    subst e8
    exact hg p1 _ _ _ _ (by unfold rK; rw [h1]) hp1 (Nat.le_of_lt (nR_ge h1)) (fC_u fC_r (by decide)) (Co_K hD) (cOk_K hk ⟨hv1, hv2⟩)
theorem rC_no {p k q : Nat} {D D1 : cD} (h : 60 ≤ k) : rCl t N p k D = .inr (q, D1) → False := by
  unfold rCl
  intro e
  split at e
  · cases e
  · rw [if_pos (Or.inr (Or.inr h))] at e; cases e
theorem c_X1_readClause {D : cD} (hx : tx I t N) (ha : a ≤ N) (hD : Co I 9 D) (hk : cOk D) {k : Nat} (hk60 : k ≤ 60) (hb : ∀ e a' wf' wt' I', rCl t N a k D = .inl e → fC I I' → Q (.inl (some (.int 0))) (Z (tp I' a' wf' wt' (nI e.1) (nI e.2)) J n w)) (hg : ∀ p D' I' wf' wt', rCl t N a k D = .inr (p, D') → p ≤ N → a ≤ p → fC I I' → Co I' 9 D' → cOk D' → Q (.inl (some (.int 1))) (Z (tp I' p wf' wt' fk fp) J n w)) : Cn g (d + 5) mX1_readClause [.ref 9, .ref 2, .int (nI k)] (Z (tp I a wf wt fk fp) J n w) Q := by
  have hN := hx.1
  have hc7 := hk.1
  have hc12 := hk.2.1
  have e7 : (7 : Int32) = nI 7 := rfl
  have e12 : (12 : Int32) = nI 12 := rfl
  have e60 : (60 : Int32) = nI 60 := rfl
  have hw1 := wE_ge (t := t) (N := N) (a := a)
  have hw2 := wE_le (t := t) ha
  have hp := sk_le (t := t) hw2
  have hp2 := sk_ge (t := t) (N := N) (a := wE t N a)
  show Rn g (d + 5) mX1_readClause 0 [.ref 9, .ref 2, .int (nI k), .retAddr 0, .retAddr 0, .retAddr 0] [] [] (Z (tp I a wf wt fk fp) J n w) Q
  refine s_aload_n (pc := 0) (i := 1) dX1_readClause_0 rfl rfl ?_
  refine m_v0 (pc := 1) dX1_readClause_1 lk_X1_54 ok_X10_takeWord (rcO o_2 (by decide) rfl) rfl rfl (c_X10_takeWord hx ha (kt_v ?_))
  refine s_aload_n (pc := 4) (i := 1) dX1_readClause_4 rfl rfl ?_
  refine s_ldcS (pc := 5) (j := 0) dX1_readClause_5 sr_X1_57 rfl ?_
  refine m_v1 (pc := 7) dX1_readClause_7 lk_X1_59 ok_X10_isWord (rcO o_2 (by decide) rfl) rfl rfl (c_X10_isWord (j := 0) hx (by decide) hw1 hw2 (fun q0 => kt_s ?_) (fun q0 => kt_s ?_))
  · have b0 := wB_m.mpr q0
    refine s_istore_n (pc := 10) (i := 3) dX1_readClause_10 rfl (Nat.le_of_ble_eq_true rfl) ?_
    dsimp only [List.set, List.filter]
    refine s_aload_n (pc := 11) (i := 1) dX1_readClause_11 rfl rfl ?_
    refine s_ldcS (pc := 12) (j := 1) dX1_readClause_12 sr_X1_63 rfl ?_
    refine m_v1 (pc := 14) dX1_readClause_14 lk_X1_59 ok_X10_isWord (rcO o_2 (by decide) rfl) rfl rfl (c_X10_isWord (j := 1) hx (by decide) hw1 hw2 (fun q1 => kt_s ?_) (fun q1 => kt_s ?_))
    · have b1 := wB_m.mpr q1
      refine s_istore (pc := 17) (i := 4) dX1_readClause_17 (Nat.le_of_ble_eq_true rfl) ?_
      dsimp only [List.set, List.filter]
      refine s_iload_n (pc := 19) (i := 3) dX1_readClause_19 rfl rfl ?_
      refine s_ifne (pc := 20) (tgt := 43) dX1_readClause_20 rfl (fun h20 => ?_) (fun h20 => absurd h20 (by decide))
      refine s_iload_n (pc := 43) (i := 3) dX1_readClause_43 rfl rfl ?_
      refine s_ifeq (pc := 44) (tgt := 56) dX1_readClause_44 rfl (fun h44 => absurd h44 (by decide)) (fun h44 => ?_)
      refine s_aload_n (pc := 47) (i := 0) dX1_readClause_47 rfl rfl ?_
      refine m_gi (pc := 48) dX1_readClause_48 ff_X1_34 rfl o_9 ?_
      refine m_nm (v' := nI (cb D)) ((tp_o (by decide)).trans hD.1) ?_
      refine m_bi (pc := 51) (v := 7) dX1_readClause_51 rfl ?_
      refine s_icge (pc := 53) (tgt := 70) dX1_readClause_53 rfl (fun h53 => ?_) (fun h53 => ?_)
      · rw [e7, nI_leI (by omega) (by omega)] at h53
        refine m_ic (pc := 70) (v := 1) dX1_readClause_70 rfl ?_
        refine s_goto (pc := 71) (tgt := 75) dX1_readClause_71 rfl ?_
        refine s_istore (pc := 75) (i := 5) dX1_readClause_75 (Nat.le_of_ble_eq_true rfl) ?_
        dsimp only [List.set, List.filter]
        refine s_iload (pc := 77) (i := 5) dX1_readClause_77 rfl ?_
        refine s_ifne (pc := 79) (tgt := 88) dX1_readClause_79 rfl (fun h79 => ?_) (fun h79 => absurd h79 (by decide))
        refine s_aload_n (pc := 88) (i := 1) dX1_readClause_88 rfl rfl ?_
        refine m_ic (pc := 89) (v := 3) dX1_readClause_89 rfl ?_
        refine m_v1 (pc := 90) dX1_readClause_90 lk_X1_67 ok_X10_failWord (rcO o_2 (by decide) rfl) rfl rfl (c_X10_failWord (kt_s ?_))
        refine s_ireturn (pc := 93) dX1_readClause_93 rfl rfl ?_
        exact hb (3, a) _ _ _ I (by unfold rCl; rw [if_neg (by rintro ⟨z0, z1, z2⟩; first | exact absurd (z0.symm.trans b0) (by decide) | exact absurd (z1.symm.trans b1) (by decide) | exact absurd (z2.symm.trans b2) (by decide)), if_pos (by first | exact Or.inl ⟨b0, by omega⟩ | exact Or.inr (Or.inl ⟨b1, by omega⟩) | exact Or.inr (Or.inr (by omega)))]) fC_r
      · rw [e7, nI_leI (by omega) (by omega)] at h53
        refine s_iload (pc := 56) (i := 4) dX1_readClause_56 rfl ?_
        refine s_ifeq (pc := 58) (tgt := 74) dX1_readClause_58 rfl (fun h58 => absurd h58 (by decide)) (fun h58 => ?_)
        refine s_aload_n (pc := 61) (i := 0) dX1_readClause_61 rfl rfl ?_
        refine m_gi (pc := 62) dX1_readClause_62 ff_X1_37 rfl o_9 ?_
        refine m_nm (v' := nI (cc D)) ((tp_o (by decide)).trans hD.2.1) ?_
        refine m_bi (pc := 65) (v := 12) dX1_readClause_65 rfl ?_
        refine s_iclt (pc := 67) (tgt := 74) dX1_readClause_67 rfl (fun h67 => ?_) (fun h67 => ?_)
        · rw [e12, nI_ltI (by omega) (by omega)] at h67
          refine m_ic (pc := 74) (v := 0) dX1_readClause_74 rfl ?_
          refine s_istore (pc := 75) (i := 5) dX1_readClause_75 (Nat.le_of_ble_eq_true rfl) ?_
          dsimp only [List.set, List.filter]
          refine s_iload (pc := 77) (i := 5) dX1_readClause_77 rfl ?_
          refine s_ifne (pc := 79) (tgt := 88) dX1_readClause_79 rfl (fun h79 => absurd h79 (by decide)) (fun h79 => ?_)
          refine s_iload_n (pc := 82) (i := 2) dX1_readClause_82 rfl rfl ?_
          refine m_bi (pc := 83) (v := 60) dX1_readClause_83 rfl ?_
          refine s_iclt (pc := 85) (tgt := 94) dX1_readClause_85 rfl (fun h85 => ?_) (fun h85 => ?_)
          · rw [e60, nI_ltI (by omega) (by omega)] at h85
            refine s_iload_n (pc := 94) (i := 3) dX1_readClause_94 rfl rfl ?_
            refine s_ifeq (pc := 95) (tgt := 106) dX1_readClause_95 rfl (fun h95 => absurd h95 (by decide)) (fun h95 => ?_)
            refine s_aload_n (pc := 98) (i := 0) dX1_readClause_98 rfl rfl ?_
            refine s_aload_n (pc := 99) (i := 1) dX1_readClause_99 rfl rfl ?_
            refine m_v1 (pc := 100) dX1_readClause_100 lk_X1_71 ok_X1_readBack (rcO o_9 (by decide) rfl) rfl rfl (c_X1_readBack hx hp hD hk (by omega) (fun e a1 wf1 wt1 I1 h1 hf => kt_s ?_) (fun p1 D1 I1 wf1 wt1 h1 h2 h8 h3 h4 h5 => kt_s ?_))
            · refine s_goto (pc := 103) (tgt := 124) dX1_readClause_103 rfl ?_
              refine s_ireturn (pc := 124) dX1_readClause_124 rfl rfl ?_
              first | exact hb e a1 wf1 wt1 I1 (by rw [← h1]; unfold rCl; rw [if_neg (by rintro ⟨z0, z1, z2⟩; first | exact absurd (z0.symm.trans b0) (by decide) | exact absurd (z1.symm.trans b1) (by decide) | exact absurd (z2.symm.trans b2) (by decide)), if_neg (by rintro (⟨z, z2⟩ | ⟨z, z2⟩ | z) <;> first | omega | exact absurd (z.symm.trans b0) (by decide) | exact absurd (z.symm.trans b1) (by decide))]; first | rw [if_pos b0] | rw [if_neg (by rw [b0]; decide), if_pos b1] | rw [if_neg (by rw [b0]; decide), if_neg (by rw [b1]; decide)]) hf | exact hg p1 D1 I1 wf1 wt1 (by rw [← h1]; unfold rCl; rw [if_neg (by rintro ⟨z0, z1, z2⟩; first | exact absurd (z0.symm.trans b0) (by decide) | exact absurd (z1.symm.trans b1) (by decide) | exact absurd (z2.symm.trans b2) (by decide)), if_neg (by rintro (⟨z, z2⟩ | ⟨z, z2⟩ | z) <;> first | omega | exact absurd (z.symm.trans b0) (by decide) | exact absurd (z.symm.trans b1) (by decide))]; first | rw [if_pos b0] | rw [if_neg (by rw [b0]; decide), if_pos b1] | rw [if_neg (by rw [b0]; decide), if_neg (by rw [b1]; decide)]) h2 (by omega) h3 h4 h5
            · refine s_goto (pc := 103) (tgt := 124) dX1_readClause_103 rfl ?_
              refine s_ireturn (pc := 124) dX1_readClause_124 rfl rfl ?_
              first | exact hb e a1 wf1 wt1 I1 (by rw [← h1]; unfold rCl; rw [if_neg (by rintro ⟨z0, z1, z2⟩; first | exact absurd (z0.symm.trans b0) (by decide) | exact absurd (z1.symm.trans b1) (by decide) | exact absurd (z2.symm.trans b2) (by decide)), if_neg (by rintro (⟨z, z2⟩ | ⟨z, z2⟩ | z) <;> first | omega | exact absurd (z.symm.trans b0) (by decide) | exact absurd (z.symm.trans b1) (by decide))]; first | rw [if_pos b0] | rw [if_neg (by rw [b0]; decide), if_pos b1] | rw [if_neg (by rw [b0]; decide), if_neg (by rw [b1]; decide)]) hf | exact hg p1 D1 I1 wf1 wt1 (by rw [← h1]; unfold rCl; rw [if_neg (by rintro ⟨z0, z1, z2⟩; first | exact absurd (z0.symm.trans b0) (by decide) | exact absurd (z1.symm.trans b1) (by decide) | exact absurd (z2.symm.trans b2) (by decide)), if_neg (by rintro (⟨z, z2⟩ | ⟨z, z2⟩ | z) <;> first | omega | exact absurd (z.symm.trans b0) (by decide) | exact absurd (z.symm.trans b1) (by decide))]; first | rw [if_pos b0] | rw [if_neg (by rw [b0]; decide), if_pos b1] | rw [if_neg (by rw [b0]; decide), if_neg (by rw [b1]; decide)]) h2 (by omega) h3 h4 h5
          · rw [e60, nI_ltI (by omega) (by omega)] at h85
            refine s_aload_n (pc := 88) (i := 1) dX1_readClause_88 rfl rfl ?_
            refine m_ic (pc := 89) (v := 3) dX1_readClause_89 rfl ?_
            refine m_v1 (pc := 90) dX1_readClause_90 lk_X1_67 ok_X10_failWord (rcO o_2 (by decide) rfl) rfl rfl (c_X10_failWord (kt_s ?_))
            refine s_ireturn (pc := 93) dX1_readClause_93 rfl rfl ?_
            exact hb (3, a) _ _ _ I (by unfold rCl; rw [if_neg (by rintro ⟨z0, z1, z2⟩; first | exact absurd (z0.symm.trans b0) (by decide) | exact absurd (z1.symm.trans b1) (by decide) | exact absurd (z2.symm.trans b2) (by decide)), if_pos (by first | exact Or.inl ⟨b0, by omega⟩ | exact Or.inr (Or.inl ⟨b1, by omega⟩) | exact Or.inr (Or.inr (by omega)))]) fC_r
        · rw [e12, nI_ltI (by omega) (by omega)] at h67
          refine m_ic (pc := 70) (v := 1) dX1_readClause_70 rfl ?_
          refine s_goto (pc := 71) (tgt := 75) dX1_readClause_71 rfl ?_
          refine s_istore (pc := 75) (i := 5) dX1_readClause_75 (Nat.le_of_ble_eq_true rfl) ?_
          dsimp only [List.set, List.filter]
          refine s_iload (pc := 77) (i := 5) dX1_readClause_77 rfl ?_
          refine s_ifne (pc := 79) (tgt := 88) dX1_readClause_79 rfl (fun h79 => ?_) (fun h79 => absurd h79 (by decide))
          refine s_aload_n (pc := 88) (i := 1) dX1_readClause_88 rfl rfl ?_
          refine m_ic (pc := 89) (v := 3) dX1_readClause_89 rfl ?_
          refine m_v1 (pc := 90) dX1_readClause_90 lk_X1_67 ok_X10_failWord (rcO o_2 (by decide) rfl) rfl rfl (c_X10_failWord (kt_s ?_))
          refine s_ireturn (pc := 93) dX1_readClause_93 rfl rfl ?_
          exact hb (3, a) _ _ _ I (by unfold rCl; rw [if_neg (by rintro ⟨z0, z1, z2⟩; first | exact absurd (z0.symm.trans b0) (by decide) | exact absurd (z1.symm.trans b1) (by decide) | exact absurd (z2.symm.trans b2) (by decide)), if_pos (by first | exact Or.inl ⟨b0, by omega⟩ | exact Or.inr (Or.inl ⟨b1, by omega⟩) | exact Or.inr (Or.inr (by omega)))]) fC_r
    · have b1 := wB_f.mpr q1
      refine s_istore (pc := 17) (i := 4) dX1_readClause_17 (Nat.le_of_ble_eq_true rfl) ?_
      dsimp only [List.set, List.filter]
      refine s_iload_n (pc := 19) (i := 3) dX1_readClause_19 rfl rfl ?_
      refine s_ifne (pc := 20) (tgt := 43) dX1_readClause_20 rfl (fun h20 => ?_) (fun h20 => absurd h20 (by decide))
      refine s_iload_n (pc := 43) (i := 3) dX1_readClause_43 rfl rfl ?_
      refine s_ifeq (pc := 44) (tgt := 56) dX1_readClause_44 rfl (fun h44 => absurd h44 (by decide)) (fun h44 => ?_)
      refine s_aload_n (pc := 47) (i := 0) dX1_readClause_47 rfl rfl ?_
      refine m_gi (pc := 48) dX1_readClause_48 ff_X1_34 rfl o_9 ?_
      refine m_nm (v' := nI (cb D)) ((tp_o (by decide)).trans hD.1) ?_
      refine m_bi (pc := 51) (v := 7) dX1_readClause_51 rfl ?_
      refine s_icge (pc := 53) (tgt := 70) dX1_readClause_53 rfl (fun h53 => ?_) (fun h53 => ?_)
      · rw [e7, nI_leI (by omega) (by omega)] at h53
        refine m_ic (pc := 70) (v := 1) dX1_readClause_70 rfl ?_
        refine s_goto (pc := 71) (tgt := 75) dX1_readClause_71 rfl ?_
        refine s_istore (pc := 75) (i := 5) dX1_readClause_75 (Nat.le_of_ble_eq_true rfl) ?_
        dsimp only [List.set, List.filter]
        refine s_iload (pc := 77) (i := 5) dX1_readClause_77 rfl ?_
        refine s_ifne (pc := 79) (tgt := 88) dX1_readClause_79 rfl (fun h79 => ?_) (fun h79 => absurd h79 (by decide))
        refine s_aload_n (pc := 88) (i := 1) dX1_readClause_88 rfl rfl ?_
        refine m_ic (pc := 89) (v := 3) dX1_readClause_89 rfl ?_
        refine m_v1 (pc := 90) dX1_readClause_90 lk_X1_67 ok_X10_failWord (rcO o_2 (by decide) rfl) rfl rfl (c_X10_failWord (kt_s ?_))
        refine s_ireturn (pc := 93) dX1_readClause_93 rfl rfl ?_
        exact hb (3, a) _ _ _ I (by unfold rCl; rw [if_neg (by rintro ⟨z0, z1, z2⟩; first | exact absurd (z0.symm.trans b0) (by decide) | exact absurd (z1.symm.trans b1) (by decide) | exact absurd (z2.symm.trans b2) (by decide)), if_pos (by first | exact Or.inl ⟨b0, by omega⟩ | exact Or.inr (Or.inl ⟨b1, by omega⟩) | exact Or.inr (Or.inr (by omega)))]) fC_r
      · rw [e7, nI_leI (by omega) (by omega)] at h53
        refine s_iload (pc := 56) (i := 4) dX1_readClause_56 rfl ?_
        refine s_ifeq (pc := 58) (tgt := 74) dX1_readClause_58 rfl (fun h58 => ?_) (fun h58 => absurd h58 (by decide))
        refine m_ic (pc := 74) (v := 0) dX1_readClause_74 rfl ?_
        refine s_istore (pc := 75) (i := 5) dX1_readClause_75 (Nat.le_of_ble_eq_true rfl) ?_
        dsimp only [List.set, List.filter]
        refine s_iload (pc := 77) (i := 5) dX1_readClause_77 rfl ?_
        refine s_ifne (pc := 79) (tgt := 88) dX1_readClause_79 rfl (fun h79 => absurd h79 (by decide)) (fun h79 => ?_)
        refine s_iload_n (pc := 82) (i := 2) dX1_readClause_82 rfl rfl ?_
        refine m_bi (pc := 83) (v := 60) dX1_readClause_83 rfl ?_
        refine s_iclt (pc := 85) (tgt := 94) dX1_readClause_85 rfl (fun h85 => ?_) (fun h85 => ?_)
        · rw [e60, nI_ltI (by omega) (by omega)] at h85
          refine s_iload_n (pc := 94) (i := 3) dX1_readClause_94 rfl rfl ?_
          refine s_ifeq (pc := 95) (tgt := 106) dX1_readClause_95 rfl (fun h95 => absurd h95 (by decide)) (fun h95 => ?_)
          refine s_aload_n (pc := 98) (i := 0) dX1_readClause_98 rfl rfl ?_
          refine s_aload_n (pc := 99) (i := 1) dX1_readClause_99 rfl rfl ?_
          refine m_v1 (pc := 100) dX1_readClause_100 lk_X1_71 ok_X1_readBack (rcO o_9 (by decide) rfl) rfl rfl (c_X1_readBack hx hp hD hk (by omega) (fun e a1 wf1 wt1 I1 h1 hf => kt_s ?_) (fun p1 D1 I1 wf1 wt1 h1 h2 h8 h3 h4 h5 => kt_s ?_))
          · refine s_goto (pc := 103) (tgt := 124) dX1_readClause_103 rfl ?_
            refine s_ireturn (pc := 124) dX1_readClause_124 rfl rfl ?_
            first | exact hb e a1 wf1 wt1 I1 (by rw [← h1]; unfold rCl; rw [if_neg (by rintro ⟨z0, z1, z2⟩; first | exact absurd (z0.symm.trans b0) (by decide) | exact absurd (z1.symm.trans b1) (by decide) | exact absurd (z2.symm.trans b2) (by decide)), if_neg (by rintro (⟨z, z2⟩ | ⟨z, z2⟩ | z) <;> first | omega | exact absurd (z.symm.trans b0) (by decide) | exact absurd (z.symm.trans b1) (by decide))]; first | rw [if_pos b0] | rw [if_neg (by rw [b0]; decide), if_pos b1] | rw [if_neg (by rw [b0]; decide), if_neg (by rw [b1]; decide)]) hf | exact hg p1 D1 I1 wf1 wt1 (by rw [← h1]; unfold rCl; rw [if_neg (by rintro ⟨z0, z1, z2⟩; first | exact absurd (z0.symm.trans b0) (by decide) | exact absurd (z1.symm.trans b1) (by decide) | exact absurd (z2.symm.trans b2) (by decide)), if_neg (by rintro (⟨z, z2⟩ | ⟨z, z2⟩ | z) <;> first | omega | exact absurd (z.symm.trans b0) (by decide) | exact absurd (z.symm.trans b1) (by decide))]; first | rw [if_pos b0] | rw [if_neg (by rw [b0]; decide), if_pos b1] | rw [if_neg (by rw [b0]; decide), if_neg (by rw [b1]; decide)]) h2 (by omega) h3 h4 h5
          · refine s_goto (pc := 103) (tgt := 124) dX1_readClause_103 rfl ?_
            refine s_ireturn (pc := 124) dX1_readClause_124 rfl rfl ?_
            first | exact hb e a1 wf1 wt1 I1 (by rw [← h1]; unfold rCl; rw [if_neg (by rintro ⟨z0, z1, z2⟩; first | exact absurd (z0.symm.trans b0) (by decide) | exact absurd (z1.symm.trans b1) (by decide) | exact absurd (z2.symm.trans b2) (by decide)), if_neg (by rintro (⟨z, z2⟩ | ⟨z, z2⟩ | z) <;> first | omega | exact absurd (z.symm.trans b0) (by decide) | exact absurd (z.symm.trans b1) (by decide))]; first | rw [if_pos b0] | rw [if_neg (by rw [b0]; decide), if_pos b1] | rw [if_neg (by rw [b0]; decide), if_neg (by rw [b1]; decide)]) hf | exact hg p1 D1 I1 wf1 wt1 (by rw [← h1]; unfold rCl; rw [if_neg (by rintro ⟨z0, z1, z2⟩; first | exact absurd (z0.symm.trans b0) (by decide) | exact absurd (z1.symm.trans b1) (by decide) | exact absurd (z2.symm.trans b2) (by decide)), if_neg (by rintro (⟨z, z2⟩ | ⟨z, z2⟩ | z) <;> first | omega | exact absurd (z.symm.trans b0) (by decide) | exact absurd (z.symm.trans b1) (by decide))]; first | rw [if_pos b0] | rw [if_neg (by rw [b0]; decide), if_pos b1] | rw [if_neg (by rw [b0]; decide), if_neg (by rw [b1]; decide)]) h2 (by omega) h3 h4 h5
        · rw [e60, nI_ltI (by omega) (by omega)] at h85
          refine s_aload_n (pc := 88) (i := 1) dX1_readClause_88 rfl rfl ?_
          refine m_ic (pc := 89) (v := 3) dX1_readClause_89 rfl ?_
          refine m_v1 (pc := 90) dX1_readClause_90 lk_X1_67 ok_X10_failWord (rcO o_2 (by decide) rfl) rfl rfl (c_X10_failWord (kt_s ?_))
          refine s_ireturn (pc := 93) dX1_readClause_93 rfl rfl ?_
          exact hb (3, a) _ _ _ I (by unfold rCl; rw [if_neg (by rintro ⟨z0, z1, z2⟩; first | exact absurd (z0.symm.trans b0) (by decide) | exact absurd (z1.symm.trans b1) (by decide) | exact absurd (z2.symm.trans b2) (by decide)), if_pos (by first | exact Or.inl ⟨b0, by omega⟩ | exact Or.inr (Or.inl ⟨b1, by omega⟩) | exact Or.inr (Or.inr (by omega)))]) fC_r
  · have b0 := wB_f.mpr q0
    refine s_istore_n (pc := 10) (i := 3) dX1_readClause_10 rfl (Nat.le_of_ble_eq_true rfl) ?_
    dsimp only [List.set, List.filter]
    refine s_aload_n (pc := 11) (i := 1) dX1_readClause_11 rfl rfl ?_
    refine s_ldcS (pc := 12) (j := 1) dX1_readClause_12 sr_X1_63 rfl ?_
    refine m_v1 (pc := 14) dX1_readClause_14 lk_X1_59 ok_X10_isWord (rcO o_2 (by decide) rfl) rfl rfl (c_X10_isWord (j := 1) hx (by decide) hw1 hw2 (fun q1 => kt_s ?_) (fun q1 => kt_s ?_))
    · have b1 := wB_m.mpr q1
      refine s_istore (pc := 17) (i := 4) dX1_readClause_17 (Nat.le_of_ble_eq_true rfl) ?_
      dsimp only [List.set, List.filter]
      refine s_iload_n (pc := 19) (i := 3) dX1_readClause_19 rfl rfl ?_
      refine s_ifne (pc := 20) (tgt := 43) dX1_readClause_20 rfl (fun h20 => absurd h20 (by decide)) (fun h20 => ?_)
      refine s_iload (pc := 23) (i := 4) dX1_readClause_23 rfl ?_
      refine s_ifne (pc := 25) (tgt := 43) dX1_readClause_25 rfl (fun h25 => ?_) (fun h25 => absurd h25 (by decide))
      refine s_iload_n (pc := 43) (i := 3) dX1_readClause_43 rfl rfl ?_
      refine s_ifeq (pc := 44) (tgt := 56) dX1_readClause_44 rfl (fun h44 => ?_) (fun h44 => absurd h44 (by decide))
      refine s_iload (pc := 56) (i := 4) dX1_readClause_56 rfl ?_
      refine s_ifeq (pc := 58) (tgt := 74) dX1_readClause_58 rfl (fun h58 => absurd h58 (by decide)) (fun h58 => ?_)
      refine s_aload_n (pc := 61) (i := 0) dX1_readClause_61 rfl rfl ?_
      refine m_gi (pc := 62) dX1_readClause_62 ff_X1_37 rfl o_9 ?_
      refine m_nm (v' := nI (cc D)) ((tp_o (by decide)).trans hD.2.1) ?_
      refine m_bi (pc := 65) (v := 12) dX1_readClause_65 rfl ?_
      refine s_iclt (pc := 67) (tgt := 74) dX1_readClause_67 rfl (fun h67 => ?_) (fun h67 => ?_)
      · rw [e12, nI_ltI (by omega) (by omega)] at h67
        refine m_ic (pc := 74) (v := 0) dX1_readClause_74 rfl ?_
        refine s_istore (pc := 75) (i := 5) dX1_readClause_75 (Nat.le_of_ble_eq_true rfl) ?_
        dsimp only [List.set, List.filter]
        refine s_iload (pc := 77) (i := 5) dX1_readClause_77 rfl ?_
        refine s_ifne (pc := 79) (tgt := 88) dX1_readClause_79 rfl (fun h79 => absurd h79 (by decide)) (fun h79 => ?_)
        refine s_iload_n (pc := 82) (i := 2) dX1_readClause_82 rfl rfl ?_
        refine m_bi (pc := 83) (v := 60) dX1_readClause_83 rfl ?_
        refine s_iclt (pc := 85) (tgt := 94) dX1_readClause_85 rfl (fun h85 => ?_) (fun h85 => ?_)
        · rw [e60, nI_ltI (by omega) (by omega)] at h85
          refine s_iload_n (pc := 94) (i := 3) dX1_readClause_94 rfl rfl ?_
          refine s_ifeq (pc := 95) (tgt := 106) dX1_readClause_95 rfl (fun h95 => ?_) (fun h95 => absurd h95 (by decide))
          refine s_iload (pc := 106) (i := 4) dX1_readClause_106 rfl ?_
          refine s_ifeq (pc := 108) (tgt := 119) dX1_readClause_108 rfl (fun h108 => absurd h108 (by decide)) (fun h108 => ?_)
          refine s_aload_n (pc := 111) (i := 0) dX1_readClause_111 rfl rfl ?_
          refine s_aload_n (pc := 112) (i := 1) dX1_readClause_112 rfl rfl ?_
          refine m_v1 (pc := 113) dX1_readClause_113 lk_X1_75 ok_X1_readCouncil (rcO o_9 (by decide) rfl) rfl rfl (c_X1_readCouncil hx hp hD hk (by omega) (fun e a1 wf1 wt1 I1 h1 hf => kt_s ?_) (fun p1 D1 I1 wf1 wt1 h1 h2 h8 h3 h4 h5 => kt_s ?_))
          · refine s_goto (pc := 116) (tgt := 124) dX1_readClause_116 rfl ?_
            refine s_ireturn (pc := 124) dX1_readClause_124 rfl rfl ?_
            first | exact hb e a1 wf1 wt1 I1 (by rw [← h1]; unfold rCl; rw [if_neg (by rintro ⟨z0, z1, z2⟩; first | exact absurd (z0.symm.trans b0) (by decide) | exact absurd (z1.symm.trans b1) (by decide) | exact absurd (z2.symm.trans b2) (by decide)), if_neg (by rintro (⟨z, z2⟩ | ⟨z, z2⟩ | z) <;> first | omega | exact absurd (z.symm.trans b0) (by decide) | exact absurd (z.symm.trans b1) (by decide))]; first | rw [if_pos b0] | rw [if_neg (by rw [b0]; decide), if_pos b1] | rw [if_neg (by rw [b0]; decide), if_neg (by rw [b1]; decide)]) hf | exact hg p1 D1 I1 wf1 wt1 (by rw [← h1]; unfold rCl; rw [if_neg (by rintro ⟨z0, z1, z2⟩; first | exact absurd (z0.symm.trans b0) (by decide) | exact absurd (z1.symm.trans b1) (by decide) | exact absurd (z2.symm.trans b2) (by decide)), if_neg (by rintro (⟨z, z2⟩ | ⟨z, z2⟩ | z) <;> first | omega | exact absurd (z.symm.trans b0) (by decide) | exact absurd (z.symm.trans b1) (by decide))]; first | rw [if_pos b0] | rw [if_neg (by rw [b0]; decide), if_pos b1] | rw [if_neg (by rw [b0]; decide), if_neg (by rw [b1]; decide)]) h2 (by omega) h3 h4 h5
          · refine s_goto (pc := 116) (tgt := 124) dX1_readClause_116 rfl ?_
            refine s_ireturn (pc := 124) dX1_readClause_124 rfl rfl ?_
            first | exact hb e a1 wf1 wt1 I1 (by rw [← h1]; unfold rCl; rw [if_neg (by rintro ⟨z0, z1, z2⟩; first | exact absurd (z0.symm.trans b0) (by decide) | exact absurd (z1.symm.trans b1) (by decide) | exact absurd (z2.symm.trans b2) (by decide)), if_neg (by rintro (⟨z, z2⟩ | ⟨z, z2⟩ | z) <;> first | omega | exact absurd (z.symm.trans b0) (by decide) | exact absurd (z.symm.trans b1) (by decide))]; first | rw [if_pos b0] | rw [if_neg (by rw [b0]; decide), if_pos b1] | rw [if_neg (by rw [b0]; decide), if_neg (by rw [b1]; decide)]) hf | exact hg p1 D1 I1 wf1 wt1 (by rw [← h1]; unfold rCl; rw [if_neg (by rintro ⟨z0, z1, z2⟩; first | exact absurd (z0.symm.trans b0) (by decide) | exact absurd (z1.symm.trans b1) (by decide) | exact absurd (z2.symm.trans b2) (by decide)), if_neg (by rintro (⟨z, z2⟩ | ⟨z, z2⟩ | z) <;> first | omega | exact absurd (z.symm.trans b0) (by decide) | exact absurd (z.symm.trans b1) (by decide))]; first | rw [if_pos b0] | rw [if_neg (by rw [b0]; decide), if_pos b1] | rw [if_neg (by rw [b0]; decide), if_neg (by rw [b1]; decide)]) h2 (by omega) h3 h4 h5
        · rw [e60, nI_ltI (by omega) (by omega)] at h85
          refine s_aload_n (pc := 88) (i := 1) dX1_readClause_88 rfl rfl ?_
          refine m_ic (pc := 89) (v := 3) dX1_readClause_89 rfl ?_
          refine m_v1 (pc := 90) dX1_readClause_90 lk_X1_67 ok_X10_failWord (rcO o_2 (by decide) rfl) rfl rfl (c_X10_failWord (kt_s ?_))
          refine s_ireturn (pc := 93) dX1_readClause_93 rfl rfl ?_
          exact hb (3, a) _ _ _ I (by unfold rCl; rw [if_neg (by rintro ⟨z0, z1, z2⟩; first | exact absurd (z0.symm.trans b0) (by decide) | exact absurd (z1.symm.trans b1) (by decide) | exact absurd (z2.symm.trans b2) (by decide)), if_pos (by first | exact Or.inl ⟨b0, by omega⟩ | exact Or.inr (Or.inl ⟨b1, by omega⟩) | exact Or.inr (Or.inr (by omega)))]) fC_r
      · rw [e12, nI_ltI (by omega) (by omega)] at h67
        refine m_ic (pc := 70) (v := 1) dX1_readClause_70 rfl ?_
        refine s_goto (pc := 71) (tgt := 75) dX1_readClause_71 rfl ?_
        refine s_istore (pc := 75) (i := 5) dX1_readClause_75 (Nat.le_of_ble_eq_true rfl) ?_
        dsimp only [List.set, List.filter]
        refine s_iload (pc := 77) (i := 5) dX1_readClause_77 rfl ?_
        refine s_ifne (pc := 79) (tgt := 88) dX1_readClause_79 rfl (fun h79 => ?_) (fun h79 => absurd h79 (by decide))
        refine s_aload_n (pc := 88) (i := 1) dX1_readClause_88 rfl rfl ?_
        refine m_ic (pc := 89) (v := 3) dX1_readClause_89 rfl ?_
        refine m_v1 (pc := 90) dX1_readClause_90 lk_X1_67 ok_X10_failWord (rcO o_2 (by decide) rfl) rfl rfl (c_X10_failWord (kt_s ?_))
        refine s_ireturn (pc := 93) dX1_readClause_93 rfl rfl ?_
        exact hb (3, a) _ _ _ I (by unfold rCl; rw [if_neg (by rintro ⟨z0, z1, z2⟩; first | exact absurd (z0.symm.trans b0) (by decide) | exact absurd (z1.symm.trans b1) (by decide) | exact absurd (z2.symm.trans b2) (by decide)), if_pos (by first | exact Or.inl ⟨b0, by omega⟩ | exact Or.inr (Or.inl ⟨b1, by omega⟩) | exact Or.inr (Or.inr (by omega)))]) fC_r
    · have b1 := wB_f.mpr q1
      refine s_istore (pc := 17) (i := 4) dX1_readClause_17 (Nat.le_of_ble_eq_true rfl) ?_
      dsimp only [List.set, List.filter]
      refine s_iload_n (pc := 19) (i := 3) dX1_readClause_19 rfl rfl ?_
      refine s_ifne (pc := 20) (tgt := 43) dX1_readClause_20 rfl (fun h20 => absurd h20 (by decide)) (fun h20 => ?_)
      refine s_iload (pc := 23) (i := 4) dX1_readClause_23 rfl ?_
      refine s_ifne (pc := 25) (tgt := 43) dX1_readClause_25 rfl (fun h25 => absurd h25 (by decide)) (fun h25 => ?_)
      refine s_aload_n (pc := 28) (i := 1) dX1_readClause_28 rfl rfl ?_
      refine s_ldcS (pc := 29) (j := 2) dX1_readClause_29 sr_X1_65 rfl ?_
      refine m_v1 (pc := 31) dX1_readClause_31 lk_X1_59 ok_X10_isWord (rcO o_2 (by decide) rfl) rfl rfl (c_X10_isWord (j := 2) hx (by decide) hw1 hw2 (fun q2 => kt_s ?_) (fun q2 => kt_s ?_))
      · have b2 := wB_m.mpr q2
        refine s_ifne (pc := 34) (tgt := 43) dX1_readClause_34 rfl (fun h34 => ?_) (fun h34 => absurd h34 (by decide))
        refine s_iload_n (pc := 43) (i := 3) dX1_readClause_43 rfl rfl ?_
        refine s_ifeq (pc := 44) (tgt := 56) dX1_readClause_44 rfl (fun h44 => ?_) (fun h44 => absurd h44 (by decide))
        refine s_iload (pc := 56) (i := 4) dX1_readClause_56 rfl ?_
        refine s_ifeq (pc := 58) (tgt := 74) dX1_readClause_58 rfl (fun h58 => ?_) (fun h58 => absurd h58 (by decide))
        refine m_ic (pc := 74) (v := 0) dX1_readClause_74 rfl ?_
        refine s_istore (pc := 75) (i := 5) dX1_readClause_75 (Nat.le_of_ble_eq_true rfl) ?_
        dsimp only [List.set, List.filter]
        refine s_iload (pc := 77) (i := 5) dX1_readClause_77 rfl ?_
        refine s_ifne (pc := 79) (tgt := 88) dX1_readClause_79 rfl (fun h79 => absurd h79 (by decide)) (fun h79 => ?_)
        refine s_iload_n (pc := 82) (i := 2) dX1_readClause_82 rfl rfl ?_
        refine m_bi (pc := 83) (v := 60) dX1_readClause_83 rfl ?_
        refine s_iclt (pc := 85) (tgt := 94) dX1_readClause_85 rfl (fun h85 => ?_) (fun h85 => ?_)
        · rw [e60, nI_ltI (by omega) (by omega)] at h85
          refine s_iload_n (pc := 94) (i := 3) dX1_readClause_94 rfl rfl ?_
          refine s_ifeq (pc := 95) (tgt := 106) dX1_readClause_95 rfl (fun h95 => ?_) (fun h95 => absurd h95 (by decide))
          refine s_iload (pc := 106) (i := 4) dX1_readClause_106 rfl ?_
          refine s_ifeq (pc := 108) (tgt := 119) dX1_readClause_108 rfl (fun h108 => ?_) (fun h108 => absurd h108 (by decide))
          refine s_aload_n (pc := 119) (i := 0) dX1_readClause_119 rfl rfl ?_
          refine s_aload_n (pc := 120) (i := 1) dX1_readClause_120 rfl rfl ?_
          refine m_v1 (pc := 121) dX1_readClause_121 lk_X1_78 ok_X1_readKing (rcO o_9 (by decide) rfl) rfl rfl (c_X1_readKing hx hp hD hk (fun e a1 wf1 wt1 I1 h1 hf => kt_s ?_) (fun p1 D1 I1 wf1 wt1 h1 h2 h8 h3 h4 h5 => kt_s ?_))
          · refine s_ireturn (pc := 124) dX1_readClause_124 rfl rfl ?_
            first | exact hb e a1 wf1 wt1 I1 (by rw [← h1]; unfold rCl; rw [if_neg (by rintro ⟨z0, z1, z2⟩; first | exact absurd (z0.symm.trans b0) (by decide) | exact absurd (z1.symm.trans b1) (by decide) | exact absurd (z2.symm.trans b2) (by decide)), if_neg (by rintro (⟨z, z2⟩ | ⟨z, z2⟩ | z) <;> first | omega | exact absurd (z.symm.trans b0) (by decide) | exact absurd (z.symm.trans b1) (by decide))]; first | rw [if_pos b0] | rw [if_neg (by rw [b0]; decide), if_pos b1] | rw [if_neg (by rw [b0]; decide), if_neg (by rw [b1]; decide)]) hf | exact hg p1 D1 I1 wf1 wt1 (by rw [← h1]; unfold rCl; rw [if_neg (by rintro ⟨z0, z1, z2⟩; first | exact absurd (z0.symm.trans b0) (by decide) | exact absurd (z1.symm.trans b1) (by decide) | exact absurd (z2.symm.trans b2) (by decide)), if_neg (by rintro (⟨z, z2⟩ | ⟨z, z2⟩ | z) <;> first | omega | exact absurd (z.symm.trans b0) (by decide) | exact absurd (z.symm.trans b1) (by decide))]; first | rw [if_pos b0] | rw [if_neg (by rw [b0]; decide), if_pos b1] | rw [if_neg (by rw [b0]; decide), if_neg (by rw [b1]; decide)]) h2 (by omega) h3 h4 h5
          · refine s_ireturn (pc := 124) dX1_readClause_124 rfl rfl ?_
            first | exact hb e a1 wf1 wt1 I1 (by rw [← h1]; unfold rCl; rw [if_neg (by rintro ⟨z0, z1, z2⟩; first | exact absurd (z0.symm.trans b0) (by decide) | exact absurd (z1.symm.trans b1) (by decide) | exact absurd (z2.symm.trans b2) (by decide)), if_neg (by rintro (⟨z, z2⟩ | ⟨z, z2⟩ | z) <;> first | omega | exact absurd (z.symm.trans b0) (by decide) | exact absurd (z.symm.trans b1) (by decide))]; first | rw [if_pos b0] | rw [if_neg (by rw [b0]; decide), if_pos b1] | rw [if_neg (by rw [b0]; decide), if_neg (by rw [b1]; decide)]) hf | exact hg p1 D1 I1 wf1 wt1 (by rw [← h1]; unfold rCl; rw [if_neg (by rintro ⟨z0, z1, z2⟩; first | exact absurd (z0.symm.trans b0) (by decide) | exact absurd (z1.symm.trans b1) (by decide) | exact absurd (z2.symm.trans b2) (by decide)), if_neg (by rintro (⟨z, z2⟩ | ⟨z, z2⟩ | z) <;> first | omega | exact absurd (z.symm.trans b0) (by decide) | exact absurd (z.symm.trans b1) (by decide))]; first | rw [if_pos b0] | rw [if_neg (by rw [b0]; decide), if_pos b1] | rw [if_neg (by rw [b0]; decide), if_neg (by rw [b1]; decide)]) h2 (by omega) h3 h4 h5
        · rw [e60, nI_ltI (by omega) (by omega)] at h85
          refine s_aload_n (pc := 88) (i := 1) dX1_readClause_88 rfl rfl ?_
          refine m_ic (pc := 89) (v := 3) dX1_readClause_89 rfl ?_
          refine m_v1 (pc := 90) dX1_readClause_90 lk_X1_67 ok_X10_failWord (rcO o_2 (by decide) rfl) rfl rfl (c_X10_failWord (kt_s ?_))
          refine s_ireturn (pc := 93) dX1_readClause_93 rfl rfl ?_
          exact hb (3, a) _ _ _ I (by unfold rCl; rw [if_neg (by rintro ⟨z0, z1, z2⟩; first | exact absurd (z0.symm.trans b0) (by decide) | exact absurd (z1.symm.trans b1) (by decide) | exact absurd (z2.symm.trans b2) (by decide)), if_pos (by first | exact Or.inl ⟨b0, by omega⟩ | exact Or.inr (Or.inl ⟨b1, by omega⟩) | exact Or.inr (Or.inr (by omega)))]) fC_r
      · have b2 := wB_f.mpr q2
        refine s_ifne (pc := 34) (tgt := 43) dX1_readClause_34 rfl (fun h34 => absurd h34 (by decide)) (fun h34 => ?_)
        refine s_aload_n (pc := 37) (i := 1) dX1_readClause_37 rfl rfl ?_
        refine m_ic (pc := 38) (v := 1) dX1_readClause_38 rfl ?_
        refine m_v1 (pc := 39) dX1_readClause_39 lk_X1_67 ok_X10_failWord (rcO o_2 (by decide) rfl) rfl rfl (c_X10_failWord (kt_s ?_))
        refine s_ireturn (pc := 42) dX1_readClause_42 rfl rfl ?_
        exact hb (1, a) _ _ _ I (by unfold rCl; rw [if_pos ⟨b0, b1, b2⟩]) fC_r
theorem rf_lp : ∀ f I k a wf wt (D : cD), tx I t N → a ≤ N → Co I 9 D → cOk D → k + f = 61 → (∀ e a' wf' wt' I', rCo t N f k a D = .inl e → fC I I' → Q (.inl (some (.int 0))) (Z (tp I' a' wf' wt' (nI e.1) (nI e.2)) J n w)) →
    (∀ D' I' a' wf' wt', rCo t N f k a D = .inr D' → fC I I' → Co I' 9 D' → cOk D' → Q (.inl (some (.int 1))) (Z (tp I' a' wf' wt' fk fp) J n w)) → (f = 0 → False) → Rn g (d + 6) mX1_readFrom 18 [.ref 9, .ref 2, .int (nI k)] [] [] (Z (tp I a wf wt fk fp) J n w) Q := by
  have e60 : (60 : Int32) = nI 60 := rfl
  intro f
  induction f with
  | zero => intro I k a wf wt D hx ha hD hk hf hb hg h0; exact absurd rfl h0
  | succ f ih =>
    intro I k a wf wt D hx ha hD hk hf hb hg h0
    have hN := hx.1
    unfold rCo at hb hg
    refine s_iload_n (pc := 18) (i := 2) dX1_readFrom_18 rfl rfl ?_
    refine m_bi (pc := 19) (v := 60) dX1_readFrom_19 rfl ?_
    refine s_icgt (pc := 21) (tgt := 59) dX1_readFrom_21 rfl (fun h21 => absurd h21 (fun h => nI_nlt (a := 60) (b := k) (by omega) (by omega) h)) (fun h21 => ?_)
    refine s_aload_n (pc := 24) (i := 1) dX1_readFrom_24 rfl rfl ?_
    refine m_v0 (pc := 25) dX1_readFrom_25 lk_X1_40 ok_X10_isAtEnd (rcO o_2 (by decide) rfl) rfl rfl (c_X10_isAtEnd hx ha (fun h => kt_s ?_) (fun h => kt_s ?_))
    · rw [if_pos (by omega)] at hg
      refine s_ifeq (pc := 28) (tgt := 33) dX1_readFrom_28 rfl (fun h28 => absurd h28 (by decide)) (fun h28 => ?_)
      refine m_ic (pc := 31) (v := 1) dX1_readFrom_31 rfl ?_
      refine s_ireturn (pc := 32) dX1_readFrom_32 rfl rfl ?_
      exact hg D I a wf wt rfl fC_r hD hk
    · rw [if_neg (by omega)] at hb hg
      refine s_ifeq (pc := 28) (tgt := 33) dX1_readFrom_28 rfl (fun h28 => ?_) (fun h28 => absurd h28 (by decide))
      refine s_aload_n (pc := 33) (i := 0) dX1_readFrom_33 rfl rfl ?_
      refine s_aload_n (pc := 34) (i := 1) dX1_readFrom_34 rfl rfl ?_
      refine s_iload_n (pc := 35) (i := 2) dX1_readFrom_35 rfl rfl ?_
      refine m_v2 (pc := 36) dX1_readFrom_36 lk_X1_46 ok_X1_readClause (rcO o_9 (by decide) rfl) rfl rfl (c_X1_readClause hx ha hD hk (by omega) (fun e a1 wf1 wt1 I1 h1 hf1 => kt_s ?_) (fun p1 D1 I1 wf1 wt1 h1 h2 h8 h3 h4 h5 => kt_s ?_))
      · rw [h1] at hb
        refine s_ifeq (pc := 39) (tgt := 51) dX1_readFrom_39 rfl (fun h39 => ?_) (fun h39 => absurd h39 (by decide))
        refine m_ic (pc := 51) (v := 0) dX1_readFrom_51 rfl ?_
        refine s_ireturn (pc := 52) dX1_readFrom_52 rfl rfl ?_
        first | exact hb e a1 wf1 wt1 I1 rfl hf1 | exact hb e _ _ _ I1 rfl h3
      · rw [h1] at hb hg
        simp only [] at hb hg
        have hx1 := tx_f hx h3
        refine s_ifeq (pc := 39) (tgt := 51) dX1_readFrom_39 rfl (fun h39 => absurd h39 (by decide)) (fun h39 => ?_)
        refine s_aload_n (pc := 42) (i := 1) dX1_readFrom_42 rfl rfl ?_
        refine m_bi (pc := 43) (v := 59) dX1_readFrom_43 rfl ?_
        refine m_v1 (pc := 45) dX1_readFrom_45 lk_X1_50 ok_X10_needSign (rcO o_2 (by decide) rfl) rfl rfl (c_ns (c := 59) hx1 h2 (by decide) rfl (fun p2 h6 h7 h9 => kt_s ?_) (fun e h6 => kt_s ?_))
        · rw [h6] at hb hg
          simp only [] at hb hg
          have hf0 : ¬ f = 0 := fun e => by subst e; exact rC_no (by omega) h1
          refine s_ifne (pc := 48) (tgt := 53) dX1_readFrom_48 rfl (fun h48 => ?_) (fun h48 => absurd h48 (by decide))
          refine m_inc (pc := 53) (v := 1) dX1_readFrom_53 rfl rfl ?_
          dsimp only [List.set, List.filter]
          rw [nI_1]
          refine s_goto (pc := 56) (tgt := 18) dX1_readFrom_56 rfl ?_
          exact ih I1 (k + 1) p2 wf1 wt1 D1 hx1 h7 h4 h5 (by omega) (fun e a' wf' wt' I' q1 q2 => hb e a' wf' wt' I' q1 (fC_t h3 q2)) (fun D' I' a' wf' wt' q1 q2 q3 q4 => hg D' I' a' wf' wt' q1 (fC_t h3 q2) q3 q4) hf0
        · rw [h6] at hb
          refine s_ifne (pc := 48) (tgt := 53) dX1_readFrom_48 rfl (fun h48 => absurd h48 (by decide)) (fun h48 => ?_)
          refine m_ic (pc := 51) (v := 0) dX1_readFrom_51 rfl ?_
          refine s_ireturn (pc := 52) dX1_readFrom_52 rfl rfl ?_
          first | exact hb e a1 wf1 wt1 I1 rfl hf1 | exact hb e _ _ _ I1 rfl h3
theorem c_X1_readFrom (hx : tx I t N) (ha : a ≤ N) (hb : ∀ e a' wf' wt' I', rCo t N 61 0 a d0 = .inl e → fC I I' → Q (.inl (some (.int 0))) (Z (tp I' a' wf' wt' (nI e.1) (nI e.2)) J n w)) (hg : ∀ D' I' a' wf' wt', rCo t N 61 0 a d0 = .inr D' → fC I I' → Co I' 9 D' → cOk D' → Q (.inl (some (.int 1))) (Z (tp I' a' wf' wt' fk fp) J n w)) : Cn g (d + 6) mX1_readFrom [.ref 9, .ref 2] (Z (tp I a wf wt fk fp) J n w) Q := by
  show Rn g (d + 6) mX1_readFrom 0 [.ref 9, .ref 2, .retAddr 0] [] [] (Z (tp I a wf wt fk fp) J n w) Q
  refine s_aload_n (pc := 0) (i := 0) dX1_readFrom_0 rfl rfl ?_
  refine m_ic (pc := 1) (v := 0) dX1_readFrom_1 rfl ?_
  refine m_pi (pc := 2) dX1_readFrom_2 ff_X1_34 rfl rfl o_9 ?_
  refine st_tp hx (by decide) (by decide) (fun I2 e2 hx => ?_)
  refine s_aload_n (pc := 5) (i := 0) dX1_readFrom_5 rfl rfl ?_
  refine m_ic (pc := 6) (v := 0) dX1_readFrom_6 rfl ?_
  refine m_pi (pc := 7) dX1_readFrom_7 ff_X1_37 rfl rfl o_9 ?_
  refine st_tp hx (by decide) (by decide) (fun I7 e7 hx => ?_)
  refine s_aload_n (pc := 10) (i := 0) dX1_readFrom_10 rfl rfl ?_
  refine m_bi (pc := 11) (v := 20) dX1_readFrom_11 rfl ?_
  refine m_pi (pc := 13) dX1_readFrom_13 ff_X1_24 rfl rfl o_9 ?_
  refine st_tp hx (by decide) (by decide) (fun I13 e13 hx => ?_)
  refine m_ic (pc := 16) (v := 0) dX1_readFrom_16 rfl ?_
  refine s_istore_n (pc := 17) (i := 2) dX1_readFrom_17 rfl (Nat.le_of_ble_eq_true rfl) ?_
  dsimp only [List.set, List.filter]
  have hf : fC I I13 := by subst e13; subst e7; subst e2; exact fC_u (fC_u (fC_u fC_r (by decide)) (by decide)) (by decide)
  have hD : Co I13 9 d0 := by
    subst e13; subst e7; subst e2
    exact ⟨by simp [up]; rfl, by simp [up]; rfl, rfl, fun b hb => by simp [d0, cb] at hb, fun b hb => by simp [d0, cc] at hb⟩
  exact rf_lp 61 I13 0 a wf wt d0 hx ha hD cOk_0 rfl (fun e a' wf' wt' I' q1 q2 => hb e a' wf' wt' I' q1 (fC_t hf q2)) (fun D' I' a' wf' wt' q1 q2 q3 q4 => hg D' I' a' wf' wt' q1 (fC_t hf q2) q3 q4) (by omega)
end S
