section S
variable {g : aG} {d : Nat} {I : Nat → Nat → Int32} {J : Nat → Nat → Int64} {n w : Nat} {Q : aO → aS → Prop}
variable {σ : aS} {S : sD} {D : cD} {cs : List Nat} {b c k : Nat}
/-- x is one of lo, lo + 1 .. below m -/
def iv (lo m : Nat) (x : Int32) : Prop := ∃ v, x = nI v ∧ lo ≤ v ∧ v < m
def oI (f : Nat → Int32) : Nat → Int32
  | 0 => 0
  | k + 1 => oI f k ||| f k
def aI2 (f : Nat → Int32) : Nat → Int32
  | 0 => 0
  | k + 1 => aI2 f k + f k
theorem oI_up {f : Nat → Int32} {k : Nat} : ∀ m, (∀ i, k ≤ i → i < k + m → f i = 0) → oI f (k + m) = oI f k
  | 0, _ => rfl
  | m + 1, h => by
    show oI f (k + m) ||| f (k + m) = _
    rw [h (k + m) (by omega) (by omega), Int32.or_zero]; exact oI_up m (fun i h1 h2 => h i h1 (by omega))
theorem aI_up {f : Nat → Int32} {k : Nat} : ∀ m, (∀ i, k ≤ i → i < k + m → f i = 0) → aI2 f (k + m) = aI2 f k
  | 0, _ => rfl
  | m + 1, h => by
    show aI2 f (k + m) + f (k + m) = _
    rw [h (k + m) (by omega) (by omega), Int32.add_zero]; exact aI_up m (fun i h1 h2 => h i h1 (by omega))
theorem oI_c {f f' : Nat → Int32} : ∀ m, (∀ i, i < m → f i = f' i) → oI f m = oI f' m
  | 0, _ => rfl
  | m + 1, h => by show oI f m ||| f m = oI f' m ||| f' m; rw [h m (by omega), oI_c m (fun i hi => h i (by omega))]
theorem aI_c {f f' : Nat → Int32} : ∀ m, (∀ i, i < m → f i = f' i) → aI2 f m = aI2 f' m
  | 0, _ => rfl
  | m + 1, h => by show aI2 f m + f m = aI2 f' m + f' m; rw [h m (by omega), aI_c m (fun i hi => h i (by omega))]
theorem oI_bs {p : Nat → Bool} : ∀ m, m ≤ 31 → oI (fun i => if p i = true then (1 : Int32) <<< (nI i &&& 31) else 0) m = nI (bs p m)
  | 0, _ => rfl
  | m + 1, h => by
    show oI _ m ||| _ = _
    rw [oI_bs m (by omega)]; dsimp only
    by_cases e : p m = true
    · rw [if_pos e]; exact bs_s1 (by omega) e
    · rw [if_neg e]; exact bs_s0 (ts_nt e)
theorem iv_of {lo m : Nat} {x l h : Int32} (hl : l = nI lo) (hh : h = nI m - 1) (hm : lo < 2 ^ 20 ∧ m < 2 ^ 20) : (l ≤ x ∧ x ≤ h) ↔ iv lo m x := by
  subst hl; subst hh
  constructor
  · intro z
    have h0 : ¬ x < 0 := Int32.not_lt.mpr (Int32.le_trans (nI_pos' (by omega)) z.1)
    obtain ⟨v, hv, e⟩ := nI_of h0
    subst e
    refine ⟨v, rfl, (nI_leI (by omega) hv).mp z.1, ?_⟩
    by_cases e : m = 0
    · subst e; exact absurd z.2 (by rw [fa_le, nI_toInt hv, show ((nI 0 - 1 : Int32)).toInt = -1 from rfl]; omega)
    · rw [show (1 : Int32) = nI 1 from rfl, pk_sub (by omega)] at z
      have := (nI_leI hv (by omega)).mp z.2
      omega
  · rintro ⟨v, e, h1, h2⟩
    subst e
    refine ⟨nI_le h1 (by omega), ?_⟩
    rw [show (1 : Int32) = nI 1 from rfl, pk_sub (by omega)]
    exact nI_le (by omega) (by omega)
theorem iv_back {m : Nat} {x : Int32} (hm : m < 2 ^ 20) (h : x < 0 ∨ ¬ x < nI m) : ¬ iv 0 m x := by
  rintro ⟨v, e, _, h2⟩
  subst e
  rcases h with h | h
  · exact nI_pos (by omega) h
  · exact h (nI_lt h2 (by omega))
theorem c_nr {x l h : Int32} {lo m : Nat} (hl : l = nI lo) (hh : h = nI m - 1) (hm : lo < 2 ^ 20 ∧ m < 2 ^ 20) (hn : n + 1 ≤ 600000 ∧ w + 6 ≤ 7000000) (hg : ∀ v, x = nI v → lo ≤ v → v < m → Q (.inl none) (Z I J n w)) (hb : ¬ iv lo m x → Q (.inr 1) (Z (up I 1 18 (I 1 18 + 1)) J (n + 1) (w + 6))) : Cn g (d + 6) mX11_needRange [.ref 1, .int x, .int l, .int h] (Z I J n w) Q :=
  c_X11_needRange hn (fun z1 z2 => by obtain ⟨v, e, h1, h2⟩ := (iv_of hl hh hm).mp ⟨z1, z2⟩; exact hg v e h1 h2) (fun z => hb (fun u => z ((iv_of hl hh hm).mpr u)))
theorem c_nw {x kk : Int32} {m : Nat} (hkk : kk = nI m) (hm : m < 2 ^ 20) (hn : n + 1 ≤ 600000 ∧ w + 6 ≤ 7000000) (hg : ∀ v, x = nI v → v < m → Q (.inl none) (Z I J n w)) (hb : ¬ iv 0 m x → Q (.inr 1) (Z (up I 1 18 (I 1 18 + 1)) J (n + 1) (w + 6))) : Cn g (d + 7) mX11_needWhat [.ref 1, .int x, .int kk] (Z I J n w) Q :=
  c_X11_needWhat hn (fun z1 z2 => by obtain ⟨v, e, h1, h2⟩ := (iv_of (lo := 0) rfl (by rw [hkk]) ⟨by decide, hm⟩).mp ⟨z1, z2⟩; exact hg v e h2) (fun z => hb (fun u => z ((iv_of (lo := 0) rfl (by rw [hkk]) ⟨by decide, hm⟩).mpr u)))
theorem c_nb {x : Int32} (hD : Co I 4 D) (hk : cOk D) (hn : n + 1 ≤ 600000 ∧ w + 6 ≤ 7000000) (hg : ∀ v, x = nI v → v < cb D → Q (.inl none) (Z I J n w)) (hb : ¬ iv 0 (cb D) x → Q (.inr 0) (Z (up I 1 17 (I 1 17 + 1)) J (n + 1) (w + 6))) : Cn g (d + 6) mX11_needBack [.ref 1, .int x] (Z I J n w) Q :=
  c_X11_needBack hD hn hg (fun z => hb (iv_back (by have := hk.1; omega) z)) hk
theorem c_nk {x : Int32} (hD : Co I 4 D) (hk : cOk D) (hn : n + 1 ≤ 600000 ∧ w + 6 ≤ 7000000) (hg : ∀ v, x = nI v → v < cc D → Q (.inl none) (Z I J n w)) (hb : ¬ iv 0 (cc D) x → Q (.inr 0) (Z (up I 1 17 (I 1 17 + 1)) J (n + 1) (w + 6))) : Cn g (d + 6) mX11_needCouncil [.ref 1, .int x] (Z I J n w) Q :=
  c_X11_needCouncil hD hn hg (fun z => hb (iv_back (by have := hk.2.1; omega) z)) hk
theorem c_win {x l h : Int32} {lo m : Nat} (hl : l = nI lo) (hh : h = nI m - 1) (hm : lo < 2 ^ 20 ∧ m < 2 ^ 20) (hg : ∀ v, x = nI v → lo ≤ v → v < m → Q (.inl (some (.int 1))) σ) (hb : ¬ iv lo m x → Q (.inl (some (.int 0))) σ) : Cn g (d + 0) mX12_within [.int x, .int l, .int h] σ Q := by
  show Rn g (d + 0) mX12_within 0 [.int x, .int l, .int h] [] [] σ Q
  refine s_iload_n (pc := 0) (i := 0) dX12_within_0 rfl rfl ?_
  refine s_iload_n (pc := 1) (i := 1) dX12_within_1 rfl rfl ?_
  refine s_iclt (pc := 2) (tgt := 14) dX12_within_2 rfl (fun h2 => ?_) (fun h2 => ?_)
  · have E : ¬ iv lo m x := fun z => absurd ((iv_of hl hh hm).mpr z).1 (Int32.not_le.mpr h2)
    refine m_ic (pc := 14) (v := 0) dX12_within_14 rfl ?_
    refine s_ireturn (pc := 15) dX12_within_15 rfl rfl ?_
    exact hb E
  · skip
    refine s_iload_n (pc := 5) (i := 0) dX12_within_5 rfl rfl ?_
    refine s_iload_n (pc := 6) (i := 2) dX12_within_6 rfl rfl ?_
    refine s_icgt (pc := 7) (tgt := 14) dX12_within_7 rfl (fun h7 => ?_) (fun h7 => ?_)
    · have E : ¬ iv lo m x := fun z => absurd ((iv_of hl hh hm).mpr z).2 (Int32.not_le.mpr h7)
      refine m_ic (pc := 14) (v := 0) dX12_within_14 rfl ?_
      refine s_ireturn (pc := 15) dX12_within_15 rfl rfl ?_
      exact hb E
    · obtain ⟨v, e, z1, z2⟩ := (iv_of hl hh hm).mp ⟨Int32.not_lt.mp h2, Int32.not_lt.mp h7⟩
      refine m_ic (pc := 10) (v := 1) dX12_within_10 rfl ?_
      refine s_goto (pc := 11) (tgt := 15) dX12_within_11 rfl ?_
      refine s_ireturn (pc := 15) dX12_within_15 rfl rfl ?_
      exact hg v e z1 z2
theorem c_X12_isBack {x cd : Int32} (h0 : I 534 0 = 0) (hD : I 534 17 = nI (cb D)) (hk : cOk D) (hc : cd ≠ 0) (hg : ∀ v, x = nI v → v < cb D → Q (.inl (some (.int 1))) (Z I J n w)) (hb : ¬ iv 0 (cb D) x → Q (.inl (some (.int 0))) (Z (thr I cd 0) J n w)) : Cn g (d + 1) mX12_isBack [.ref 534, .int x, .int cd] (Z I J n w) Q := by
  have hb7 := hk.1
  have hc12 := hk.2.1
  show Rn g (d + 1) mX12_isBack 0 [.ref 534, .int x, .int cd] [] [] (Z I J n w) Q
  refine s_aload_n (pc := 0) (i := 0) dX12_isBack_0 rfl rfl ?_
  refine s_iload_n (pc := 1) (i := 1) dX12_isBack_1 rfl rfl ?_
  refine m_ic (pc := 2) (v := 0) dX12_isBack_2 rfl ?_
  refine s_aload_n (pc := 3) (i := 0) dX12_isBack_3 rfl rfl ?_
  refine m_gi (pc := 4) dX12_isBack_4 ff_X12_154 rfl o_534 ?_
  refine m_nm (v' := nI (cb D)) (hD) ?_
  refine m_ic (pc := 7) (v := 1) dX12_isBack_7 rfl ?_
  refine s_isub (pc := 8) dX12_isBack_8 ?_
  refine m_s3 (pc := 9) dX12_isBack_9 lk_X12_373 ok_X12_within rfl rfl (c_win (lo := 0) (m := cb D) rfl rfl (by omega) (fun v e z1 z2 => kt_s ?_) (fun z => kt_s ?_))
  · refine s_iload_n (pc := 12) (i := 2) dX12_isBack_12 rfl rfl ?_
    refine m_ic (pc := 13) (v := 0) dX12_isBack_13 rfl ?_
    refine m_v3 (pc := 14) dX12_isBack_14 lk_X12_192 ok_X12_may (rcO o_534 (by decide) rfl) rfl rfl (c_may1 (k := 0) (by decide) rfl h0 hc (kt_s ?_))
    · refine s_ireturn (pc := 17) dX12_isBack_17 rfl rfl ?_
      exact hg v e z2
  · refine s_iload_n (pc := 12) (i := 2) dX12_isBack_12 rfl rfl ?_
    refine m_ic (pc := 13) (v := 0) dX12_isBack_13 rfl ?_
    refine m_v3 (pc := 14) dX12_isBack_14 lk_X12_192 ok_X12_may (rcO o_534 (by decide) rfl) rfl rfl (c_may0 (k := 0) (by decide) rfl h0 hc (kt_s ?_))
    · refine s_ireturn (pc := 17) dX12_isBack_17 rfl rfl ?_
      exact hb z
theorem c_X12_isCouncil {x cd : Int32} (h0 : I 534 0 = 0) (hD : I 534 18 = nI (cc D)) (hk : cOk D) (hc : cd ≠ 0) (hg : ∀ v, x = nI v → v < cc D → Q (.inl (some (.int 1))) (Z I J n w)) (hb : ¬ iv 0 (cc D) x → Q (.inl (some (.int 0))) (Z (thr I cd 0) J n w)) : Cn g (d + 1) mX12_isCouncil [.ref 534, .int x, .int cd] (Z I J n w) Q := by
  have hb7 := hk.1
  have hc12 := hk.2.1
  show Rn g (d + 1) mX12_isCouncil 0 [.ref 534, .int x, .int cd] [] [] (Z I J n w) Q
  refine s_aload_n (pc := 0) (i := 0) dX12_isCouncil_0 rfl rfl ?_
  refine s_iload_n (pc := 1) (i := 1) dX12_isCouncil_1 rfl rfl ?_
  refine m_ic (pc := 2) (v := 0) dX12_isCouncil_2 rfl ?_
  refine s_aload_n (pc := 3) (i := 0) dX12_isCouncil_3 rfl rfl ?_
  refine m_gi (pc := 4) dX12_isCouncil_4 ff_X12_157 rfl o_534 ?_
  refine m_nm (v' := nI (cc D)) (hD) ?_
  refine m_ic (pc := 7) (v := 1) dX12_isCouncil_7 rfl ?_
  refine s_isub (pc := 8) dX12_isCouncil_8 ?_
  refine m_s3 (pc := 9) dX12_isCouncil_9 lk_X12_373 ok_X12_within rfl rfl (c_win (lo := 0) (m := cc D) rfl rfl (by omega) (fun v e z1 z2 => kt_s ?_) (fun z => kt_s ?_))
  · refine s_iload_n (pc := 12) (i := 2) dX12_isCouncil_12 rfl rfl ?_
    refine m_ic (pc := 13) (v := 0) dX12_isCouncil_13 rfl ?_
    refine m_v3 (pc := 14) dX12_isCouncil_14 lk_X12_192 ok_X12_may (rcO o_534 (by decide) rfl) rfl rfl (c_may1 (k := 0) (by decide) rfl h0 hc (kt_s ?_))
    · refine s_ireturn (pc := 17) dX12_isCouncil_17 rfl rfl ?_
      exact hg v e z2
  · refine s_iload_n (pc := 12) (i := 2) dX12_isCouncil_12 rfl rfl ?_
    refine m_ic (pc := 13) (v := 0) dX12_isCouncil_13 rfl ?_
    refine m_v3 (pc := 14) dX12_isCouncil_14 lk_X12_192 ok_X12_may (rcO o_534 (by decide) rfl) rfl rfl (c_may0 (k := 0) (by decide) rfl h0 hc (kt_s ?_))
    · refine s_ireturn (pc := 17) dX12_isCouncil_17 rfl rfl ?_
      exact hb z
theorem tk_W (h : Wn I D cs S) : Wm (cpI (up I 534 0 0) 549 550 126) D cs S := Wn_W h (fun x j z1 z2 z3 => by rw [cp_ne (by omega), up_n3 (by omega)]) (fun j z => by unfold cpI; rw [if_pos ⟨rfl, z⟩, up_a (by decide)])
theorem tk_k : km I (cpI (up I 534 0 0) 549 550 126) := fun x j z => by rw [cp_ne (by unfold mS at z; omega), up_n3 (by unfold mS at z; omega)]
theorem tk_0 : cpI (up I 534 0 0) 549 550 126 534 0 = 0 := by rw [cp_ne (by decide), up_s]
theorem th_k : km I (up I 534 0 0) := km_u km_r (by unfold mS; omega)
theorem fm_0 {I' : Nat → Nat → Int32} (h : fm I I') : I' 534 0 = I 534 0 := h _ _ (by decide) (by decide)
theorem fX_0 {I' : Nat → Nat → Int32} (h : fX I I') : I' 534 0 = I 534 0 := h _ _ (by decide) (by decide) (by decide)
end S
