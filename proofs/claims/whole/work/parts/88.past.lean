section S
variable {g : aG} {d : Nat} {I : Nat → Nat → Int32} {J : Nat → Nat → Int64} {n w : Nat} {Q : aO → aS → Prop}
variable {σ : aS} {S : sD} {ww mm : Nat} {P O : Nat}
/-- a Past at P -/
def pO (P : Nat) : Prop := isO 5 P ∧ R0 P 0 = some (P + 1) ∧ sO (P + 1) ∧ R0 P 1 = some (P + 8) ∧ isA 67 16 (P + 8) ∧ ∀ j, j < 16 → R0 (P + 8) j = some (P + 9 + 7 * j) ∧ sO (P + 9 + 7 * j)
theorem r_a1 : ∀ j, j < 16 → R0 162 j = some (163 + 7 * j) := by decide +kernel
theorem r_a2 : ∀ j, j < 16 → R0 283 j = some (284 + 7 * j) := by decide +kernel
theorem r_a3 : ∀ j, j < 16 → R0 404 j = some (405 + 7 * j) := by decide +kernel
theorem pO_32 : pO 32 := ⟨o_32, r_32_0, sO_33, r_32_1, a_40, fun j h => ⟨r_40 j h, sO_1 j h⟩⟩
theorem pO_1 : pO 154 := ⟨o_154, r_154_0, sO_155, r_154_1, a_162, fun j h => ⟨r_a1 j h, sO_3_0 j h⟩⟩
theorem pO_2 : pO 275 := ⟨o_275, r_275_0, sO_276, r_275_1, a_283, fun j h => ⟨r_a2 j h, sO_3_1 j h⟩⟩
theorem pO_3 : pO 396 := ⟨o_396, r_396_0, sO_397, r_396_1, a_404, fun j h => ⟨r_a3 j h, sO_3_2 j h⟩⟩
theorem pO_i : ∀ i, i < 3 → pO (154 + 121 * i)
  | 0, _ => pO_1
  | 1, _ => pO_2
  | 2, _ => pO_3
  | i + 3, h => absurd h (by omega)
theorem r_153 : ∀ i, i < 3 → R0 153 i = some (154 + 121 * i) := by decide +kernel
theorem r_153c {i : Nat} (h : i < 3) : R0 153 (nI i).toNatClampNeg = some (154 + 121 * i) := by rw [nI_clamp (by omega)]; exact r_153 i h
theorem c_X5_takeBack (h : I 32 2 = nI (ww + 1)) (hw : ww < 16) (hq : Q (.inl none) (Z (cqS (up I 32 2 (nI ww)) (41 + 7 * ww) 33) J n w)) : Cn g (d + 2) mX5_takeBack [.ref 32] (Z I J n w) Q := by
  show Rn g (d + 2) mX5_takeBack 0 [.ref 32] [] [] (Z I J n w) Q
  refine s_aload_n (pc := 0) (i := 0) dX5_takeBack_0 rfl rfl ?_
  refine m_gi (pc := 1) dX5_takeBack_1 ff_X5_25 rfl o_32 ?_
  refine m_nm (v' := nI (ww + 1)) (h) ?_
  refine s_ifle (pc := 4) (tgt := 33) dX5_takeBack_4 rfl (fun h4 => absurd h4 (nI_ge (a := 0) (b := ww + 1) (by omega) (by omega))) (fun h4 => ?_)
  refine s_aload_n (pc := 7) (i := 0) dX5_takeBack_7 rfl rfl ?_
  refine s_dup (pc := 8) dX5_takeBack_8 rfl ?_
  refine m_gi (pc := 9) dX5_takeBack_9 ff_X5_25 rfl o_32 ?_
  refine m_nm (v' := nI (ww + 1)) (h) ?_
  refine m_ic (pc := 12) (v := 1) dX5_takeBack_12 rfl ?_
  refine s_isub (pc := 13) dX5_takeBack_13 ?_
  refine m_nm (v' := nI ww) (nI_pred ww) ?_
  refine m_pi (pc := 14) dX5_takeBack_14 ff_X5_25 rfl rfl o_32 ?_
  refine s_aload_n (pc := 17) (i := 0) dX5_takeBack_17 rfl rfl ?_
  refine m_gr (pc := 18) dX5_takeBack_18 ff_X5_12 rfl o_32 r_32_0 ?_
  refine s_aload_n (pc := 21) (i := 0) dX5_takeBack_21 rfl rfl ?_
  refine m_gr (pc := 22) dX5_takeBack_22 ff_X5_18 rfl o_32 r_32_1 ?_
  refine s_aload_n (pc := 25) (i := 0) dX5_takeBack_25 rfl rfl ?_
  refine m_gi (pc := 26) dX5_takeBack_26 ff_X5_25 rfl o_32 ?_
  refine m_nm (v' := nI ww) (up_s) ?_
  refine m_aa (pc := 29) dX5_takeBack_29 a_40 (by decide) (vp_in_nI (n := ww) (by omega) (by decide)) (r_40c hw) ?_
  refine m_v1 (pc := 30) dX5_takeBack_30 lk_X5_29 ok_X9_copyFrom (rcO o_33 (by decide) rfl) rfl rfl (c_X9_copyFrom (o := 33) (q := 41 + 7 * ww) sO_33 (sO_1 ww hw) (by omega) (kt_v ?_))
  refine s_return (pc := 33) dX5_takeBack_33 rfl ?_
  exact hq
theorem c_X11_undo (h32 : I 32 2 = nI ww) (hw : ww ≤ 16) (h0 : ww = 0 → Q (.inl (some (.int (-1)))) (Z I J n w)) (h1 : ∀ v I', ww = v + 1 → (∀ y j, (y < 32 ∨ 39 < y) → (y ≠ 1 ∨ j ≠ 16) → I' y j = I y j) → I' 32 2 = nI v → I' 1 16 = 0 → (∀ S, Sc I (41 + 7 * v) S → Sc I' 33 S) → Q (.inl (some (.int (nI v)))) (Z I' J n w)) : Cn g (d + 3) mX11_undo [.ref 1] (Z I J n w) Q := by
  show Rn g (d + 3) mX11_undo 0 [.ref 1] [] [] (Z I J n w) Q
  refine s_aload_n (pc := 0) (i := 0) dX11_undo_0 rfl rfl ?_
  refine m_gr (pc := 1) dX11_undo_1 ff_X11_65 rfl o_1 r_1_9 ?_
  refine m_gi (pc := 4) dX11_undo_4 ff_X11_150 rfl o_32 ?_
  refine m_nm (v' := nI ww) (h32) ?_
  refine s_ifne (pc := 7) (tgt := 12) dX11_undo_7 rfl (fun h7 => ?_) (fun h7 => ?_)
  · have h7 : ¬ ww = 0 := fun z => h7 ((nI_eq (a := ww) (b := 0) (by omega) (by omega)).mpr z)
    obtain ⟨v, ev⟩ : ∃ v, ww = v + 1 := ⟨ww - 1, by omega⟩
    subst ev
    refine s_aload_n (pc := 12) (i := 0) dX11_undo_12 rfl rfl ?_
    refine m_gr (pc := 13) dX11_undo_13 ff_X11_65 rfl o_1 r_1_9 ?_
    refine m_v0 (pc := 16) dX11_undo_16 lk_X11_178 ok_X5_takeBack (rcO o_32 (by decide) rfl) rfl rfl (c_X5_takeBack h32 (by omega) (kt_v ?_))
    refine s_aload_n (pc := 19) (i := 0) dX11_undo_19 rfl rfl ?_
    refine m_ic (pc := 20) (v := 0) dX11_undo_20 rfl ?_
    refine m_pi (pc := 21) dX11_undo_21 ff_X11_140 rfl rfl o_1 ?_
    refine s_aload_n (pc := 24) (i := 0) dX11_undo_24 rfl rfl ?_
    refine m_gr (pc := 25) dX11_undo_25 ff_X11_65 rfl o_1 r_1_9 ?_
    refine m_gi (pc := 28) dX11_undo_28 ff_X11_150 rfl o_32 ?_
    refine m_nm (v' := nI v) (by rw [up_a (by decide), cq_out (by omega), up_s]) ?_
    refine s_ireturn (pc := 31) dX11_undo_31 rfl rfl ?_
    refine h1 v _ rfl (fun y j z1 z2 => ?_) ?_ up_s (fun S hS => ?_)
    · rw [up_n3 z2, cq_out (by omega), up_a (by omega)]
    · rw [up_a (by decide), cq_out (by omega), up_s]
    · refine Sc_fr (cq_in (o := 33) (Sc_fr hS (I' := up I 32 2 (nI v)) (fun y j z1 z2 => up_a (by omega)))) (fun y j z1 z2 => up_a (by omega))
  · have h7 : ww = 0 := (nI_eq (a := ww) (b := 0) (by omega) (by omega)).mp h7
    refine m_ic (pc := 10) (v := -1) dX11_undo_10 rfl ?_
    refine s_ireturn (pc := 11) dX11_undo_11 rfl rfl ?_
    exact h0 h7
theorem cpp_lp (hP : pO P) (hO : pO O) (hd : P + 121 ≤ O ∨ O + 121 ≤ P) (hw : ww ≤ 16) (hO2 : I O 2 = nI ww) (hq : ∀ I', (∀ y j, (y < P ∨ P + 120 < y) → I' y j = I y j) → I' P 2 = nI ww → (∀ S, Sc I (O + 1) S → Sc I' (P + 1) S) → (∀ i, i < ww → ∀ S, Sc I (O + 9 + 7 * i) S → Sc I' (P + 9 + 7 * i) S) → Q (.inl none) (Z I' J n w)) : ∀ f i I1, i + f = ww → (∀ y j, (y < P ∨ P + 120 < y) → I1 y j = I y j) → (∀ S, Sc I (O + 1) S → Sc I1 (P + 1) S) → (∀ k, k < i → ∀ S, Sc I (O + 9 + 7 * k) S → Sc I1 (P + 9 + 7 * k) S) → Rn g (d + 2) mX5_copyFrom 13 [.ref P, .ref O, .int (nI i)] [] [] (Z I1 J n w) Q := by
  intro f
  induction f with
  | zero =>
    intro i I1 hi hF hN hB
    have e : ww = i := by omega
    subst e
    refine s_iload_n (pc := 13) (i := 2) dX5_copyFrom_13 rfl rfl ?_
    refine s_aload_n (pc := 14) (i := 1) dX5_copyFrom_14 rfl rfl ?_
    refine m_gi (pc := 15) dX5_copyFrom_15 ff_X5_25 rfl hO.1 ?_
    refine m_nm (v' := nI ww) ((hF O 2 (by omega)).trans hO2) ?_
    refine s_icge (pc := 18) (tgt := 48) dX5_copyFrom_18 rfl (fun h18 => ?_) (fun h18 => absurd (nI_le (a := ww) (b := ww) (by omega) (by omega)) h18)
    refine s_aload_n (pc := 48) (i := 0) dX5_copyFrom_48 rfl rfl ?_
    refine s_aload_n (pc := 49) (i := 1) dX5_copyFrom_49 rfl rfl ?_
    refine m_gi (pc := 50) dX5_copyFrom_50 ff_X5_25 rfl hO.1 ?_
    refine m_nm (v' := nI ww) ((hF O 2 (by omega)).trans hO2) ?_
    refine m_pi (pc := 53) dX5_copyFrom_53 ff_X5_25 rfl rfl hP.1 ?_
    refine s_return (pc := 56) dX5_copyFrom_56 rfl ?_
    exact hq _ (fun y j z => by rw [up_a (by omega)]; exact hF y j z) up_s (fun S h => Sc_fr (hN S h) (fun y j z1 z2 => up_a (by omega))) (fun k hk S h => Sc_fr (hB k hk S h) (fun y j z1 z2 => up_a (by omega)))
  | succ f ih =>
    intro i I1 hi hF hN hB
    refine s_iload_n (pc := 13) (i := 2) dX5_copyFrom_13 rfl rfl ?_
    refine s_aload_n (pc := 14) (i := 1) dX5_copyFrom_14 rfl rfl ?_
    refine m_gi (pc := 15) dX5_copyFrom_15 ff_X5_25 rfl hO.1 ?_
    refine m_nm (v' := nI ww) ((hF O 2 (by omega)).trans hO2) ?_
    refine s_icge (pc := 18) (tgt := 48) dX5_copyFrom_18 rfl (fun h18 => absurd h18 (nI_ge (a := i) (b := ww) (by omega) (by omega))) (fun h18 => ?_)
    refine s_iload_n (pc := 21) (i := 2) dX5_copyFrom_21 rfl rfl ?_
    refine m_bi (pc := 22) (v := 16) dX5_copyFrom_22 rfl ?_
    refine s_icge (pc := 24) (tgt := 48) dX5_copyFrom_24 rfl (fun h24 => absurd h24 (nI_ge (a := i) (b := 16) (by omega) (by omega))) (fun h24 => ?_)
    refine s_aload_n (pc := 27) (i := 0) dX5_copyFrom_27 rfl rfl ?_
    refine m_gr (pc := 28) dX5_copyFrom_28 ff_X5_18 rfl hP.1 hP.2.2.2.1 ?_
    refine s_iload_n (pc := 31) (i := 2) dX5_copyFrom_31 rfl rfl ?_
    refine m_aa (pc := 32) dX5_copyFrom_32 hP.2.2.2.2.1 (by decide) (vp_in_nI (n := i) (by omega) (by decide)) (by rw [nI_clamp (by omega)]; exact (hP.2.2.2.2.2 i (by omega)).1) ?_
    refine s_aload_n (pc := 33) (i := 1) dX5_copyFrom_33 rfl rfl ?_
    refine m_gr (pc := 34) dX5_copyFrom_34 ff_X5_18 rfl hO.1 hO.2.2.2.1 ?_
    refine s_iload_n (pc := 37) (i := 2) dX5_copyFrom_37 rfl rfl ?_
    refine m_aa (pc := 38) dX5_copyFrom_38 hO.2.2.2.2.1 (by decide) (vp_in_nI (n := i) (by omega) (by decide)) (by rw [nI_clamp (by omega)]; exact (hO.2.2.2.2.2 i (by omega)).1) ?_
    refine m_v1 (pc := 39) dX5_copyFrom_39 lk_X5_29 ok_X9_copyFrom (rcO ((hP.2.2.2.2.2 i (by omega)).2).1 (by decide) rfl) rfl rfl (c_X9_copyFrom (o := P + 9 + 7 * i) (q := O + 9 + 7 * i) (hP.2.2.2.2.2 i (by omega)).2 (hO.2.2.2.2.2 i (by omega)).2 (by omega) (kt_v ?_))
    refine m_inc (pc := 42) (v := 1) dX5_copyFrom_42 rfl rfl ?_
    dsimp only [List.set, List.filter]
    rw [nI_1]
    refine s_goto (pc := 45) (tgt := 13) dX5_copyFrom_45 rfl ?_
    refine ih (i + 1) _ (by omega) (fun y j z => by rw [cq_out (by omega)]; exact hF y j z) (fun S h => Sc_fr (hN S h) (fun y j z1 z2 => cq_out (by omega))) (fun k hk S h => ?_)
    by_cases e : k = i
    · subst e; exact cq_in (Sc_fr h (fun y j z1 z2 => hF y j (by omega)))
    · exact Sc_fr (hB k (by omega) S h) (fun y j z1 z2 => cq_out (by omega))
theorem c_X5_copyFrom (hP : pO P) (hO : pO O) (hd : P + 121 ≤ O ∨ O + 121 ≤ P) (hw : ww ≤ 16) (hO2 : I O 2 = nI ww) (hq : ∀ I', (∀ y j, (y < P ∨ P + 120 < y) → I' y j = I y j) → I' P 2 = nI ww → (∀ S, Sc I (O + 1) S → Sc I' (P + 1) S) → (∀ i, i < ww → ∀ S, Sc I (O + 9 + 7 * i) S → Sc I' (P + 9 + 7 * i) S) → Q (.inl none) (Z I' J n w)) : Cn g (d + 2) mX5_copyFrom [.ref P, .ref O] (Z I J n w) Q := by
  show Rn g (d + 2) mX5_copyFrom 0 [.ref P, .ref O, .retAddr 0] [] [] (Z I J n w) Q
  refine s_aload_n (pc := 0) (i := 0) dX5_copyFrom_0 rfl rfl ?_
  refine m_gr (pc := 1) dX5_copyFrom_1 ff_X5_12 rfl hP.1 hP.2.1 ?_
  refine s_aload_n (pc := 4) (i := 1) dX5_copyFrom_4 rfl rfl ?_
  refine m_gr (pc := 5) dX5_copyFrom_5 ff_X5_12 rfl hO.1 hO.2.1 ?_
  refine m_v1 (pc := 8) dX5_copyFrom_8 lk_X5_29 ok_X9_copyFrom (rcO (hP.2.2.1).1 (by decide) rfl) rfl rfl (c_X9_copyFrom (o := P + 1) (q := O + 1) hP.2.2.1 hO.2.2.1 (by omega) (kt_v ?_))
  refine m_ic (pc := 11) (v := 0) dX5_copyFrom_11 rfl ?_
  refine s_istore_n (pc := 12) (i := 2) dX5_copyFrom_12 rfl (Nat.le_of_ble_eq_true rfl) ?_
  dsimp only [List.set, List.filter]
  exact cpp_lp hP hO hd hw hO2 hq ww 0 _ (by omega) (fun y j z => cq_out (by omega)) (fun S h => cq_in h) (fun k hk => absurd hk (by omega))
theorem c_X11_image (h15 : I 1 15 = nI mm) (hm3 : mm ≤ 3) (h32 : I 32 2 = nI ww) (hw : ww ≤ 16) (h0 : mm = 3 → Q (.inl (some (.int (-1)))) (Z I J n w)) (h1 : ∀ I', mm < 3 → (∀ y j, (y < 154 + 121 * mm ∨ 154 + 121 * mm + 120 < y) → (y ≠ 1 ∨ j ≠ 15) → I' y j = I y j) → I' 1 15 = nI (mm + 1) → I' (154 + 121 * mm) 2 = nI ww → (∀ S, Sc I 33 S → Sc I' (155 + 121 * mm) S) → (∀ i, i < ww → ∀ S, Sc I (41 + 7 * i) S → Sc I' (163 + 121 * mm + 7 * i) S) → Q (.inl (some (.int (nI (mm + 1))))) (Z I' J n w)) : Cn g (d + 3) mX11_image [.ref 1] (Z I J n w) Q := by
  show Rn g (d + 3) mX11_image 0 [.ref 1] [] [] (Z I J n w) Q
  refine s_aload_n (pc := 0) (i := 0) dX11_image_0 rfl rfl ?_
  refine m_gi (pc := 1) dX11_image_1 ff_X11_137 rfl o_1 ?_
  refine m_nm (v' := nI mm) (h15) ?_
  refine m_ic (pc := 4) (v := 3) dX11_image_4 rfl ?_
  refine s_iclt (pc := 5) (tgt := 10) dX11_image_5 rfl (fun h5 => ?_) (fun h5 => ?_)
  · have h5 : mm < 3 := (nI_ltI (a := mm) (b := 3) (by omega) (by omega)).mp h5
    have hm : mm < 3 := h5
    refine s_aload_n (pc := 10) (i := 0) dX11_image_10 rfl rfl ?_
    refine m_gr (pc := 11) dX11_image_11 ff_X11_74 rfl o_1 r_1_11 ?_
    refine s_aload_n (pc := 14) (i := 0) dX11_image_14 rfl rfl ?_
    refine m_gi (pc := 15) dX11_image_15 ff_X11_137 rfl o_1 ?_
    refine m_nm (v' := nI mm) (h15) ?_
    refine m_aa (pc := 18) dX11_image_18 a_153 (by decide) (vp_in_nI (n := mm) (by omega) (by decide)) (r_153c hm) ?_
    refine s_aload_n (pc := 19) (i := 0) dX11_image_19 rfl rfl ?_
    refine m_gr (pc := 20) dX11_image_20 ff_X11_65 rfl o_1 r_1_9 ?_
    refine m_v1 (pc := 23) dX11_image_23 lk_X11_391 ok_X5_copyFrom (rcO (pO_i mm hm).1 (by decide) rfl) rfl rfl (c_X5_copyFrom (P := 154 + 121 * mm) (O := 32) (pO_i mm hm) pO_32 (by omega) hw h32 (fun I1 f1 w1 n1 b1 => kt_v ?_))
    refine s_aload_n (pc := 26) (i := 0) dX11_image_26 rfl rfl ?_
    refine s_dup (pc := 27) dX11_image_27 rfl ?_
    refine m_gi (pc := 28) dX11_image_28 ff_X11_137 rfl o_1 ?_
    refine m_nm (v' := nI mm) ((f1 1 15 (by omega)).trans h15) ?_
    refine m_ic (pc := 31) (v := 1) dX11_image_31 rfl ?_
    refine s_iadd (pc := 32) dX11_image_32 ?_
    refine m_nm (v' := nI (mm + 1)) (nI_add mm 1) ?_
    refine m_pi (pc := 33) dX11_image_33 ff_X11_137 rfl rfl o_1 ?_
    refine s_aload_n (pc := 36) (i := 0) dX11_image_36 rfl rfl ?_
    refine m_gi (pc := 37) dX11_image_37 ff_X11_137 rfl o_1 ?_
    refine m_nm (v' := nI (mm + 1)) (up_s) ?_
    refine s_ireturn (pc := 40) dX11_image_40 rfl rfl ?_
    exact h1 _ hm (fun y j z1 z2 => by rw [up_n3 z2, f1 y j z1]) up_s (by rw [up_a (by omega)]; exact w1) (fun S h => Sc_fr (o := 155 + 121 * mm) (by have := n1 S h; rw [show 154 + 121 * mm + 1 = 155 + 121 * mm by omega] at this; exact this) (fun y j z1 z2 => up_a (by omega))) (fun i hi S h => Sc_fr (o := 163 + 121 * mm + 7 * i) (by have := b1 i hi S (by rw [show 32 + 9 + 7 * i = 41 + 7 * i by omega]; exact h); rw [show 154 + 121 * mm + 9 + 7 * i = 163 + 121 * mm + 7 * i by omega] at this; exact this) (fun y j z1 z2 => up_a (by omega)))
  · have h5 : ¬ mm < 3 := fun z => h5 ((nI_ltI (a := mm) (b := 3) (by omega) (by omega)).mpr z)
    refine m_ic (pc := 8) (v := -1) dX11_image_8 rfl ?_
    refine s_ireturn (pc := 9) dX11_image_9 rfl rfl ?_
    exact h0 (by omega)
theorem c_X11_restore (h15 : I 1 15 = nI mm) (hm3 : mm ≤ 3) (hwk : ∀ v, v < mm → ∃ ww, ww ≤ 16 ∧ I (154 + 121 * v) 2 = nI ww) (h0 : mm = 0 → Q (.inl (some (.int (-1)))) (Z I J n w)) (h1 : ∀ v ww I', mm = v + 1 → ww ≤ 16 → I (154 + 121 * v) 2 = nI ww → (∀ y j, (y < 32 ∨ 32 + 120 < y) → (y ≠ 1 ∨ (j ≠ 15 ∧ j ≠ 16)) → I' y j = I y j) → I' 1 15 = nI v → I' 1 16 = 0 → I' 32 2 = nI ww → (∀ S, Sc I (155 + 121 * v) S → Sc I' 33 S) → (∀ i, i < ww → ∀ S, Sc I (163 + 121 * v + 7 * i) S → Sc I' (41 + 7 * i) S) → Q (.inl (some (.int (nI v)))) (Z I' J n w)) : Cn g (d + 3) mX11_restore [.ref 1] (Z I J n w) Q := by
  show Rn g (d + 3) mX11_restore 0 [.ref 1] [] [] (Z I J n w) Q
  refine s_aload_n (pc := 0) (i := 0) dX11_restore_0 rfl rfl ?_
  refine m_gi (pc := 1) dX11_restore_1 ff_X11_137 rfl o_1 ?_
  refine m_nm (v' := nI mm) (h15) ?_
  refine s_ifne (pc := 4) (tgt := 9) dX11_restore_4 rfl (fun h4 => ?_) (fun h4 => ?_)
  · have h4 : ¬ mm = 0 := fun z => h4 ((nI_eq (a := mm) (b := 0) (by omega) (by omega)).mpr z)
    obtain ⟨v, ev⟩ : ∃ v, mm = v + 1 := ⟨mm - 1, by omega⟩
    subst ev
    have hv : v < 3 := by omega
    obtain ⟨ww, hw, hw2⟩ := hwk v (by omega)
    refine s_aload_n (pc := 9) (i := 0) dX11_restore_9 rfl rfl ?_
    refine s_dup (pc := 10) dX11_restore_10 rfl ?_
    refine m_gi (pc := 11) dX11_restore_11 ff_X11_137 rfl o_1 ?_
    refine m_nm (v' := nI (v + 1)) (h15) ?_
    refine m_ic (pc := 14) (v := 1) dX11_restore_14 rfl ?_
    refine s_isub (pc := 15) dX11_restore_15 ?_
    refine m_nm (v' := nI v) (nI_pred v) ?_
    refine m_pi (pc := 16) dX11_restore_16 ff_X11_137 rfl rfl o_1 ?_
    refine s_aload_n (pc := 19) (i := 0) dX11_restore_19 rfl rfl ?_
    refine m_gr (pc := 20) dX11_restore_20 ff_X11_65 rfl o_1 r_1_9 ?_
    refine s_aload_n (pc := 23) (i := 0) dX11_restore_23 rfl rfl ?_
    refine m_gr (pc := 24) dX11_restore_24 ff_X11_74 rfl o_1 r_1_11 ?_
    refine s_aload_n (pc := 27) (i := 0) dX11_restore_27 rfl rfl ?_
    refine m_gi (pc := 28) dX11_restore_28 ff_X11_137 rfl o_1 ?_
    refine m_nm (v' := nI v) (up_s) ?_
    refine m_aa (pc := 31) dX11_restore_31 a_153 (by decide) (vp_in_nI (n := v) (by omega) (by decide)) (r_153c hv) ?_
    refine m_v1 (pc := 32) dX11_restore_32 lk_X11_391 ok_X5_copyFrom (rcO o_32 (by decide) rfl) rfl rfl (c_X5_copyFrom (P := 32) (O := 154 + 121 * v) pO_32 (pO_i v hv) (by omega) hw ((up_a (by omega)).trans hw2) (fun I1 f1 w1 n1 b1 => kt_v ?_))
    refine s_aload_n (pc := 35) (i := 0) dX11_restore_35 rfl rfl ?_
    refine m_ic (pc := 36) (v := 0) dX11_restore_36 rfl ?_
    refine m_pi (pc := 37) dX11_restore_37 ff_X11_140 rfl rfl o_1 ?_
    refine s_aload_n (pc := 40) (i := 0) dX11_restore_40 rfl rfl ?_
    refine m_gi (pc := 41) dX11_restore_41 ff_X11_137 rfl o_1 ?_
    refine m_nm (v' := nI v) (by rw [up_k (by decide)]; exact (f1 1 15 (by omega)).trans up_s) ?_
    refine s_ireturn (pc := 44) dX11_restore_44 rfl rfl ?_
    refine h1 v ww _ rfl hw hw2 (fun y j z1 z2 => by rw [up_n3 (by omega), f1 y j z1, up_n3 (by omega)]) (by rw [up_k (by decide)]; exact (f1 1 15 (by omega)).trans up_s) up_s (by rw [up_a (by decide)]; exact w1) (fun S h => ?_) (fun i hi S h => ?_)
    · refine Sc_fr (n1 S (Sc_fr (o := 154 + 121 * v + 1) (by rw [show 154 + 121 * v + 1 = 155 + 121 * v by omega]; exact h) (fun y j z1 z2 => up_a (by omega)))) (fun y j z1 z2 => up_a (by omega))
    · have h2 := b1 i hi S (Sc_fr (o := 154 + 121 * v + 9 + 7 * i) (by rw [show 154 + 121 * v + 9 + 7 * i = 163 + 121 * v + 7 * i by omega]; exact h) (fun y j z1 z2 => up_a (by omega)))
      rw [show 32 + 9 + 7 * i = 41 + 7 * i by omega] at h2
      exact Sc_fr h2 (fun y j z1 z2 => up_a (by omega))
  · have h4 : mm = 0 := (nI_eq (a := mm) (b := 0) (by omega) (by omega)).mp h4
    refine m_ic (pc := 7) (v := -1) dX11_restore_7 rfl ?_
    refine s_ireturn (pc := 8) dX11_restore_8 rfl rfl ?_
    exact h0 h4
end S
