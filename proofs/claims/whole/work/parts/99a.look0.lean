section S
variable {g : aG} {d : Nat} {I : Nat → Nat → Int32} {J : Nat → Nat → Int64} {n w : Nat} {Q : aO → aS → Prop}
variable {P : Nat → Nat → Bool} {K : Nat → Nat → Nat}
/-- the greatest of the first m -/
def mxv (f : Nat → Nat) : Nat → Nat
  | 0 => 0
  | m + 1 => max (mxv f m) (f m)
theorem mxv_1 {f : Nat → Nat} {m : Nat} : mxv f (m + 1) = max (mxv f m) (f m) := rfl
theorem mxv_ge {f : Nat → Nat} {i : Nat} : ∀ m, i < m → f i ≤ mxv f m
  | 0, h => absurd h (Nat.not_lt_zero _)
  | m + 1, h => by
    rw [mxv_1]
    by_cases e : i = m
    · subst e; exact Nat.le_max_right _ _
    · exact Nat.le_trans (mxv_ge m (by omega)) (Nat.le_max_left _ _)
theorem mxv_le {f : Nat → Nat} {x : Nat} : ∀ m, (∀ i, i < m → f i ≤ x) → mxv f m ≤ x
  | 0, _ => Nat.zero_le _
  | m + 1, h => by rw [mxv_1]; exact Nat.max_le.mpr ⟨mxv_le m (fun i hi => h i (by omega)), h m (by omega)⟩
theorem mxv_at {f : Nat → Nat} : ∀ m, mxv f m = 0 ∨ ∃ i, i < m ∧ mxv f m = f i
  | 0 => Or.inl rfl
  | m + 1 => by
    rw [mxv_1]
    by_cases h : mxv f m ≤ f m
    · exact Or.inr ⟨m, by omega, Nat.max_eq_right h⟩
    · rw [Nat.max_eq_left (by omega)]
      rcases mxv_at (f := f) m with z | ⟨i, h1, h2⟩
      · exact Or.inl z
      · exact Or.inr ⟨i, by omega, h2⟩
theorem mxv_eq {f f' : Nat → Nat} {m m' : Nat} (h1 : ∀ i, i < m → f i = 0 ∨ ∃ j, j < m' ∧ f i = f' j) (h2 : ∀ i, i < m' → f' i = 0 ∨ ∃ j, j < m ∧ f' i = f j) : mxv f m = mxv f' m' := by
  apply Nat.le_antisymm
  · exact mxv_le m (fun i hi => by
      rcases h1 i hi with z | ⟨j, z, e⟩
      · omega
      · rw [e]; exact mxv_ge m' z)
  · exact mxv_le m' (fun i hi => by
      rcases h2 i hi with z | ⟨j, z, e⟩
      · omega
      · rw [e]; exact mxv_ge m z)
theorem mxv_c {f f' : Nat → Nat} : ∀ m, (∀ i, i < m → f i = f' i) → mxv f m = mxv f' m
  | 0, _ => rfl
  | m + 1, h => by rw [mxv_1, mxv_1, mxv_c m (fun i hi => h i (by omega)), h m (by omega)]
theorem mxv_up {f f' : Nat → Nat} {u N : Nat} (hu : u < N) (h1 : f' u = f u + 1) (h2 : ∀ i, i ≠ u → f' i = f i) : mxv f' N = max (mxv f N) (f u + 1) := by
  apply Nat.le_antisymm
  · exact mxv_le N (fun i hi => by
      by_cases e : i = u
      · subst e; rw [h1]; exact Nat.le_max_right _ _
      · rw [h2 i e]; exact Nat.le_trans (mxv_ge N hi) (Nat.le_max_left _ _))
  · refine Nat.max_le.mpr ⟨mxv_le N (fun i hi => ?_), h1 ▸ mxv_ge N hu⟩
    by_cases e : i = u
    · subst e; have q := mxv_ge (f := f') N hu; omega
    · exact h2 i e ▸ mxv_ge N hi
/-- how many pairs of a row, of all rows, have the key v -/
def cnr (P : Nat → Nat → Bool) (K : Nat → Nat → Nat) (v b C : Nat) : Nat := bc (fun c => P b c && decide (K b c = v)) C
def cnv (P : Nat → Nat → Bool) (K : Nat → Nat → Nat) (C m v : Nat) : Nat := fb_sm (fun b => cnr P K v b C) m
theorem fpR_1 {b : Nat} {s : Nat × Int32} : ∀ C, (fpR P b C s).1 = s.1 + bc (P b) C
  | 0 => rfl
  | C + 1 => by
    show (fpS P b C (fpR P b C s)).1 = _
    cases e : P b C with
    | false => rw [fpS_n e, fpR_1 C, bc_nn e]
    | true => rw [fpS_y e, bc_yy e]; show (fpR P b C s).1 + 1 = _; rw [fpR_1 C]; rfl
theorem fpA_1 {C : Nat} : ∀ m, (fpA P C m).1 = fb_sm (fun b => bc (P b) C) m
  | 0 => rfl
  | m + 1 => by show (fpR P m C (fpA P C m)).1 = _; rw [fpR_1, fpA_1 m]; rfl
theorem cnr_0 {b C : Nat} (h : ∀ c, c < C → K b c = 0) : cnr P K 0 b C = bc (P b) C := bc_eq (fun i hi => by rw [h i hi]; simp)
theorem cnr_z {v b C : Nat} (h : ∀ c, c < C → K b c = 0) (hv : v ≠ 0) : cnr P K v b C = 0 := (bc_0 C).mpr (fun i hi => by rw [h i hi, decide_eq_false (fun z => hv z.symm)]; simp)
/-- only the row a has keys: the count is that of the row, and of all others for 0 -/
theorem cnv_a {a C : Nat} (h : ∀ b c, b ≠ a → K b c = 0) (v : Nat) : ∀ m, cnv P K C m v + (if a < m ∧ v = 0 then bc (P a) C else 0) = (if a < m then cnr P K v a C else 0) + (if v = 0 then fb_sm (fun b => bc (P b) C) m else 0)
  | 0 => by show 0 + _ = _; rw [if_neg (by omega), if_neg (by omega)]; split <;> rfl
  | m + 1 => by
    have ih := cnv_a (C := C) h v m
    have e1 : cnv P K C (m + 1) v = cnv P K C m v + cnr P K v m C := rfl
    have e2 : fb_sm (fun b => bc (P b) C) (m + 1) = fb_sm (fun b => bc (P b) C) m + bc (P m) C := rfl
    rw [e1, e2]
    by_cases ea : a = m
    · subst ea
      rw [if_neg (by omega), if_neg (by omega)] at ih
      rw [if_pos (show a < a + 1 by omega)]
      by_cases z : v = 0
      · rw [if_pos z] at ih ⊢; rw [if_pos ⟨by omega, z⟩]; omega
      · rw [if_neg z] at ih ⊢; rw [if_neg (fun y => z y.2)]; omega
    · by_cases z : v = 0
      · subst z
        rw [cnr_0 (fun c _ => h m c (fun y => ea y.symm))]
        rw [if_pos rfl] at ih ⊢
        by_cases y : a < m
        · rw [if_pos ⟨y, rfl⟩, if_pos y] at ih; rw [if_pos ⟨by omega, rfl⟩, if_pos (by omega)]; omega
        · rw [if_neg (fun q => y q.1), if_neg y] at ih; rw [if_neg (fun q => y (by omega)), if_neg (by omega)]; omega
      · rw [cnr_z (fun c _ => h m c (fun y => ea y.symm)) z]
        rw [if_neg (fun y => z y.2), if_neg z] at ih
        rw [if_neg (fun y => z y.2), if_neg z]
        by_cases y : a < m
        · rw [if_pos y] at ih; rw [if_pos (by omega)]; omega
        · rw [if_neg y] at ih; rw [if_neg (by omega)]; omega
end S
