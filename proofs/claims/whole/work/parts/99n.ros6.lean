theorem pos_n {x : Int32} (h : ¬ x < 0) : ∃ u, u < 2 ^ 31 ∧ x = nI u := by
  have h' : 0 ≤ x.toInt := by
    rw [Int32.lt_iff_toInt_lt] at h
    have e : (0 : Int32).toInt = 0 := by decide
    omega
  have h2 := Int32.toInt_lt x
  refine ⟨x.toInt.toNat, by omega, ?_⟩
  rw [← iR_n, Int.toNat_of_nonneg h', iR, Int32.ofInt_toInt]
/-- places of the table -/
def ixB (b s : Nat) : Bool := ((nI b <<< ((6 : Int32) &&& 31)) ||| nI s) == nI (b * 64 + s)
theorem ixB_t : ((List.range 9).all fun b => (List.range 64).all fun s => ixB b s) = true := by decide +kernel
theorem ix_64 {b s : Nat} (hb : b < 9) (hs : s < 64) : (nI b <<< ((6 : Int32) &&& 31)) ||| nI s = nI (b * 64 + s) :=
  eq_of_beq (List.all_eq_true.mp (List.all_eq_true.mp ixB_t b (List.mem_range.mpr hb)) s (List.mem_range.mpr hs))
def xnB (s t : Nat) : Bool := !(t &&& s == t) || ((nI s &&& (nI t ^^^ -1)) == nI (s ^^^ t))
theorem xnB_t : ((List.range 64).all fun s => (List.range 64).all fun t => xnB s t) = true := by decide +kernel
theorem xn_64 {s t : Nat} (hs : s < 64) (ht : t < 64) (h : t &&& s = t) : nI s &&& (nI t ^^^ -1) = nI (s ^^^ t) := by
  have h1 := List.all_eq_true.mp (List.all_eq_true.mp xnB_t s (List.mem_range.mpr hs)) t (List.mem_range.mpr ht)
  rw [xnB, h] at h1
  simp only [beq_self_eq_true, Bool.not_true, Bool.false_or] at h1
  exact eq_of_beq h1
def naB (s t : Nat) : Bool := ((nI (t + 1) - 1) &&& nI s) == nI (t &&& s)
theorem naB_t : ((List.range 64).all fun s => (List.range 64).all fun t => naB s t) = true := by decide +kernel
theorem na_64 {s t : Nat} (hs : s < 64) (ht : t < 64) (h : 0 < t) : (nI t - 1) &&& nI s = nI ((t - 1) &&& s) := by
  have h1 := List.all_eq_true.mp (List.all_eq_true.mp naB_t s (List.mem_range.mpr hs)) (t - 1) (List.mem_range.mpr (by omega))
  rw [naB, show t - 1 + 1 = t by omega] at h1
  exact eq_of_beq h1
/-- the part t of the set s may be b's -/
def alF (g : Nat → Nat) (b s t : Nat) : Nat → Bool
  | 0 => true
  | m + 1 => alF g b s t m && (!s.testBit m || (decide (g m = b) == t.testBit m))
theorem alF_1 {g : Nat → Nat} {b s t m : Nat} : alF g b s t (m + 1) = (alF g b s t m && (!s.testBit m || (decide (g m = b) == t.testBit m))) := rfl
theorem alF_t {g : Nat → Nat} {b s t : Nat} : ∀ m, alF g b s t m = true ↔ ∀ i, i < m → s.testBit i = true → (t.testBit i = true ↔ g i = b)
  | 0 => ⟨fun _ i hi => absurd hi (Nat.not_lt_zero _), fun _ => rfl⟩
  | m + 1 => by
    rw [alF_1, Bool.and_eq_true, alF_t m]
    constructor
    · rintro ⟨h1, h2⟩ i hi hs
      by_cases e : i = m
      · subst e
        rw [hs] at h2
        simp only [Bool.not_true, Bool.false_or] at h2
        have h2 := eq_of_beq h2
        rw [← h2]; simp
      · exact h1 i (by omega) hs
    · intro h
      refine ⟨fun i hi hs => h i (by omega) hs, ?_⟩
      cases e : s.testBit m with
      | false => rfl
      | true =>
        have q := h m (by omega) e
        cases y : t.testBit m with
        | true => rw [y] at q; simp [q.mp rfl]
        | false => rw [y] at q; simp; exact fun z => absurd (q.mpr z) (by decide)
theorem s_x0 (s : Nat) : s ^^^ 0 = s := Nat.xor_zero s
theorem xo_lt {s t T : Nat} (hs : s < 2 ^ T) (ht : t < 2 ^ T) : s ^^^ t < 2 ^ T := Nat.xor_lt_two_pow hs ht
