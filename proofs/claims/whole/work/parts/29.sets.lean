section Sets
/-- a set of numbers below k, as bits -/
def bs (p : Nat → Bool) : Nat → Nat
  | 0 => 0
  | k + 1 => bs p k + if p k then 2 ^ k else 0
theorem bs_lt (p : Nat → Bool) : ∀ k, bs p k < 2 ^ k
  | 0 => by simp [bs]
  | k + 1 => by have := bs_lt p k; rw [bs, Nat.pow_succ]; split <;> omega
theorem bs_tb (p : Nat → Bool) : ∀ k i, (bs p k).testBit i = (decide (i < k) && p i)
  | 0, i => by simp [bs]
  | k + 1, i => by
    have hl := bs_lt p k
    have ih := bs_tb p k
    rw [bs]
    by_cases hp : p k = true
    · rw [if_pos hp, Nat.add_comm]
      rcases Nat.lt_trichotomy i k with h | h | h
      · rw [Nat.testBit_two_pow_add_gt h, ih i]; simp [h]; omega
      · subst h; rw [Nat.testBit_two_pow_add_eq, ih i]; simp [hp]
      · rw [Nat.testBit_lt_two_pow (Nat.lt_of_lt_of_le (by rw [Nat.pow_succ]; omega : 2 ^ k + bs p k < 2 ^ (k + 1)) (Nat.pow_le_pow_right (by omega) h))]
        simp; omega
    · rw [if_neg hp, Nat.add_zero, ih i]
      by_cases h : i = k
      · subst h; simp [hp]
      · have e : decide (i < k) = decide (i < k + 1) := by simp; omega
        rw [e]
theorem bs_eq {p q : Nat → Bool} {k : Nat} (h : ∀ i, i < k → p i = q i) : bs p k = bs q k := by
  induction k with
  | zero => rfl
  | succ k ih => rw [bs, bs, ih (fun i hi => h i (by omega)), h k (by omega)]
theorem bs_up {p : Nat → Bool} {k m : Nat} (h : k ≤ m) (hz : ∀ i, k ≤ i → i < m → p i = false) : bs p k = bs p m := by
  induction m with
  | zero => rw [show k = 0 by omega]
  | succ m ih =>
    by_cases e : k = m + 1
    · rw [e]
    · rw [ih (by omega) (fun i h1 h2 => hz i h1 (by omega)), bs, hz m (by omega) (by omega)]; simp
theorem bt_nI (n i : Nat) : bt (nI n) i = (decide (i < 32) && n.testBit i) := by
  unfold bt
  rw [show (nI n).toBitVec = BitVec.ofNat 32 n from rfl, BitVec.getLsbD_ofNat]
theorem bt_bs (p : Nat → Bool) {k : Nat} (hk : k ≤ 32) (i : Nat) : bt (nI (bs p k)) i = (decide (i < k) && p i) := by
  rw [bt_nI, bs_tb]
  by_cases h : i < k
  · simp [h]; intro; omega
  · simp [h]
theorem bs_or {p q : Nat → Bool} {k : Nat} (hk : k ≤ 32) : nI (bs p k) ||| nI (bs q k) = nI (bs (fun i => p i || q i) k) := by
  apply b_ext; intro i hi
  rw [b_or, bt_bs _ hk, bt_bs _ hk, bt_bs _ hk]
  cases decide (i < k) <;> simp
theorem bs_and {p q : Nat → Bool} {k : Nat} (hk : k ≤ 32) : nI (bs p k) &&& nI (bs q k) = nI (bs (fun i => p i && q i) k) := by
  apply b_ext; intro i hi
  rw [b_and, bt_bs _ hk, bt_bs _ hk, bt_bs _ hk]
  cases decide (i < k) <;> simp
/-- and not -/
theorem bs_an {p q : Nat → Bool} {k : Nat} (hk : k ≤ 32) : nI (bs p k) &&& (nI (bs q k) ^^^ -1) = nI (bs (fun i => p i && !q i) k) := by
  apply b_ext; intro i hi
  rw [b_and, b_xor, bt_bs _ hk, bt_bs _ hk, bt_bs _ hk, b_m1 i hi]
  cases decide (i < k) <;> simp
theorem bs_0 {p : Nat → Bool} {k : Nat} (hk : k ≤ 31) : nI (bs p k) = 0 ↔ ∀ i, i < k → p i = false := by
  have hl := bs_lt p k
  have h31 : 2 ^ k ≤ 2 ^ 31 := Nat.pow_le_pow_right (by omega) hk
  rw [show (0 : Int32) = nI 0 from rfl, nI_eq (by omega) (by omega)]
  constructor
  · intro h i hi
    have := bs_tb p k i
    rw [h] at this
    simp [hi] at this
    exact this
  · intro h
    rw [bs_eq (q := fun _ => false) h]
    clear hl h31 h hk
    induction k with
    | zero => rfl
    | succ k ih => rw [bs, ih]; rfl
theorem sh_1 {i : Nat} (hi : i < 31) : (1 : Int32) <<< (nI i &&& 31) = nI (2 ^ i) := by
  have h1 : 1 * 2 ^ i < 2 ^ 32 := by rw [Nat.one_mul]; exact Nat.pow_lt_pow_right (by omega) (by omega)
  have := pk_shlN (n := 1) (nI i &&& 31) i (s_l i (by omega)) h1
  rw [Nat.one_mul] at this
  exact this
theorem bs_one {i k : Nat} (hi : i < k) : bs (fun j => decide (j = i)) k = 2 ^ i := by
  apply Nat.eq_of_testBit_eq
  intro j
  rw [bs_tb, Nat.testBit_two_pow]
  by_cases h : j = i
  · subst h; simp [hi]
  · have : ¬ i = j := fun q => h q.symm
    simp [h, this]
theorem sh_bs {i k : Nat} (hi : i < k) (hk : k ≤ 31) : (1 : Int32) <<< (nI i &&& 31) = nI (bs (fun j => decide (j = i)) k) := by
  rw [sh_1 (by omega), bs_one hi]
theorem shr_nI {m i : Nat} (hm : m < 2 ^ 31) (hi : i < 32) : nI m >>> (nI i &&& 31) = nI (m / 2 ^ i) := pk_shrN hm _ i (s_l i hi)
theorem and_1 (m : Nat) (h : m < 2 ^ 32) : nI m &&& 1 = nI (m % 2) := by
  have := pk_andN h (m := 1) 1 (by decide)
  simpa using this
theorem bit_nI {m i : Nat} (hm : m < 2 ^ 31) (hi : i < 32) : (nI m >>> (nI i &&& 31)) &&& 1 = if m.testBit i then 1 else 0 := by
  have h2 : m / 2 ^ i ≤ m := Nat.div_le_self _ _
  rw [shr_nI hm hi, and_1 _ (by omega), Nat.testBit_eq_decide_div_mod_eq]
  have : m / 2 ^ i % 2 < 2 := Nat.mod_lt _ (by omega)
  by_cases h : m / 2 ^ i % 2 = 1
  · rw [h]; rfl
  · rw [show m / 2 ^ i % 2 = 0 by omega]; rfl
/-- is i in the set -/
theorem bit_bs {p : Nat → Bool} {k i : Nat} (hk : k ≤ 31) (hi : i < k) : (nI (bs p k) >>> (nI i &&& 31)) &&& 1 = if p i then 1 else 0 := by
  have hl := bs_lt p k
  have h31 : 2 ^ k ≤ 2 ^ 31 := Nat.pow_le_pow_right (by omega) hk
  rw [bit_nI (by omega) (by omega), bs_tb]
  simp [hi]
/-- how many are in the set -/
def bc (p : Nat → Bool) : Nat → Nat
  | 0 => 0
  | k + 1 => bc p k + if p k then 1 else 0
theorem bc_le (p : Nat → Bool) : ∀ k, bc p k ≤ k
  | 0 => Nat.le_refl _
  | k + 1 => by have := bc_le p k; rw [bc]; split <;> omega
theorem bc_eq {p q : Nat → Bool} {k : Nat} (h : ∀ i, i < k → p i = q i) : bc p k = bc q k := by
  induction k with
  | zero => rfl
  | succ k ih => rw [bc, bc, ih (fun i hi => h i (by omega)), h k (by omega)]
theorem bs_full {k : Nat} : bs (fun _ => true) k = 2 ^ k - 1 := by
  induction k with
  | zero => rfl
  | succ k ih => rw [bs, ih, Nat.pow_succ]; have := Nat.one_le_two_pow (n := k); simp; omega
/-- (1 << k) - 1 -/
theorem ones_bs {k : Nat} (hk : k < 31) : (1 : Int32) <<< (nI k &&& 31) - 1 = nI (bs (fun _ => true) k) := by
  rw [sh_1 hk, bs_full, show (1 : Int32) = nI 1 from rfl, pk_sub (Nat.one_le_two_pow)]
end Sets
