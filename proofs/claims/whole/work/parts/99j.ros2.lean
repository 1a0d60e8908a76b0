/-- a whole number as the machine has it -/
def iR (x : Int) : Int32 := Int32.ofInt x
theorem iR_n (a : Nat) : iR (a : Int) = nI a := rfl
theorem iR_sub (x : Int) (a : Nat) : iR x - nI a = iR (x - a) := by rw [← iR_n]; exact (Int32.ofInt_sub x a).symm
theorem iR_add (x : Int) (a : Nat) : iR x + nI a = iR (x + a) := by rw [← iR_n]; exact (Int32.ofInt_add x a).symm
theorem iR_lt {x : Int} {a : Nat} (h1 : -2147483648 ≤ x) (h2 : x < 2147483648) (ha : a < 2 ^ 31) : iR x < nI a ↔ x < a := by
  rw [Int32.lt_iff_toInt_lt, nI_toInt ha, iR, fb_ofI h1 h2]
theorem iR_m1 : iR (-1) = -1 := rfl
theorem nI_mi {a : Nat} : nI (a + 1) + -1 = nI a := by
  rw [← nI_add]
  have e : (nI 1 + (-1 : Int32)) = 0 := by decide
  rw [Int32.add_assoc, e, Int32.add_zero]
/-- the i-th of those that are in -/
def plc (p : Nat → Bool) : Nat → Nat → Nat
  | 0, _ => 0
  | m + 1, i => if p m = true ∧ bc p m = i then m else plc p m i
theorem plc_s {p : Nat → Bool} {m i : Nat} (h : i < bc p m) : plc p (m + 1) i = plc p m i := if_neg (fun z => by omega)
theorem plc_y {p : Nat → Bool} {m : Nat} (h : p m = true) : plc p (m + 1) (bc p m) = m := if_pos ⟨h, rfl⟩
theorem plc_lt {p : Nat → Bool} {i : Nat} : ∀ m, i < bc p m → plc p m i < m ∧ p (plc p m i) = true ∧ bc p (plc p m i) = i
  | 0, h => absurd h (Nat.not_lt_zero _)
  | m + 1, h => by
    by_cases z : p m = true ∧ bc p m = i
    · rw [plc, if_pos z]; exact ⟨by omega, z.1, z.2⟩
    · rw [plc, if_neg z]
      have hl : i < bc p m := by
        rw [bc] at h
        by_cases y : p m = true
        · rw [if_pos y] at h
          have : bc p m ≠ i := fun q => z ⟨y, q⟩
          omega
        · rw [if_neg y] at h; exact h
      have := plc_lt m hl
      exact ⟨by omega, this.2⟩
theorem plc_up {p : Nat → Bool} {m : Nat} : ∀ f i, i < bc p m → plc p (m + f) i = plc p m i
  | 0, _, _ => rfl
  | f + 1, i, h => by
    have hm : ∀ f, bc p m ≤ bc p (m + f) := fun f => by
      induction f with
      | zero => exact Nat.le_refl _
      | succ f ih => show _ ≤ bc p (m + f) + _; exact Nat.le_trans ih (Nat.le_add_right _ _)
    have := hm f
    show plc p (m + f + 1) i = _
    rw [plc_s (by omega), plc_up f i h]
theorem plc_c {p : Nat → Bool} {c m : Nat} (hc : c < m) (h : p c = true) : plc p m (bc p c) = c := by
  have h1 : bc p c < bc p (c + 1) := by rw [bc, if_pos h]; omega
  have := plc_up (p := p) (m := c + 1) (m - (c + 1)) (bc p c) h1
  rw [show c + 1 + (m - (c + 1)) = m by omega] at this
  rw [this, plc_y h]
theorem bc_lt {p : Nat → Bool} {c : Nat} : ∀ m, c < m → p c = true → bc p c < bc p m
  | 0, h, _ => absurd h (Nat.not_lt_zero _)
  | m + 1, h, hp => by
    by_cases e : c = m
    · subst e; rw [bc, if_pos hp]; omega
    · have := bc_lt m (by omega) hp
      rw [bc]; omega
/-- a way is better than the best so far -/
def btr : Option Nat → Nat → Nat → Bool
  | none, _, c => decide (c < 99999)
  | some z, s, c => decide (c < 99999) && decide (s + c < z)
def nmF (m : Option Nat) (s c : Nat) : Option Nat := if btr m s c = true then some (s + c) else m
def nbF (m : Option Nat) (s c : Nat) (y o : Nat → Nat) : Nat → Nat := if btr m s c = true then y else o
theorem btr_n {s c : Nat} : btr none s c = true ↔ c < 99999 := by simp [btr]
theorem btr_s {z s c : Nat} : btr (some z) s c = true ↔ c < 99999 ∧ s + c < z := by simp [btr]
theorem nm_0 {m : Option Nat} {s : Nat} : nmF m s 99999 = m := by
  unfold nmF
  rw [if_neg (fun h => by cases m with
    | none => exact absurd (btr_n.mp h) (Nat.lt_irrefl _)
    | some z => exact absurd (btr_s.mp h).1 (Nat.lt_irrefl _))]
theorem nb_0 {m : Option Nat} {s : Nat} {y o : Nat → Nat} : nbF m s 99999 y o = o := by
  unfold nbF
  rw [if_neg (fun h => by cases m with
    | none => exact absurd (btr_n.mp h) (Nat.lt_irrefl _)
    | some z => exact absurd (btr_s.mp h).1 (Nat.lt_irrefl _))]
theorem nm_le {m : Option Nat} {s c z B : Nat} (h : nmF m s c = some z) (hm : ∀ z, m = some z → z ≤ B) (hs : s + 99999 ≤ B) : z ≤ B := by
  unfold nmF at h
  by_cases e : btr m s c = true
  · rw [if_pos e] at h; cases h
    have : c < 99999 := by cases m with
      | none => exact btr_n.mp e
      | some z => exact (btr_s.mp e).1
    omega
  · rw [if_neg e] at h; exact hm z h
/-- one more back -/
theorem nm_st {m : Option Nat} {s c x v L : Nat} (hc : c ≤ 99999) (h1 : L < 99999 → x = v + L ∧ x < 99999) (h2 : ¬ L < 99999 → 99999 ≤ x) : nmF (nmF m s c) (s + v) L = nmF m s (if x < c then x else c) ∧ (btr (nmF m s c) (s + v) L = true ↔ x < c ∧ btr m s x = true) ∧ (btr (nmF m s c) (s + v) L = false → x < c → btr m s x = false ∧ btr m s c = false) := by
  have hx : L < 99999 ↔ x < 99999 := ⟨fun h => (h1 h).2, fun h => by
    by_cases z : L < 99999
    · exact z
    · have := h2 z; omega⟩
  have key : btr (nmF m s c) (s + v) L = true ↔ x < c ∧ btr m s x = true := by
    by_cases hL : L < 99999
    · obtain ⟨e, hx9⟩ := h1 hL
      cases m with
      | none =>
        by_cases z : c < 99999
        · rw [nmF, if_pos (btr_n.mpr z), btr_s, btr_n]; omega
        · rw [nmF, if_neg (fun h => z (btr_n.mp h)), btr_n, btr_n]; omega
      | some y =>
        by_cases z : c < 99999 ∧ s + c < y
        · rw [nmF, if_pos (btr_s.mpr z), btr_s, btr_s]; omega
        · rw [nmF, if_neg (fun h => z (btr_s.mp h)), btr_s, btr_s]; omega
    · have h9 := h2 hL
      constructor
      · intro h
        exfalso
        cases e : nmF m s c with
        | none => rw [e] at h; exact hL (btr_n.mp h)
        | some y => rw [e] at h; exact hL (btr_s.mp h).1
      · intro h; omega
  refine ⟨?_, key, fun h hlt => ?_⟩
  · by_cases z : btr (nmF m s c) (s + v) L = true
    · obtain ⟨z1, z2⟩ := key.mp z
      have hL : L < 99999 := by
        cases e : nmF m s c with
        | none => rw [e] at z; exact btr_n.mp z
        | some y => rw [e] at z; exact (btr_s.mp z).1
      rw [if_pos z1]
      show (if _ then _ else _) = (if _ then _ else _)
      rw [if_pos z, if_pos z2, (h1 hL).1, Nat.add_assoc]
    · rw [show nmF (nmF m s c) (s + v) L = nmF m s c from if_neg z]
      by_cases y : x < c
      · rw [if_pos y]
        have q : ¬ btr m s x = true := fun t => z (key.mpr ⟨y, t⟩)
        have q2 : ¬ btr m s c = true := fun t => q (by
          cases m with
          | none => exact btr_n.mpr (by have := btr_n.mp t; omega)
          | some u => exact btr_s.mpr (by have := btr_s.mp t; omega))
        show (if _ then _ else _) = (if _ then _ else _)
        rw [if_neg q, if_neg q2]
      · rw [if_neg y]
  · have q : ¬ btr m s x = true := fun t => by rw [key.mpr ⟨hlt, t⟩] at h; exact absurd h (by decide)
    have q2 : ¬ btr m s c = true := fun t => q (by
      cases m with
      | none => exact btr_n.mpr (by have := btr_n.mp t; omega)
      | some u => exact btr_s.mpr (by have := btr_s.mp t; omega))
    exact ⟨by cases e : btr m s x with
      | true => exact absurd e q
      | false => rfl, by cases e : btr m s c with
      | true => exact absurd e q2
      | false => rfl⟩
section
variable {N M : Nat} {v : Nat → Nat → Nat} {r r0 : Nat → Int} {m : Option Nat} {s : Nat} {a o : Nat → Nat}
/-- the way with the best of the first backs at i -/
def yF (N : Nat) (v : Nat → Nat → Nat) (k i : Nat) (r : Nat → Int) (a : Nat → Nat) (b : Nat) : Nat → Nat := fun j => if j < i then a j else if j = i then agF (cnF N v k i r) b else roA N v k (i + 1) (rdc r (agF (cnF N v k i r) b) (v i (agF (cnF N v k i r) b))) j
theorem yF_N {k i : Nat} : yF N v k i r a N = fun j => if j < i then a j else roA N v (k + 1) i r j := by
  funext j
  unfold yF
  by_cases h : j < i
  · rw [if_pos h, if_pos h]
  · rw [if_neg h, if_neg h]; rfl
/-- the step of the search with a child that is asked -/
theorem gv_st {k i b : Nat} {B : Nat} (hi : i + (k + 1) = M) (hv : ∀ i b, i < M → v i b ≤ B) (hB : M * B < 99999) (hr : (v i b : Int) ≤ r b) :
    nmF (nmF m s (mnF (cnF N v k i r) b)) (s + v i b) (roL N v k (i + 1) (rdc r b (v i b))) = nmF m s (mnF (cnF N v k i r) (b + 1)) ∧
    nbF (nmF m s (mnF (cnF N v k i r) b)) (s + v i b) (roL N v k (i + 1) (rdc r b (v i b))) (fun j => if j < i + 1 then (if j = i then b else a j) else roA N v k (i + 1) (rdc r b (v i b)) j) (nbF m s (mnF (cnF N v k i r) b) (yF N v k i r a b) o) = nbF m s (mnF (cnF N v k i r) (b + 1)) (yF N v k i r a (b + 1)) o := by
  have e2 : cnF N v k i r b = v i b + roL N v k (i + 1) (rdc r b (v i b)) := if_pos hr
  have hm := (roL_mv (N := N) (v := v) (r := rdc r b (v i b)) (show i + 1 + k = M by omega)).1
  have hb := fun h => roL_b (N := N) hv k (i + 1) (rdc r b (v i b)) (by omega) h
  have hv1 := hv i b (by omega)
  have hMB : (k + 1) * B ≤ M * B := Nat.mul_le_mul_right B (by omega)
  rw [Nat.succ_mul] at hMB
  have st := nm_st (m := m) (s := s) (c := mnF (cnF N v k i r) b) (x := cnF N v k i r b) (v := v i b) (L := roL N v k (i + 1) (rdc r b (v i b))) (mnF_le b) (fun h => ⟨e2, by have := hb h; omega⟩) (fun h => by omega)
  refine ⟨st.1, ?_⟩
  have eM : mnF (cnF N v k i r) (b + 1) = if cnF N v k i r b < mnF (cnF N v k i r) b then cnF N v k i r b else mnF (cnF N v k i r) b := rfl
  have eA : agF (cnF N v k i r) (b + 1) = if cnF N v k i r b < mnF (cnF N v k i r) b then b else agF (cnF N v k i r) b := rfl
  cases z : btr (nmF m s (mnF (cnF N v k i r) b)) (s + v i b) (roL N v k (i + 1) (rdc r b (v i b))) with
  | true =>
    obtain ⟨z1, z2⟩ := st.2.1.mp z
    rw [if_pos z1] at eM eA
    rw [eM]
    unfold nbF
    rw [if_pos z, if_pos z2]
    funext j
    unfold yF
    rw [eA]
    by_cases h1 : j < i
    · rw [if_pos h1, if_pos (by omega), if_neg (by omega)]
    · by_cases h2 : j = i
      · rw [if_pos (by omega), if_pos h2, if_neg h1, if_pos h2]
      · rw [if_neg (by omega), if_neg h1, if_neg h2]
  | false =>
    have e9 : nbF (nmF m s (mnF (cnF N v k i r) b)) (s + v i b) (roL N v k (i + 1) (rdc r b (v i b))) (fun j => if j < i + 1 then (if j = i then b else a j) else roA N v k (i + 1) (rdc r b (v i b)) j) (nbF m s (mnF (cnF N v k i r) b) (yF N v k i r a b) o) = nbF m s (mnF (cnF N v k i r) b) (yF N v k i r a b) o := if_neg (by rw [z]; decide)
    rw [e9]
    by_cases y : cnF N v k i r b < mnF (cnF N v k i r) b
    · have q := st.2.2 z y
      rw [if_pos y] at eM
      rw [eM]
      unfold nbF
      rw [if_neg (by rw [q.2]; decide), if_neg (by rw [q.1]; decide)]
    · rw [if_neg y] at eM eA
      have ey : yF N v k i r a (b + 1) = yF N v k i r a b := by unfold yF; rw [eA]
      rw [eM, ey]
/-- a back that can't -/
theorem gv_no {k i b : Nat} (hr : ¬ (v i b : Int) ≤ r b) : mnF (cnF N v k i r) (b + 1) = mnF (cnF N v k i r) b ∧ yF N v k i r a (b + 1) = yF N v k i r a b := by
  have e2 : cnF N v k i r b = 99999 := if_neg hr
  have h := mnF_le (f := cnF N v k i r) b
  have z : ¬ cnF N v k i r b < mnF (cnF N v k i r) b := by omega
  have eM : mnF (cnF N v k i r) (b + 1) = if cnF N v k i r b < mnF (cnF N v k i r) b then cnF N v k i r b else mnF (cnF N v k i r) b := rfl
  have eA : agF (cnF N v k i r) (b + 1) = if cnF N v k i r b < mnF (cnF N v k i r) b then b else agF (cnF N v k i r) b := rfl
  rw [if_neg z] at eM eA
  exact ⟨eM, by unfold yF; rw [eA]⟩
/-- a back that could, but not better -/
theorem gv_cut {k i b z : Nat} {B : Nat} (hi : i + (k + 1) = M) (hv : ∀ i b, i < M → v i b ≤ B) (hB : M * B < 99999) (hr : (v i b : Int) ≤ r b) (h0 : ∀ b, r b ≤ r0 b) (hz : nmF m s (mnF (cnF N v k i r) b) = some z) (hc : z ≤ s + v i b + lfF N v r0 k (i + 1)) :
    nmF m s (mnF (cnF N v k i r) b) = nmF m s (mnF (cnF N v k i r) (b + 1)) ∧ nbF m s (mnF (cnF N v k i r) b) (yF N v k i r a b) o = nbF m s (mnF (cnF N v k i r) (b + 1)) (yF N v k i r a (b + 1)) o := by
  have st := gv_st (N := N) (m := m) (s := s) (a := a) (o := o) hi hv hB hr
  have nb : ¬ btr (nmF m s (mnF (cnF N v k i r) b)) (s + v i b) (roL N v k (i + 1) (rdc r b (v i b))) = true := fun y => by
    rw [hz] at y
    have y := btr_s.mp y
    have := lfF_le (N := N) (v := v) (r0 := r0) k (i + 1) (rdc r b (v i b)) (fun j => by
      have := h0 j
      unfold rdc; split <;> omega) y.1
    omega
  have e1 : nmF (nmF m s (mnF (cnF N v k i r) b)) (s + v i b) (roL N v k (i + 1) (rdc r b (v i b))) = nmF m s (mnF (cnF N v k i r) b) := if_neg nb
  have e2 : ∀ y o, nbF (nmF m s (mnF (cnF N v k i r) b)) (s + v i b) (roL N v k (i + 1) (rdc r b (v i b))) y o = o := fun y o => if_neg nb
  exact ⟨e1.symm.trans st.1, (e2 _ _).symm.trans st.2⟩
end
