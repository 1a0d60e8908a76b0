/-- the rooms, less x at b -/
def rdc (r : Nat → Int) (b x : Nat) : Nat → Int := fun j => if j = b then r j - x else r j
/-- the least of the first m, at most far; the first place of it -/
def mnF (f : Nat → Nat) : Nat → Nat
  | 0 => 99999
  | m + 1 => if f m < mnF f m then f m else mnF f m
def agF (f : Nat → Nat) : Nat → Nat
  | 0 => 0
  | m + 1 => if f m < mnF f m then m else agF f m
theorem mnF_le {f : Nat → Nat} : ∀ m, mnF f m ≤ 99999
  | 0 => Nat.le_refl _
  | m + 1 => by have := mnF_le (f := f) m; rw [mnF]; split <;> omega
theorem mnF_ge {f : Nat → Nat} {i : Nat} : ∀ m, i < m → mnF f m ≤ f i
  | 0, h => absurd h (Nat.not_lt_zero _)
  | m + 1, h => by
    rw [mnF]
    by_cases e : i = m
    · subst e; split <;> omega
    · have := mnF_ge (f := f) (i := i) m (by omega); split <;> omega
theorem agF_at {f : Nat → Nat} : ∀ m, mnF f m < 99999 → agF f m < m ∧ f (agF f m) = mnF f m
  | 0, h => absurd h (Nat.lt_irrefl 99999)
  | m + 1, h => by
    rw [mnF] at h; rw [agF, mnF]
    by_cases z : f m < mnF f m
    · rw [if_pos z, if_pos z]; exact ⟨by omega, rfl⟩
    · rw [if_neg z] at h; rw [if_neg z, if_neg z]; have := agF_at m h; exact ⟨by omega, this.2⟩
theorem agF_le {f : Nat → Nat} {i : Nat} : ∀ m, mnF f m < 99999 → i < m → f i = mnF f m → agF f m ≤ i
  | 0, h, _, _ => absurd h (Nat.lt_irrefl 99999)
  | m + 1, h, hi, he => by
    rw [mnF] at h he; rw [agF]
    by_cases z : f m < mnF f m
    · rw [if_pos z] at he ⊢
      by_cases e : i = m
      · omega
      · have := mnF_ge (f := f) (i := i) m (by omega); omega
    · rw [if_neg z] at h he ⊢
      by_cases e : i = m
      · have := (agF_at m h).1; omega
      · exact agF_le m h (by omega) he
section
variable {N M : Nat} {v : Nat → Nat → Nat} {r : Nat → Int}
/-- the least burden from i on, k of them left, and the first way to it -/
def roL (N : Nat) (v : Nat → Nat → Nat) : Nat → Nat → (Nat → Int) → Nat
  | 0, _, _ => 0
  | k + 1, i, r => mnF (fun b => if (v i b : Int) ≤ r b then v i b + roL N v k (i + 1) (rdc r b (v i b)) else 99999) N
def cnF (N : Nat) (v : Nat → Nat → Nat) (k i : Nat) (r : Nat → Int) (b : Nat) : Nat := if (v i b : Int) ≤ r b then v i b + roL N v k (i + 1) (rdc r b (v i b)) else 99999
theorem roL_1 {k i : Nat} : roL N v (k + 1) i r = mnF (cnF N v k i r) N := rfl
def roA (N : Nat) (v : Nat → Nat → Nat) : Nat → Nat → (Nat → Int) → Nat → Nat
  | 0, _, _, _ => 0
  | k + 1, i, r, j => if j = i then agF (cnF N v k i r) N else roA N v k (i + 1) (rdc r (agF (cnF N v k i r) N) (v i (agF (cnF N v k i r) N))) j
/-- what b bears of the set p, and what all bear -/
def ldF (M : Nat) (v : Nat → Nat → Nat) (f : Nat → Nat) (p : Nat → Bool) (b : Nat) : Nat := fb_sm (fun i => if p i = true ∧ f i = b then v i b else 0) M
def coF (M : Nat) (v : Nat → Nat → Nat) (f : Nat → Nat) (p : Nat → Bool) : Nat := fb_sm (fun i => if p i = true then v i (f i) else 0) M
/-- f is a way for the set p, over the backs from lo on -/
def feF (N M : Nat) (v : Nat → Nat → Nat) (r : Nat → Int) (C : Nat → Nat → Prop) (lo : Nat) (p : Nat → Bool) (f : Nat → Nat) : Prop :=
  ∀ i, i < M → p i = true → lo ≤ f i ∧ f i < N ∧ (ldF M v f p (f i) : Int) ≤ r (f i) ∧ C i (f i)
/-- x is the least of the ways' burdens, far if there is none -/
def mvF (N M : Nat) (v : Nat → Nat → Nat) (r : Nat → Int) (C : Nat → Nat → Prop) (lo : Nat) (p : Nat → Bool) (x : Nat) : Prop :=
  x ≤ 99999 ∧ (∀ f, feF N M v r C lo p f → x ≤ coF M v f p) ∧ (x < 99999 → ∃ f, feF N M v r C lo p f ∧ coF M v f p = x)
def nC : Nat → Nat → Prop := fun _ _ => True
variable {C : Nat → Nat → Prop} {lo : Nat} {p q : Nat → Bool} {f f' : Nat → Nat} {b x y : Nat}
theorem mvF_u (h : mvF N M v r C lo p x) (h' : mvF N M v r C lo p y) : x = y := by
  have key : ∀ {x y}, mvF N M v r C lo p x → mvF N M v r C lo p y → y ≤ x := by
    intro x y h h'
    by_cases z : x < 99999
    · obtain ⟨f, h1, h2⟩ := h.2.2 z
      have := h'.2.1 f h1; omega
    · have := h'.1; omega
  exact Nat.le_antisymm (key h' h) (key h h')
theorem ldF_c (h : ∀ i, i < M → p i = q i) (hf : ∀ i, i < M → q i = true → f i = f' i) : ldF M v f p b = ldF M v f' q b :=
  fb_sm_cong fun i hi => by
    rw [h i hi]
    by_cases z : q i = true
    · rw [hf i hi z]
    · rw [if_neg (fun y => z y.1), if_neg (fun y => z y.1)]
theorem coF_c (h : ∀ i, i < M → p i = q i) (hf : ∀ i, i < M → q i = true → f i = f' i) : coF M v f p = coF M v f' q :=
  fb_sm_cong fun i hi => by
    rw [h i hi]
    by_cases z : q i = true
    · rw [if_pos z, if_pos z, hf i hi z]
    · rw [if_neg z, if_neg z]
theorem feF_c (h : ∀ i, i < M → p i = q i) (hf : ∀ i, i < M → q i = true → f i = f' i) (hh : feF N M v r C lo p f) : feF N M v r C lo q f' := by
  intro i hi hq
  have z := hh i hi (by rw [h i hi]; exact hq)
  rw [← hf i hi hq, ← ldF_c (b := f i) h hf]; exact z
theorem mvF_c (h : ∀ i, i < M → p i = q i) (hh : mvF N M v r C lo p x) : mvF N M v r C lo q x := by
  refine ⟨hh.1, fun f hf => ?_, fun z => ?_⟩
  · have e := hh.2.1 f (feF_c (fun i hi => (h i hi).symm) (fun _ _ _ => rfl) hf)
    rw [coF_c h (fun _ _ _ => rfl)] at e; exact e
  · obtain ⟨f, h1, h2⟩ := hh.2.2 z
    exact ⟨f, feF_c h (fun _ _ _ => rfl) h1, by rw [← coF_c h (fun _ _ _ => rfl)]; exact h2⟩
/-- one of the set is taken out -/
def ouF (p : Nat → Bool) (i : Nat) : Nat → Bool := fun j => p j && !decide (j = i)
theorem sm_ou {g : Nat → Nat} {i : Nat} {P : Nat → Prop} [DecidablePred P] (hi : i < M) (hp : P i) : fb_sm (fun j => if P j then g j else 0) M = fb_sm (fun j => if P j ∧ ¬ j = i then g j else 0) M + g i := by
  have h := fb_sm_upd (fun j => if P j then g j else 0) 0 hi
  have e : fb_sm (fun k => if k = i then 0 else (fun j => if P j then g j else 0) k) M = fb_sm (fun j => if P j ∧ ¬ j = i then g j else 0) M := fb_sm_cong fun k _ => by
    by_cases z : k = i
    · rw [if_pos z, if_neg (fun y => y.2 z)]
    · rw [if_neg z]
      by_cases y : P k
      · rw [if_pos ⟨y, z⟩]; exact if_pos y
      · rw [if_neg (fun t => y t.1)]; exact if_neg y
  rw [e] at h
  simp only [if_pos hp] at h
  omega
theorem ou_t {i j : Nat} : ouF p i j = true ↔ p j = true ∧ ¬ j = i := by simp [ouF]
theorem co_ou {i : Nat} (hi : i < M) (hp : p i = true) : coF M v f p = coF M v f (ouF p i) + v i (f i) := by
  unfold coF
  rw [sm_ou (P := fun j => p j = true) (g := fun j => v j (f j)) hi hp]
  congr 1
  exact fb_sm_cong fun j _ => by simp only [ou_t]
theorem ld_ou {i : Nat} (hi : i < M) (hp : p i = true) : ldF M v f p (f i) = ldF M v f (ouF p i) (f i) + v i (f i) := by
  unfold ldF
  rw [sm_ou (P := fun j => p j = true ∧ f j = f i) (g := fun j => v j (f i)) hi ⟨hp, rfl⟩]
  congr 1
  exact fb_sm_cong fun j _ => by
    simp only [ou_t]
    by_cases a : p j = true <;> by_cases b : f j = f i <;> by_cases c : j = i <;> simp [a, b, c]
theorem ld_on {i : Nat} (hb : f i ≠ b) : ldF M v f (ouF p i) b = ldF M v f p b :=
  fb_sm_cong fun j _ => by
    simp only [ou_t]
    by_cases c : j = i
    · subst c; rw [if_neg (fun y => hb y.2), if_neg (fun y => hb y.2)]
    · by_cases a : p j = true <;> simp [a, c]
theorem fe_ou {i : Nat} (hi : i < M) (hp : p i = true) (h : feF N M v r C lo p f) : feF N M v (rdc r (f i) (v i (f i))) C lo (ouF p i) f := by
  intro j hj hq
  have z := h j hj (ou_t.mp hq).1
  refine ⟨z.1, z.2.1, ?_, z.2.2.2⟩
  unfold rdc
  by_cases e : f j = f i
  · rw [if_pos e, e]
    have e1 := ld_ou (v := v) (f := f) hi hp
    have z2 := z.2.2.1
    rw [e] at z2; omega
  · rw [if_neg e, ld_on (fun y => e y.symm)]; exact z.2.2.1
theorem fe_in {i : Nat} (hi : i < M) (hp : p i = true) (hl : lo ≤ f i) (hN : f i < N) (hC : C i (f i)) (hv : (v i (f i) : Int) ≤ r (f i)) (h : feF N M v (rdc r (f i) (v i (f i))) C lo (ouF p i) f) : feF N M v r C lo p f := by
  intro j hj hq
  have e1 := ld_ou (v := v) (f := f) hi hp
  by_cases e : j = i
  · subst e
    refine ⟨hl, hN, ?_, hC⟩
    by_cases z : ∃ k, k < M ∧ ouF p j k = true ∧ f k = f j
    · obtain ⟨k, k1, k2, k3⟩ := z
      have y := (h k k1 k2).2.2.1
      rw [k3, rdc, if_pos rfl] at y; omega
    · have e2 : ldF M v f (ouF p j) (f j) = 0 := by
        rw [ldF, fb_sm_cong (g := fun _ => 0) (fun k hk => if_neg (fun y => z ⟨k, hk, y⟩)), fb_sm_const]; rfl
      rw [e1, e2]; omega
  · have z := h j hj (ou_t.mpr ⟨hq, e⟩)
    refine ⟨z.1, z.2.1, ?_, z.2.2.2⟩
    have y := z.2.2.1
    unfold rdc at y
    by_cases t : f j = f i
    · rw [if_pos t, t] at y; rw [t]; omega
    · rw [if_neg t, ld_on (fun s => t s.symm)] at y; exact y
/-- those from i on -/
def fr (i : Nat) : Nat → Bool := fun j => decide (i ≤ j)
theorem fr_t {i j : Nat} : fr i j = true ↔ i ≤ j := by simp [fr]
theorem fr_ou {i j : Nat} : ouF (fr i) i j = fr (i + 1) j := by
  simp only [ouF, fr]
  by_cases h : i + 1 ≤ j
  · simp [h]; omega
  · by_cases e : j = i
    · simp [e]
    · simp [h]; omega
theorem roL_lo : ∀ k i r, i + k = M → ∀ f, feF N M v r nC 0 (fr i) f → roL N v k i r ≤ coF M v f (fr i)
  | 0, i, r, h, f, _ => Nat.zero_le _
  | k + 1, i, r, h, f, hf => by
    have hi : i < M := by omega
    have hp : fr i i = true := fr_t.mpr (Nat.le_refl _)
    have h1 := feF_c (fun j _ => fr_ou) (fun _ _ _ => rfl) (fe_ou hi hp hf)
    have h2 := roL_lo k (i + 1) _ (by omega) f h1
    have z := hf i hi hp
    have e0 := ld_ou (v := v) (f := f) hi hp
    have e1 : coF M v f (fr i) = coF M v f (fr (i + 1)) + v i (f i) := by
      rw [co_ou hi hp]; congr 1; exact coF_c (fun j _ => fr_ou) (fun _ _ _ => rfl)
    rw [roL_1]
    refine Nat.le_trans (mnF_ge (i := f i) N z.2.1) ?_
    rw [cnF, if_pos (by have := z.2.2.1; omega)]; omega
theorem roA_0 {k i : Nat} : roA N v (k + 1) i r i = agF (cnF N v k i r) N := if_pos rfl
theorem roA_n {k i j : Nat} (h : j ≠ i) : roA N v (k + 1) i r j = roA N v k (i + 1) (rdc r (agF (cnF N v k i r) N) (v i (agF (cnF N v k i r) N))) j := if_neg h
/-- the place chosen first -/
theorem roL_at {k i : Nat} (h : roL N v (k + 1) i r < 99999) : ∃ b, b = agF (cnF N v k i r) N ∧ b < N ∧ (v i b : Int) ≤ r b ∧ roL N v (k + 1) i r = v i b + roL N v k (i + 1) (rdc r b (v i b)) ∧ roL N v k (i + 1) (rdc r b (v i b)) < 99999 := by
  rw [roL_1] at h ⊢
  obtain ⟨h1, h2⟩ := agF_at N h
  refine ⟨_, rfl, h1, ?_⟩
  rw [cnF] at h2
  by_cases z : (v i (agF (cnF N v k i r) N) : Int) ≤ r (agF (cnF N v k i r) N)
  · rw [if_pos z] at h2; exact ⟨z, h2.symm, by omega⟩
  · rw [if_neg z] at h2; omega
theorem roA_fe : ∀ k i r, i + k = M → roL N v k i r < 99999 → feF N M v r nC 0 (fr i) (roA N v k i r) ∧ coF M v (roA N v k i r) (fr i) = roL N v k i r
  | 0, i, r, h, _ => by
    have e : ∀ j, j < M → ¬ fr i j = true := fun j hj z => by have := fr_t.mp z; omega
    refine ⟨fun j hj z => absurd z (e j hj), ?_⟩
    rw [coF, fb_sm_cong (g := fun _ => 0) (fun k hk => if_neg (e k hk)), fb_sm_const]; rfl
  | k + 1, i, r, h, hl => by
    have hi : i < M := by omega
    have hp : fr i i = true := fr_t.mpr (Nat.le_refl _)
    obtain ⟨b, hb, h1, h2, h3, h4⟩ := roL_at hl
    have ih := roA_fe k (i + 1) _ (by omega) h4
    have eb : roA N v (k + 1) i r i = b := by rw [roA_0, ← hb]
    have en : ∀ j, j < M → fr (i + 1) j = true → roA N v k (i + 1) (rdc r b (v i b)) j = roA N v (k + 1) i r j := fun j _ z => by
      have := fr_t.mp z
      rw [roA_n (by omega), ← hb]
    have f1 := feF_c (fun j _ => rfl) en ih.1
    have c1 := coF_c (v := v) (p := fr (i + 1)) (fun j _ => rfl) en
    constructor
    · refine fe_in hi hp (Nat.zero_le _) (by rw [eb]; exact h1) trivial (by rw [eb]; exact h2) ?_
      rw [eb]; exact feF_c (fun j _ => fr_ou.symm) (fun _ _ _ => rfl) f1
    · rw [co_ou hi hp, eb, coF_c (fun j _ => fr_ou) (fun _ _ _ => rfl), ← c1, ih.2, h3]; omega
theorem roL_mv {k i : Nat} {r : Nat → Int} (h : i + k = M) : mvF N M v r nC 0 (fr i) (roL N v k i r) :=
  ⟨by cases k with
    | zero => exact Nat.zero_le _
    | succ k => rw [roL_1]; exact mnF_le N, roL_lo k i r h, fun z => ⟨_, (roA_fe k i r h z).1, (roA_fe k i r h z).2⟩⟩
/-- the first way of all the least -/
theorem roA_lex : ∀ k i r, i + k = M → roL N v k i r < 99999 → ∀ f, feF N M v r nC 0 (fr i) f → coF M v f (fr i) = roL N v k i r → ∀ j, i ≤ j → j < M → (∀ u, i ≤ u → u < j → f u = roA N v k i r u) → roA N v k i r j ≤ f j
  | 0, i, r, h, _, f, _, _, j, h1, h2, _ => by omega
  | k + 1, i, r, h, hl, f, hf, hc, j, h1, h2, hu => by
    have hi : i < M := by omega
    have hp : fr i i = true := fr_t.mpr (Nat.le_refl _)
    have g1 := feF_c (fun j _ => fr_ou) (fun _ _ _ => rfl) (fe_ou hi hp hf)
    have g2 := roL_lo k (i + 1) _ (by omega) f g1
    have z := hf i hi hp
    have e0 := ld_ou (v := v) (f := f) hi hp
    have e1 : coF M v f (fr i) = coF M v f (fr (i + 1)) + v i (f i) := by
      rw [co_ou hi hp]; congr 1; exact coF_c (fun j _ => fr_ou) (fun _ _ _ => rfl)
    have e2 : cnF N v k i r (f i) = v i (f i) + roL N v k (i + 1) (rdc r (f i) (v i (f i))) := if_pos (by have := z.2.2.1; omega)
    have e3 := mnF_ge (f := cnF N v k i r) (i := f i) N z.2.1
    have e4 : roL N v (k + 1) i r = mnF (cnF N v k i r) N := roL_1
    by_cases e : j = i
    · subst e
      rw [roA_0]
      exact agF_le N (by omega) z.2.1 (by omega)
    · have fi : f i = roA N v (k + 1) i r i := hu i (Nat.le_refl _) (by omega)
      rw [roA_0] at fi
      rw [roA_n e, ← fi]
      refine roA_lex k (i + 1) _ (by omega) (by omega) f g1 (by omega) j (by omega) h2 (fun u u1 u2 => ?_)
      rw [hu u (by omega) u2, roA_n (by omega), ← fi]
/-- one that nobody could bear -/
theorem roL_no {k i : Nat} (h : i + k = M) {j : Nat} (h1 : i ≤ j) (h2 : j < M) (hn : ∀ b, b < N → ¬ (v j b : Int) ≤ r b) : roL N v k i r = 99999 := by
  have hm := roL_mv (N := N) (v := v) (r := r) h
  by_cases z : roL N v k i r < 99999
  · obtain ⟨f, f1, _⟩ := hm.2.2 z
    have y := f1 j h2 (fr_t.mpr h1)
    have e0 := ld_ou (v := v) (f := f) h2 (fr_t.mpr h1)
    exact absurd (by have := y.2.2.1; omega) (hn (f j) y.2.1)
  · have := hm.1; omega
/-- the least that each could be -/
def lsF (N : Nat) (v : Nat → Nat → Nat) (r0 : Nat → Int) (i : Nat) : Nat := mnF (fun b => if (v i b : Int) ≤ r0 b then v i b else 99999) N
def lfF (N : Nat) (v : Nat → Nat → Nat) (r0 : Nat → Int) : Nat → Nat → Nat
  | 0, _ => 0
  | k + 1, i => lfF N v r0 k (i + 1) + lsF N v r0 i
theorem lfF_le {r0 : Nat → Int} : ∀ k i r, (∀ b, r b ≤ r0 b) → roL N v k i r < 99999 → lfF N v r0 k i ≤ roL N v k i r
  | 0, _, _, _, _ => Nat.zero_le _
  | k + 1, i, r, h, hl => by
    obtain ⟨b, hb, h1, h2, h3, h4⟩ := roL_at hl
    have ih := lfF_le (r0 := r0) k (i + 1) _ (fun j => by
      have := h j
      unfold rdc; split <;> omega) h4
    have e : lsF N v r0 i ≤ v i b := by
      have := mnF_ge (f := fun b => if (v i b : Int) ≤ r0 b then v i b else 99999) (i := b) N h1
      rw [if_pos (by have := h b; omega)] at this; exact this
    rw [lfF, h3]; omega
theorem roL_b {B : Nat} (hv : ∀ i b, i < M → v i b ≤ B) : ∀ k i r, i + k = M → roL N v k i r < 99999 → roL N v k i r ≤ k * B
  | 0, _, _, _, _ => Nat.zero_le _
  | k + 1, i, r, hi, h => by
    obtain ⟨b, hb, h1, h2, h3, h4⟩ := roL_at h
    have ih := roL_b hv k (i + 1) _ (by omega) h4
    have := hv i b (by omega)
    rw [h3, Nat.succ_mul]; omega
end
