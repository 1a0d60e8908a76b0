section S
variable {t : Nat → Nat} {N : Nat}
abbrev lT := Sum (Nat × Nat) (Nat × List Nat)
/-- the thing that the word at p names -/
def thW (t : Nat → Nat) (N p : Nat) : Option Nat :=
  if wB t N p 3 = true then some 0 else if wB t N p 4 = true then some 1 else if wB t N p 5 = true then some 2 else if wB t N p 6 = true then some 3 else if wB t N p 7 = true then some 4 else if wB t N p 8 = true then some 5 else if wB t N p 9 = true then some 6 else if wB t N p 10 = true then some 7 else if wB t N p 0 = true then some 8 else none
def lUp (t : Nat → Nat) (N : Nat) (S : Nat → List Nat → lT) (p : Nat) (cs : List Nat) : lT := match S (sk t N (p + 1)) cs with
  | .inl e => .inl e
  | .inr (q, c2) => match sR t N q 41 with
    | .inl e => .inl e
    | .inr z => .inr (z, c2)
def lUt (t : Nat → Nat) (N : Nat) (S : Nat → List Nat → lT) (p : Nat) (cs : List Nat) : lT := match sR t N (sk t N (wE t N p)) 91 with
  | .inl e => .inl e
  | .inr q => match S q cs with
    | .inl e => .inl e
    | .inr (q2, c2) => match sR t N q2 44 with
      | .inl e => .inl e
      | .inr q3 => match S q3 c2 with
        | .inl e => .inl e
        | .inr (q4, c4) => match sR t N q4 93 with
          | .inl e => .inl e
          | .inr z => .inr (z, c4 ++ [if wB t N p 11 = true then 2000 else 2001])
def lUw (t : Nat → Nat) (N p : Nat) (cs : List Nat) : lT := match thW t N p with
  | none => .inl (1, p)
  | some i => .inr (sk t N (wE t N p), cs ++ [1000 + i])
def lUn (t : Nat → Nat) (N p : Nat) (cs : List Nat) : lT := match nR t N p 0 1000 with
  | .inl e => .inl e
  | .inr (v, q) => .inr (q, cs ++ [v])
/-- a unit; L: how many more may be open -/
def lU (t : Nat → Nat) (N : Nat) (S : Nat → List Nat → lT) (L p : Nat) (cs : List Nat) : lT :=
  if p < N ∧ dg (t p) = true then lUn t N p cs
  else if p < N ∧ t p = 40 then (if L = 0 then .inl (3, p) else lUp t N S p cs)
  else if wB t N p 11 = true ∨ wB t N p 12 = true then (if L = 0 then .inl (3, p) else lUt t N S p cs)
  else lUw t N p cs
def lR (t : Nat → Nat) (N : Nat) (U : Nat → List Nat → lT) (op : Nat → Bool) : Nat → Nat → List Nat → lT
  | 0, p, cs => .inr (p, cs)
  | f + 1, p, cs => if p < N ∧ op (t p) = true then (match U (sk t N (p + 1)) cs with
      | .inl e => .inl e
      | .inr (q, c2) => lR t N U op f q (c2 ++ [2000 + t p])) else .inr (p, cs)
def lF (t : Nat → Nat) (N : Nat) (U : Nat → List Nat → lT) (op : Nat → Bool) (p : Nat) (cs : List Nat) : lT := match U p cs with
  | .inl e => .inl e
  | .inr (q, c2) => lR t N U op 150 q c2
def opP (c : Nat) : Bool := c == 42 || c == 47 || c == 37
def opS (c : Nat) : Bool := c == 43 || c == 45
def lS (t : Nat → Nat) (N : Nat) : Nat → Nat → List Nat → lT
  | 0 => lF t N (lF t N (lU t N (fun _ _ => .inl (0, 0)) 0) opP) opS
  | L + 1 => lF t N (lF t N (lU t N (lS t N L) (L + 1)) opP) opS
/-- what a reading of codes keeps: it goes on, a code takes a byte or more -/
def gU (N : Nat) (U : Nat → List Nat → lT) : Prop := ∀ p cs q c2, p ≤ N → U p cs = .inr (q, c2) → p < q ∧ q ≤ N ∧ c2.length + p ≤ cs.length + q
theorem sR_gt {p c q : Nat} (h : sR t N p c = .inr q) : p < q ∧ q ≤ N := by
  unfold sR at h
  split at h
  · rename_i h1
    injection h with h; subst h
    exact ⟨by have := sk_ge (t := t) (N := N) (a := p + 1); omega, sk_le (by omega)⟩
  · cases h
theorem nR_le {p lo hi v q : Nat} (hp : p ≤ N) (h : nR t N p lo hi = .inr (v, q)) : p < q ∧ q ≤ N := by
  refine ⟨nR_ge h, ?_⟩
  unfold nR at h
  split at h
  · split at h
    · injection h with h; injection h with _ h; subst h; exact sk_le (dE_le hp)
    · cases h
  · cases h
theorem wB_gt {p j : Nat} (hj : j < 18) (h : wB t N p j = true) : p < wE t N p := by
  have h1 := (wB_m.mp h).1
  have h2 := sl_b j hj
  omega
theorem thW_gt {p i : Nat} (h : thW t N p = some i) : p < wE t N p ∧ i < 9 := by
  unfold thW at h
  repeat' split at h
  all_goals first
    | (rename_i hh; injection h with h; subst h; exact ⟨wB_gt (by decide) hh, by decide⟩)
    | (cases h; done)
theorem gU_U {S : Nat → List Nat → lT} {L : Nat} (hS : L ≠ 0 → gU N S) : gU N (lU t N S L) := by
  intro p cs q c2 hp h
  unfold lU at h
  split at h
  · unfold lUn at h
    split at h
    · cases h
    · rename_i v z hz
      injection h with h; injection h with h1 h2; subst h1; subst h2
      have := nR_le hp hz
      simp only [List.length_append, List.length_singleton]; omega
  · split at h
    · split at h
      · cases h
      · rename_i hc hL
        unfold lUp at h
        split at h
        · cases h
        · rename_i z c3 hz
          have hk := sk_le (t := t) (N := N) (a := p + 1) (by omega)
          have hk2 := sk_ge (t := t) (N := N) (a := p + 1)
          have := hS hL _ _ _ _ hk hz
          split at h
          · cases h
          · rename_i y hy
            injection h with h; injection h with h1 h2; subst h1; subst h2
            have := sR_gt hy
            omega
    · split at h
      · rename_i hw
        split at h
        · cases h
        · rename_i hL
          have hg : p < wE t N p := by rcases hw with hw | hw; exact wB_gt (by decide) hw; exact wB_gt (by decide) hw
          unfold lUt at h
          split at h
          · cases h
          · rename_i q1 h1
            have k1 := sR_gt h1
            have k0 := sk_ge (t := t) (N := N) (a := wE t N p)
            split at h
            · cases h
            · rename_i q2 c3 h2
              have k2 := hS hL _ _ _ _ k1.2 h2
              split at h
              · cases h
              · rename_i q3 h3
                have k3 := sR_gt h3
                split at h
                · cases h
                · rename_i q4 c4 h4
                  have k4 := hS hL _ _ _ _ k3.2 h4
                  split at h
                  · cases h
                  · rename_i z h5
                    have k5 := sR_gt h5
                    injection h with h; injection h with e1 e2; subst e1; subst e2
                    simp only [List.length_append, List.length_singleton]; omega
      · unfold lUw at h
        split at h
        · cases h
        · rename_i i hi
          have := thW_gt hi
          injection h with h; injection h with e1 e2; subst e1; subst e2
          have hk2 := sk_ge (t := t) (N := N) (a := wE t N p)
          have hk := sk_le (t := t) (wE_le (t := t) hp)
          simp only [List.length_append, List.length_singleton]; omega
theorem gU_R {U : Nat → List Nat → lT} {op : Nat → Bool} (hU : gU N U) : ∀ f p cs q c2, p ≤ N → lR t N U op f p cs = .inr (q, c2) → p ≤ q ∧ q ≤ N ∧ c2.length + p ≤ cs.length + q
  | 0, p, cs, q, c2, hp, h => by
    injection h with h; injection h with e1 e2; subst e1; subst e2; omega
  | f + 1, p, cs, q, c2, hp, h => by
    unfold lR at h
    split at h
    · rename_i hc
      have hk := sk_le (t := t) (N := N) (a := p + 1) (by omega)
      have hk2 := sk_ge (t := t) (N := N) (a := p + 1)
      split at h
      · cases h
      · rename_i z c3 hz
        have k1 := hU _ _ _ _ hk hz
        have k2 := gU_R hU f _ _ _ _ k1.2.1 h
        simp only [List.length_append, List.length_singleton] at k2
        omega
    · injection h with h; injection h with e1 e2; subst e1; subst e2; omega
theorem gU_F {U : Nat → List Nat → lT} {op : Nat → Bool} (hU : gU N U) : gU N (lF t N U op) := by
  intro p cs q c2 hp h
  unfold lF at h
  split at h
  · cases h
  · rename_i z c3 hz
    have k1 := hU _ _ _ _ hp hz
    have k2 := gU_R hU 150 _ _ _ _ k1.2.1 h
    omega
theorem gU_S : ∀ L, gU N (lS t N L)
  | 0 => gU_F (gU_F (gU_U (fun h => absurd rfl h)))
  | L + 1 => gU_F (gU_F (gU_U (fun _ => gU_S L)))
end S
