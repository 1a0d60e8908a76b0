section S
variable {t : Nat → Nat} {N nb nc : Nat} {β : Type} {S : sD} {D : cD} {cs : List Nat} {b c : Nat}
abbrev s3 := Nat × Nat × Nat
abbrev iT (β : Type) := Sum s3 (Nat × β)
abbrev eT (α : Type) := Sum (Nat × Nat) (Nat × α)
/-- steps, an again inside as many as L deep -/
def TB : Nat → Type
  | 0 => Empty
  | L + 1 => List (iT (TB L))
def num1 (t : Nat → Nat) (N k hi p : Nat) : eT (iT β) := match nR t N p 0 hi with
  | .inl e => .inl e
  | .inr (v, q) => .inr (q, .inl (k, v, 0))
def num2 (t : Nat → Nat) (N k h1 h2 p : Nat) : eT (iT β) := match nR t N p 0 h1 with
  | .inl e => .inl e
  | .inr (v, q) => match nR t N q 0 h2 with
    | .inl e => .inl e
    | .inr (u, z) => .inr (z, .inl (k, v, u))
def agR (t : Nat → Nat) (N : Nat) (sub : Nat → eT β) (p : Nat) : eT (iT β) := match nR t N p 0 41 with
  | .inl e => .inl e
  | .inr (v, q) => match sR t N q 91 with
    | .inl e => .inl e
    | .inr q2 => match sub q2 with
      | .inl e => .inl e
      | .inr (q3, x) => match sR t N q3 93 with
        | .inl e => .inl e
        | .inr z => .inr (z, .inr (v, x))
def stR (t : Nat → Nat) (N nb nc : Nat) (ok : Bool) (sub : Nat → eT β) (p : Nat) : eT (iT β) :=
  if wB t N p 13 = true then num2 t N 0 nb nc (sk t N (wE t N p))
  else if wB t N p 14 = true then num2 t N 1 nb nb (sk t N (wE t N p))
  else if wB t N p 15 = true then num1 t N 2 41 (sk t N (wE t N p))
  else if wB t N p 16 = true then num1 t N 3 nb (sk t N (wE t N p))
  else if wB t N p 10 = true then .inr (sk t N (wE t N p), .inl (4, 0, 0))
  else if wB t N p 17 = true then (if ok = true then agR t N sub (sk t N (wE t N p)) else .inl (3, p))
  else .inl (1, p)
def lsR (t : Nat → Nat) (N : Nat) (stp : Nat → eT (iT β)) (stop : Nat → Bool) : Nat → Nat → eT (List (iT β))
  | 0, p => .inr (p, [])
  | f + 1, p => if stop p = true then .inr (p, []) else match stp p with
    | .inl e => .inl e
    | .inr (q, it) => match sR t N q 59 with
      | .inl e => .inl e
      | .inr y => match lsR t N stp stop f y with
        | .inl e => .inl e
        | .inr (z, r) => .inr (z, it :: r)
def stopB (t : Nat → Nat) (N p : Nat) : Bool := decide (p < N) && t p == 93
def stopE (N p : Nat) : Bool := decide (N ≤ p)
def pT (t : Nat → Nat) (N nb nc : Nat) : (L : Nat) → Nat → eT (TB (L + 1))
  | 0 => lsR (β := TB 0) t N (stR t N nb nc false (fun _ => .inl (0, 0))) (stopB t N) 150
  | L + 1 => lsR (β := TB (L + 1)) t N (stR t N nb nc true (pT t N nb nc L)) (stopB t N) 150
def pTop (t : Nat → Nat) (N nb nc : Nat) : Nat → eT (TB 7) := lsR (β := TB 6) t N (stR t N nb nc true (pT t N nb nc 5)) (stopE N) 150
def cln (ln : β → Nat) : List (iT β) → Nat
  | [] => 0
  | .inl _ :: r => 1 + cln ln r
  | .inr (_, x) :: r => 2 + ln x + cln ln r
def mln (ln : β → Nat) : List (iT β) → Nat
  | [] => 0
  | .inl _ :: r => 1 + mln ln r
  | .inr (_, x) :: r => 1 + ln x + mln ln r
def clT : (L : Nat) → TB L → Nat
  | 0 => fun e => nomatch e
  | L + 1 => cln (clT L)
def mlT : (L : Nat) → TB L → Nat
  | 0 => fun e => nomatch e
  | L + 1 => mln (mlT L)
theorem cln_le {c1 m1 : β → Nat} (h : ∀ x, c1 x ≤ 2 * m1 x) : ∀ l, cln c1 l ≤ 2 * mln m1 l
  | [] => Nat.zero_le _
  | .inl _ :: r => by have := cln_le h r; simp only [cln, mln]; omega
  | .inr (_, x) :: r => by have := cln_le h r; have := h x; simp only [cln, mln]; omega
theorem clT_le : ∀ L x, clT L x ≤ 2 * mlT L x
  | 0, x => nomatch x
  | L + 1, x => cln_le (clT_le L) x
/-- what reading keeps: a step takes four bytes or more -/
def gT {α : Type} (N : Nat) (ln : α → Nat) (R : Nat → eT α) : Prop := ∀ p q x, p ≤ N → R p = .inr (q, x) → p + 4 * ln x ≤ q ∧ q ≤ N
def gI (N : Nat) (ln : β → Nat) (R : Nat → eT (iT β)) : Prop := ∀ p q x, p ≤ N → R p = .inr (q, x) → p + 4 * mln ln [x] ≤ q + 1 ∧ p < q ∧ q ≤ N
theorem wB_ln {p j : Nat} (h : wB t N p j = true) : wE t N p = p + sl j := by
  have h1 := (wB_m.mp h).1
  have h2 := wE_ge (t := t) (N := N) (a := p)
  omega
theorem num1_g {k hi p q : Nat} {x : iT β} (hp : p ≤ N) (h : num1 t N k hi p = .inr (q, x)) : (∃ v, v < hi ∧ x = .inl (k, v, 0)) ∧ p < q ∧ q ≤ N := by
  unfold num1 at h
  split at h
  · cases h
  · rename_i v z hz
    injection h with h; injection h with h1 h2; subst h1; subst h2
    exact ⟨⟨v, nR_hi hz, rfl⟩, nR_le hp hz⟩
theorem num2_g {k h1 h2 p q : Nat} {x : iT β} (hp : p ≤ N) (h : num2 t N k h1 h2 p = .inr (q, x)) : (∃ v u, v < h1 ∧ u < h2 ∧ x = .inl (k, v, u)) ∧ p < q ∧ q ≤ N := by
  unfold num2 at h
  split at h
  · cases h
  · rename_i v z hz
    split at h
    · cases h
    · rename_i u y hy
      injection h with h; injection h with e1 e2; subst e1; subst e2
      have g1 := nR_le hp hz
      have g2 := nR_le g1.2 hy
      exact ⟨⟨v, u, nR_hi hz, nR_hi hy, rfl⟩, by omega, g2.2⟩
theorem agR_g {sub : Nat → eT β} {p q : Nat} {x : iT β} (hp : p ≤ N) (h : agR t N sub p = .inr (q, x)) : ∃ v y q2 q3, v < 41 ∧ x = .inr (v, y) ∧ sub q2 = .inr (q3, y) ∧ p + 2 ≤ q2 ∧ q2 ≤ N ∧ q3 < q ∧ q ≤ N := by
  unfold agR at h
  split at h
  · cases h
  · rename_i v z hz
    have g1 := nR_le hp hz
    split at h
    · cases h
    · rename_i q2 h2
      have g2 := sR_gt h2
      split at h
      · cases h
      · rename_i q3 y h3
        split at h
        · cases h
        · rename_i z4 h4
          have g4 := sR_gt h4
          injection h with h; injection h with e1 e2; subst e1; subst e2
          exact ⟨v, y, q2, q3, nR_hi hz, rfl, h3, by omega, g2.2, g4.1, g4.2⟩
theorem mln_1 {ln : β → Nat} {s : s3} : mln ln [.inl s] = 1 := rfl
theorem mln_2 {ln : β → Nat} {v : Nat} {y : β} : mln ln [.inr (v, y)] = 1 + ln y := rfl
theorem sl_13 : sl 13 = 3 := by decide +kernel
theorem sl_14 : sl 14 = 4 := by decide +kernel
theorem sl_15 : sl 15 = 4 := by decide +kernel
theorem sl_16 : sl 16 = 4 := by decide +kernel
theorem sl_10 : sl 10 = 3 := by decide +kernel
theorem sl_17 : sl 17 = 5 := by decide +kernel
theorem stR_g {ln : β → Nat} {ok : Bool} {sub : Nat → eT β} (hs : ok = true → gT N ln sub) : gI N ln (stR t N nb nc ok sub) := by
  intro p q x hp h
  have hE := wE_le (t := t) hp
  have hK := sk_le (t := t) hE
  have hG := sk_ge (t := t) (N := N) (a := wE t N p)
  unfold stR at h
  split at h
  · rename_i hw
    have e := wB_ln hw
    rw [sl_13] at e
    obtain ⟨⟨v, u, _, _, e3⟩, g1, g2⟩ := num2_g hK h
    subst e3; rw [mln_1]; omega
  split at h
  · rename_i hw
    have e := wB_ln hw
    rw [sl_14] at e
    obtain ⟨⟨v, u, _, _, e3⟩, g1, g2⟩ := num2_g hK h
    subst e3; rw [mln_1]; omega
  split at h
  · rename_i hw
    have e := wB_ln hw
    rw [sl_15] at e
    obtain ⟨⟨v, _, e3⟩, g1, g2⟩ := num1_g hK h
    subst e3; rw [mln_1]; omega
  split at h
  · rename_i hw
    have e := wB_ln hw
    rw [sl_16] at e
    obtain ⟨⟨v, _, e3⟩, g1, g2⟩ := num1_g hK h
    subst e3; rw [mln_1]; omega
  split at h
  · rename_i hw
    have e := wB_ln hw
    rw [sl_10] at e
    injection h with h; injection h with e1 e2; subst e1; subst e2
    rw [mln_1]; omega
  split at h
  · rename_i hw
    have e := wB_ln hw
    rw [sl_17] at e
    split at h
    · rename_i hok
      obtain ⟨v, y, q2, q3, _, e3, g1, g2, g3, g4, g5⟩ := agR_g hK h
      have g6 := hs hok _ _ _ g3 g1
      subst e3; rw [mln_2]; omega
    · cases h
  · cases h
theorem lsR_g {ln : β → Nat} {stp : Nat → eT (iT β)} {stop : Nat → Bool} (hs : gI N ln stp) : ∀ f p q l, p ≤ N → lsR t N stp stop f p = .inr (q, l) → p + 4 * mln ln l ≤ q ∧ q ≤ N
  | 0, p, q, l, hp, h => by
    injection h with h; injection h with e1 e2; subst e1; subst e2; exact ⟨by simp [mln], hp⟩
  | f + 1, p, q, l, hp, h => by
    unfold lsR at h
    split at h
    · injection h with h; injection h with e1 e2; subst e1; subst e2; exact ⟨by simp [mln], hp⟩
    · split at h
      · cases h
      · rename_i q1 it h1
        have g1 := hs _ _ _ hp h1
        split at h
        · cases h
        · rename_i y h2
          have g2 := sR_gt h2
          split at h
          · cases h
          · rename_i z r h3
            have g3 := lsR_g hs f _ _ _ g2.2 h3
            injection h with h; injection h with e1 e2; subst e1; subst e2
            have e4 : mln ln (it :: r) = mln ln [it] + mln ln r := by
              cases it with
              | inl s => simp [mln]
              | inr s => obtain ⟨v, y⟩ := s; simp [mln]
            rw [e4]; omega
theorem pT_g : ∀ L, gT N (mlT (L + 1)) (pT t N nb nc L)
  | 0 => fun p q x hp h => lsR_g (ln := mlT 0) (stR_g (fun h => by cases h)) 150 p q x hp h
  | L + 1 => fun p q x hp h => lsR_g (ln := mlT (L + 1)) (stR_g (fun _ => pT_g L)) 150 p q x hp h
theorem pTop_g : gT N (mlT 7) (pTop t N nb nc) := fun p q x hp h => lsR_g (ln := mlT 6) (stR_g (fun _ => pT_g 5)) 150 p q x hp h
/-- the steps are such as can be begun -/
def okS3 (nb nc : Nat) (s : s3) : Prop := (s.1 = 0 ∧ s.2.1 < nb ∧ s.2.2 < nc) ∨ (s.1 = 1 ∧ s.2.1 < nb ∧ s.2.2 < nb) ∨ (s.1 = 2 ∧ s.2.1 ≤ 40) ∨ (s.1 = 3 ∧ s.2.1 < nb) ∨ s.1 = 4
def okJ (nb nc : Nat) (so : β → Prop) : iT β → Prop
  | .inl s => okS3 nb nc s
  | .inr (v, x) => v ≤ 40 ∧ so x
def okT (nb nc : Nat) : (L : Nat) → TB L → Prop
  | 0 => fun e => nomatch e
  | L + 1 => fun l => ∀ x ∈ (show List (iT (TB L)) from l), okJ nb nc (okT nb nc L) x
theorem stR_o {so : β → Prop} {ok : Bool} {sub : Nat → eT β} (hs : ok = true → ∀ p q x, p ≤ N → sub p = .inr (q, x) → so x) {p q : Nat} {x : iT β} (hp : p ≤ N) (h : stR t N nb nc ok sub p = .inr (q, x)) : okJ nb nc so x := by
  have hE := wE_le (t := t) hp
  have hK := sk_le (t := t) hE
  unfold stR at h
  split at h
  · obtain ⟨⟨v, u, g1, g2, e3⟩, _⟩ := num2_g hK h
    subst e3; exact Or.inl ⟨rfl, g1, g2⟩
  split at h
  · obtain ⟨⟨v, u, g1, g2, e3⟩, _⟩ := num2_g hK h
    subst e3; exact Or.inr (Or.inl ⟨rfl, g1, g2⟩)
  split at h
  · obtain ⟨⟨v, g1, e3⟩, _⟩ := num1_g hK h
    subst e3; exact Or.inr (Or.inr (Or.inl ⟨rfl, by show v ≤ 40; omega⟩))
  split at h
  · obtain ⟨⟨v, g1, e3⟩, _⟩ := num1_g hK h
    subst e3; exact Or.inr (Or.inr (Or.inr (Or.inl ⟨rfl, g1⟩)))
  split at h
  · injection h with h; injection h with e1 e2; subst e2
    exact Or.inr (Or.inr (Or.inr (Or.inr rfl)))
  split at h
  · split at h
    · rename_i hok
      obtain ⟨v, y, q2, q3, g0, e3, g1, g2, g3, g4, g5⟩ := agR_g hK h
      subst e3; exact ⟨by omega, hs hok _ _ _ g3 g1⟩
    · cases h
  · cases h
theorem lsR_o {so : β → Prop} {ln : β → Nat} {stp : Nat → eT (iT β)} {stop : Nat → Bool} (hg : gI N ln stp) (hs : ∀ p q x, p ≤ N → stp p = .inr (q, x) → okJ nb nc so x) : ∀ f p q l, p ≤ N → lsR t N stp stop f p = .inr (q, l) → ∀ x ∈ l, okJ nb nc so x
  | 0, p, q, l, hp, h => by
    injection h with h; injection h with e1 e2; subst e2; intro x hx; cases hx
  | f + 1, p, q, l, hp, h => by
    unfold lsR at h
    split at h
    · injection h with h; injection h with e1 e2; subst e2; intro x hx; cases hx
    · split at h
      · cases h
      · rename_i q1 it h1
        have g1 := hg _ _ _ hp h1
        split at h
        · cases h
        · rename_i y h2
          have g2 := sR_gt h2
          split at h
          · cases h
          · rename_i z r h3
            have g3 := lsR_o hg hs f _ _ _ g2.2 h3
            injection h with h; injection h with e1 e2; subst e2
            intro x hx
            cases hx with
            | head => exact hs _ _ _ hp h1
            | tail _ hx => exact g3 x hx
theorem pT_o : ∀ L p q x, p ≤ N → pT t N nb nc L p = .inr (q, x) → okT nb nc (L + 1) x
  | 0, p, q, x, hp, h => lsR_o (so := okT nb nc 0) (stR_g (ln := mlT 0) (fun h => by cases h)) (fun p q x hp h => stR_o (fun h => by cases h) hp h) 150 p q x hp h
  | L + 1, p, q, x, hp, h => lsR_o (so := okT nb nc (L + 1)) (stR_g (ln := mlT (L + 1)) (fun _ => pT_g L)) (fun p q x hp h => stR_o (fun _ => pT_o L) hp h) 150 p q x hp h
theorem pTop_o {p q : Nat} {x : TB 7} (hp : p ≤ N) (h : pTop t N nb nc p = .inr (q, x)) : okT nb nc 7 x :=
  lsR_o (so := okT nb nc 6) (stR_g (ln := mlT 6) (fun _ => pT_g 5)) (fun p q x hp h => stR_o (fun _ => pT_o 5) hp h) 150 p q x hp h
/-- a step done: the state then, or none -/
def stp (D : cD) (cs : List Nat) (S : sD) (s : s3) : Option sD :=
  if s.1 = 0 then (if sF S s.2.1 = true then none else some (sat D cs S s.2.1 s.2.2))
  else if s.1 = 1 then (if hnw S s.2.1 s.2.2 = true then some (tol S s.2.1 s.2.2 12) else none)
  else if s.1 = 2 then (if sH S = s.2.1 ∨ ck D < s.2.1 then none else some (zH S s.2.1))
  else if s.1 = 3 then (if sT S s.2.1 = 0 then none else some (rst S s.2.1))
  else (if 400 ≤ sY S then none else some (pss D S))
/-- the state, steps begun, done, refused -/
abbrev xD := sD × Nat × Nat × Nat
def one (D : cD) (cs : List Nat) (s : s3) (X : xD) : xD := match stp D cs X.1 s with
  | some S' => (S', X.2.1 + 1, X.2.2.1 + 1, X.2.2.2)
  | none => (X.1, X.2.1 + 1, X.2.2.1, X.2.2.2 + 1)
def rep (f : xD → xD) : Nat → xD → xD
  | 0, X => X
  | k + 1, X => rep f k (f X)
def exL (D : cD) (cs : List Nat) (sub : β → xD → xD) : List (iT β) → xD → xD
  | [], X => X
  | .inl s :: r, X => if 200 ≤ X.2.1 then X else exL D cs sub r (one D cs s X)
  | .inr (v, x) :: r, X => if 200 ≤ X.2.1 then X else exL D cs sub r (rep (sub x) v (X.1, X.2.1 + 1, X.2.2.1, X.2.2.2))
def exT (D : cD) (cs : List Nat) : (L : Nat) → TB L → xD → xD
  | 0 => fun e => nomatch e
  | L + 1 => exL D cs (exT D cs L)
theorem exL_end {sub : β → xD → xD} {l : List (iT β)} {X : xD} (h : 200 ≤ X.2.1) : exL D cs sub l X = X := by
  cases l with
  | nil => rfl
  | cons x r => cases x with
    | inl s => simp only [exL]; rw [if_pos h]
    | inr s => obtain ⟨v, y⟩ := s; simp only [exL]; rw [if_pos h]
theorem exT_end : ∀ {L : Nat} {l : TB L} {X : xD}, 200 ≤ X.2.1 → exT D cs L l X = X
  | 0, l, _, _ => nomatch l
  | _ + 1, _, _, h => exL_end h
theorem rep_end {f : xD → xD} (hf : ∀ X : xD, 200 ≤ X.2.1 → f X = X) : ∀ k X, 200 ≤ X.2.1 → rep f k X = X
  | 0, _, _ => rfl
  | k + 1, X, h => by rw [rep, hf X h]; exact rep_end hf k X h
theorem sOk_sat (hk : cOk D) (h : sOk D S) (hb : b < cb D) (hc : c < cc D) (hF : sF S b = false) : sOk D (sat D cs S b c) := by
  have hB := bur_le (D := D) (cs := cs) (S := S) (b := b) (c := c) (k := 0) hk hc
  have hT := (h.1 b).2.1 hF
  have hS9 := (hk.2.2.2.1 b hb).2.1
  have base : ∀ x, cc D ≤ x → sN (sat1 D cs S b c) x = 0 := fun x hx => by
    show uV (sN S) c _ x = 0
    rw [uV_n (by omega)]; exact h.2.2.1 x hx
  unfold sat
  split
  · rename_i e
    refine ⟨fun x => ?_, h.2.1, base, h.2.2.2⟩
    show fs (sT S) b _ x ≤ 270 ∧ (bfn (sF S) b true x = false → fs (sT S) b _ x ≤ 135) ∧ (cb D ≤ x → fs (sT S) b _ x = 0 ∧ bfn (sF S) b true x = false)
    by_cases e2 : x = b
    · subst e2; rw [fs_s, bfn_s]; exact ⟨by omega, fun z => (by cases z), fun z => absurd z (by omega)⟩
    · rw [fs_n e2, bfn_n e2]; exact h.1 x
  · rename_i e
    have hx : ∀ x, sT (sat1 D cs S b c) x ≤ 270 ∧ (sF S x = false → sT (sat1 D cs S b c) x ≤ 135) ∧ (cb D ≤ x → sT (sat1 D cs S b c) x = 0 ∧ sF S x = false) := fun x => by
      show fs (sT S) b _ x ≤ 270 ∧ (sF S x = false → fs (sT S) b _ x ≤ 135) ∧ (cb D ≤ x → fs (sT S) b _ x = 0 ∧ sF S x = false)
      by_cases e2 : x = b
      · subst e2; rw [fs_s]; exact ⟨by omega, fun z => by omega, fun z => absurd z (by omega)⟩
      · rw [fs_n e2]; exact h.1 x
    split
    · refine ⟨hx, fun x y k z => ?_, base, h.2.2.2⟩
      have z' : (if x = b ∧ y = c then some 0 else sK S x y) = some k := z
      split at z'
      · rename_i e3; injection z' with z'; subst z'; obtain ⟨e4, e5⟩ := e3; subst e4; subst e5; exact ⟨by omega, hb, hc⟩
      · exact h.2.1 x y k z'
    · exact ⟨hx, h.2.1, base, h.2.2.2⟩
theorem sOk_tol (h : sOk D S) {a : Nat} (hab : a ≠ b) (hb : b < cb D) : ∀ k, sOk D (tol S a b k) := fun k => by
  obtain ⟨e1, e2, e3, e4, e5, e6, e7⟩ := tol_o (S := S) (b := b) (a := a) k
  refine ⟨fun x => by rw [e1, e2]; exact h.1 x, fun x y v z => ?_, fun c z => by rw [e5]; exact h.2.2.1 c z, by rw [e7]; exact h.2.2.2⟩
  rw [tol_k hab] at z
  split at z
  · rename_i e8
    injection z with z
    obtain ⟨u, hu⟩ := nws_s e8.2.2
    have := h.2.1 a y u hu
    obtain ⟨e9, _⟩ := e8
    subst e9
    exact ⟨by rw [← z]; exact Nat.min_le_left _ _, hb, this.2.2⟩
  · exact h.2.1 x y v z
theorem sOk_rst (h : sOk D S) (b : Nat) : sOk D (rst S b) := by
  refine ⟨fun x => ?_, h.2.1, h.2.2.1, h.2.2.2⟩
  show fs (sT S) b (sT S b / 2) x ≤ 270 ∧ (bfn (sF S) b false x = false → fs (sT S) b (sT S b / 2) x ≤ 135) ∧ (cb D ≤ x → fs (sT S) b (sT S b / 2) x = 0 ∧ bfn (sF S) b false x = false)
  have h1 := h.1 x
  by_cases e2 : x = b
  · subst e2; rw [fs_s, bfn_s]; exact ⟨by omega, fun _ => by omega, fun z => ⟨by have := (h1.2.2 z).1; omega, rfl⟩⟩
  · rw [fs_n e2, bfn_n e2]; exact h1
theorem sOk_stp {S' : sD} {s : s3} (hk : cOk D) (h : sOk D S) (hs : okS3 (cb D) (cc D) s) (e : stp D cs S s = some S') : sOk D S' := by
  unfold stp at e
  obtain ⟨k, a, b⟩ := s
  split at e
  · rename_i e0
    have hs0 : a < cb D ∧ b < cc D := by rcases hs with q | q | q | q | q <;> simp only at q e0 <;> omega
    split at e
    · cases e
    · rename_i e1
      injection e with e; subst e
      exact sOk_sat hk h hs0.1 hs0.2 (ts_nt e1)
  · split at e
    · rename_i e0 e1
      have hs0 : a < cb D ∧ b < cb D := by rcases hs with q | q | q | q | q <;> simp only at q e0 e1 <;> omega
      split at e
      · rename_i e2
        injection e with e; subst e
        exact sOk_tol h (fun z => by rw [hnw_1 (Or.inl z)] at e2; cases e2) hs0.2 12
      · cases e
    · split at e
      · rename_i e0 e1 e2
        have hs0 : a ≤ 40 := by rcases hs with q | q | q | q | q <;> simp only at q e0 e1 e2 <;> omega
        split at e
        · cases e
        · injection e with e; subst e
          exact ⟨h.1, h.2.1, h.2.2.1, hs0⟩
      · split at e
        · split at e
          · cases e
          · injection e with e; subst e
            exact sOk_rst h a
        · split at e
          · cases e
          · injection e with e; subst e
            exact sOk_pss h
theorem sat_o {S : sD} {b c : Nat} : sY (sat D cs S b c) = sY S := by
  unfold sat; split
  · rfl
  · split <;> rfl
theorem stp_Y {S' : sD} {s : s3} (h : sY S ≤ 400) (e : stp D cs S s = some S') : sY S' ≤ 400 := by
  unfold stp at e
  repeat' split at e
  all_goals first
    | cases e; done
    | (injection e with e; subst e; first | (rw [sat_o]; exact h) | (rw [(tol_o 12).2.2.2.2.2.1]; exact h) | exact h | (show sY S + 1 ≤ 400; omega))
/-- what every state on the way keeps -/
def xOk (D : cD) (X : xD) : Prop := sOk D X.1 ∧ sY X.1 ≤ 400 ∧ X.2.1 ≤ 200 ∧ X.2.2.1 ≤ X.2.1 ∧ X.2.2.2 ≤ X.2.1
theorem one_ok {s : s3} {X : xD} (hk : cOk D) (h : xOk D X) (hX : ¬ 200 ≤ X.2.1) (hs : okS3 (cb D) (cc D) s) : xOk D (one D cs s X) := by
  obtain ⟨h1, h2, h3, h4, h5⟩ := h
  unfold one
  cases e : stp D cs X.1 s with
  | none => exact ⟨h1, h2, by show X.2.1 + 1 ≤ 200; omega, by show X.2.2.1 ≤ X.2.1 + 1; omega, by show X.2.2.2 + 1 ≤ X.2.1 + 1; omega⟩
  | some S' => exact ⟨sOk_stp hk h1 hs e, stp_Y h2 e, by show X.2.1 + 1 ≤ 200; omega, by show X.2.2.1 + 1 ≤ X.2.1 + 1; omega, by show X.2.2.2 ≤ X.2.1 + 1; omega⟩
theorem rep_ok {f : xD → xD} (hf : ∀ X, xOk D X → xOk D (f X)) : ∀ k X, xOk D X → xOk D (rep f k X)
  | 0, _, h => h
  | k + 1, X, h => rep_ok hf k _ (hf X h)
theorem exL_ok {so : β → Prop} {sub : β → xD → xD} (hk : cOk D) (hs : ∀ x, so x → ∀ X, xOk D X → xOk D (sub x X)) : ∀ l X, (∀ x ∈ l, okJ (cb D) (cc D) so x) → xOk D X → xOk D (exL D cs sub l X)
  | [], X, _, h => h
  | .inl s :: r, X, hl, h => by
    simp only [exL]
    split
    · exact h
    · rename_i e
      exact exL_ok hk hs r _ (fun x hx => hl x (List.mem_cons_of_mem _ hx)) (one_ok hk h e (hl (.inl s) List.mem_cons_self))
  | .inr (v, x) :: r, X, hl, h => by
    simp only [exL]
    split
    · exact h
    · rename_i e
      have h2 := hl (.inr (v, x)) List.mem_cons_self
      refine exL_ok hk hs r _ (fun x hx => hl x (List.mem_cons_of_mem _ hx)) (rep_ok (hs x h2.2) v _ ?_)
      exact ⟨h.1, h.2.1, by show X.2.1 + 1 ≤ 200; omega, by have := h.2.2.2.1; show X.2.2.1 ≤ X.2.1 + 1; omega, by have := h.2.2.2.2; show X.2.2.2 ≤ X.2.1 + 1; omega⟩
theorem exT_ok (hk : cOk D) : ∀ L l X, okT (cb D) (cc D) L l → xOk D X → xOk D (exT D cs L l X)
  | 0, l, _, _, _ => nomatch l
  | L + 1, l, X, hl, h => exL_ok hk (fun x hx X h => exT_ok hk L x X hx h) l X hl h
end S
