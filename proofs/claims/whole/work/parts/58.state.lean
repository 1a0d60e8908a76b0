section S
variable {g : aG} {d : Nat} {I : Nat → Nat → Int32} {J : Nat → Nat → Int64} {n w : Nat} {Q : aO → aS → Prop}
variable {σ : aS} {D : cD} {cs : List Nat}
/-- all that work changes: tired, fallen, how often, which councils, what is known by how many hearings, how often each was borne, day, held -/
abbrev sD := (Nat → Nat) × (Nat → Bool) × (Nat → Int32) × (Nat → Int32) × (Nat → Nat → Option Nat) × (Nat → Int32) × Nat × Nat
def sT (S : sD) : Nat → Nat := S.1
def sF (S : sD) : Nat → Bool := S.2.1
def sW (S : sD) : Nat → Int32 := S.2.2.1
def sB (S : sD) : Nat → Int32 := S.2.2.2.1
def sK (S : sD) : Nat → Nat → Option Nat := S.2.2.2.2.1
def sN (S : sD) : Nat → Int32 := S.2.2.2.2.2.1
def sY (S : sD) : Nat := S.2.2.2.2.2.2.1
def sH (S : sD) : Nat := S.2.2.2.2.2.2.2
def bfn (f : Nat → Bool) (i : Nat) (v : Bool) : Nat → Bool := fun x => if x = i then v else f x
def kfn (f : Nat → Nat → Option Nat) (b c h : Nat) : Nat → Nat → Option Nat := fun x y => if x = b ∧ y = c then some h else f x y
def zT (S : sD) (b v : Nat) : sD := (fs (sT S) b v, sF S, sW S, sB S, sK S, sN S, sY S, sH S)
def zF (S : sD) (b : Nat) (v : Bool) : sD := (sT S, bfn (sF S) b v, sW S, sB S, sK S, sN S, sY S, sH S)
def zW (S : sD) (b : Nat) (v : Int32) : sD := (sT S, sF S, uV (sW S) b v, sB S, sK S, sN S, sY S, sH S)
def zB (S : sD) (b : Nat) (v : Int32) : sD := (sT S, sF S, sW S, uV (sB S) b v, sK S, sN S, sY S, sH S)
def zK (S : sD) (b c h : Nat) : sD := (sT S, sF S, sW S, sB S, kfn (sK S) b c h, sN S, sY S, sH S)
def zN (S : sD) (c : Nat) (v : Int32) : sD := (sT S, sF S, sW S, sB S, sK S, uV (sN S) c v, sY S, sH S)
def zY (S : sD) (v : Nat) : sD := (sT S, sF S, sW S, sB S, sK S, sN S, v, sH S)
def zH (S : sD) (v : Nat) : sD := (sT S, sF S, sW S, sB S, sK S, sN S, sY S, v)
/-- the class's State at o; the model's row r -/
def Sc (I : Nat → Nat → Int32) (o : Nat) (S : sD) : Prop := (∀ b, b < 7 → I (o + 1) b = nI (sT S b) ∧ I (o + 2) b = sW S b ∧ I (o + 3) b = sB S b ∧ I (o + 4) b = nI (bs (fun c => (sK S b c).isSome) 12)) ∧ (∀ b c h, b < 7 → c < 12 → sK S b c = some h → I (o + 5) (12 * b + c) = nI h) ∧ (∀ c, c < 12 → I (o + 6) c = sN S c) ∧ I o 6 = nI (bs (sF S) 7) ∧ I o 7 = nI (sY S) ∧ I o 8 = nI (sH S)
def Sm (r : Nat → Int32) (S : sD) : Prop := (∀ b, b < 7 → r (84 + b) = nI (sT S b) ∧ r (91 + b) = (if sF S b = true then 1 else 0) ∧ r (98 + b) = sW S b ∧ r (105 + b) = sB S b) ∧ (∀ b c, b < 7 → c < 12 → r (12 * b + c) = ob (sK S b c)) ∧ (∀ c, c < 12 → r (112 + c) = sN S c) ∧ r 124 = nI (sH S) ∧ r 125 = nI (sY S)
def sOk (D : cD) (S : sD) : Prop := (∀ b, sT S b ≤ 270 ∧ (sF S b = false → sT S b ≤ 135) ∧ (cb D ≤ b → sT S b = 0 ∧ sF S b = false)) ∧ (∀ b c h, sK S b c = some h → h ≤ 9 ∧ b < cb D ∧ c < cc D) ∧ (∀ c, cc D ≤ c → sN S c = 0) ∧ sH S ≤ 40
theorem Sc_fr {I' : Nat → Nat → Int32} {o : Nat} {S : sD} (h : Sc I o S) (hf : ∀ x j, o ≤ x → x ≤ o + 6 → I' x j = I x j) : Sc I' o S := by
  obtain ⟨h1, h2, h3, h4, h5, h6⟩ := h
  refine ⟨fun b hb => ?_, fun b c k hb hc e => ?_, fun c hc => ?_, ?_, ?_, ?_⟩
  · rw [hf _ _ (by omega) (by omega), hf _ _ (by omega) (by omega), hf _ _ (by omega) (by omega), hf _ _ (by omega) (by omega)]; exact h1 b hb
  · rw [hf _ _ (by omega) (by omega)]; exact h2 b c k hb hc e
  · rw [hf _ _ (by omega) (by omega)]; exact h3 c hc
  · rw [hf _ _ (by omega) (by omega)]; exact h4
  · rw [hf _ _ (by omega) (by omega)]; exact h5
  · rw [hf _ _ (by omega) (by omega)]; exact h6
theorem Sm_fr {r r' : Nat → Int32} {S : sD} (h : Sm r S) (hf : ∀ j, j < 126 → r' j = r j) : Sm r' S := by
  obtain ⟨h1, h2, h3, h4, h5⟩ := h
  refine ⟨fun b hb => ?_, fun b c hb hc => ?_, fun c hc => ?_, ?_, ?_⟩
  · rw [hf _ (by omega), hf _ (by omega), hf _ (by omega), hf _ (by omega)]; exact h1 b hb
  · rw [hf _ (by omega)]; exact h2 b c hb hc
  · rw [hf _ (by omega)]; exact h3 c hc
  · rw [hf _ (by omega)]; exact h4
  · rw [hf _ (by omega)]; exact h5
theorem fs_s {f : Nat → Nat} {i v : Nat} : fs f i v i = v := if_pos rfl
theorem fs_n {f : Nat → Nat} {i v x : Nat} (h : x ≠ i) : fs f i v x = f x := if_neg h
theorem uV_s {f : Nat → Int32} {i : Nat} {v : Int32} : uV f i v i = v := if_pos rfl
theorem uV_n {f : Nat → Int32} {i x : Nat} {v : Int32} (h : x ≠ i) : uV f i v x = f x := if_neg h
theorem bfn_s {f : Nat → Bool} {i : Nat} {v : Bool} : bfn f i v i = v := if_pos rfl
theorem bfn_n {f : Nat → Bool} {i x : Nat} {v : Bool} (h : x ≠ i) : bfn f i v x = f x := if_neg h
theorem Sc_T {o : Nat} {S : sD} {b v : Nat} (h : Sc I o S) : Sc (up I (o + 1) b (nI v)) o (zT S b v) := by
  refine ⟨fun x hx => ?_, fun x y k hx hy e => ?_, fun y hy => ?_, ?_, ?_, ?_⟩
  · have h1 := h.1 x hx
    refine ⟨?_, ?_, ?_, ?_⟩
    · by_cases e : x = b
      · subst e; rw [up_s]; exact congrArg nI fs_s.symm
      · rw [up_k e]; exact ((h.1 x hx).1).trans (congrArg nI (fs_n e).symm)
    · rw [up_a (by omega)]; exact (h.1 x hx).2.1
    · rw [up_a (by omega)]; exact (h.1 x hx).2.2.1
    · rw [up_a (by omega)]; exact (h.1 x hx).2.2.2
  · rw [up_a (by omega)]; exact h.2.1 x y k hx hy e
  · rw [up_a (by omega)]; exact h.2.2.1 y hy
  · rw [up_a (by omega)]; exact h.2.2.2.1
  · rw [up_a (by omega)]; exact h.2.2.2.2.1
  · rw [up_a (by omega)]; exact h.2.2.2.2.2
theorem Sc_W {o : Nat} {S : sD} {b : Nat} {v : Int32} (h : Sc I o S) : Sc (up I (o + 2) b v) o (zW S b v) := by
  refine ⟨fun x hx => ?_, fun x y k hx hy e => ?_, fun y hy => ?_, ?_, ?_, ?_⟩
  · have h1 := h.1 x hx
    refine ⟨?_, ?_, ?_, ?_⟩
    · rw [up_a (by omega)]; exact (h.1 x hx).1
    · by_cases e : x = b
      · subst e; rw [up_s]; exact congrArg id uV_s.symm
      · rw [up_k e]; exact ((h.1 x hx).2.1).trans (congrArg id (uV_n e).symm)
    · rw [up_a (by omega)]; exact (h.1 x hx).2.2.1
    · rw [up_a (by omega)]; exact (h.1 x hx).2.2.2
  · rw [up_a (by omega)]; exact h.2.1 x y k hx hy e
  · rw [up_a (by omega)]; exact h.2.2.1 y hy
  · rw [up_a (by omega)]; exact h.2.2.2.1
  · rw [up_a (by omega)]; exact h.2.2.2.2.1
  · rw [up_a (by omega)]; exact h.2.2.2.2.2
theorem Sc_B {o : Nat} {S : sD} {b : Nat} {v : Int32} (h : Sc I o S) : Sc (up I (o + 3) b v) o (zB S b v) := by
  refine ⟨fun x hx => ?_, fun x y k hx hy e => ?_, fun y hy => ?_, ?_, ?_, ?_⟩
  · have h1 := h.1 x hx
    refine ⟨?_, ?_, ?_, ?_⟩
    · rw [up_a (by omega)]; exact (h.1 x hx).1
    · rw [up_a (by omega)]; exact (h.1 x hx).2.1
    · by_cases e : x = b
      · subst e; rw [up_s]; exact congrArg id uV_s.symm
      · rw [up_k e]; exact ((h.1 x hx).2.2.1).trans (congrArg id (uV_n e).symm)
    · rw [up_a (by omega)]; exact (h.1 x hx).2.2.2
  · rw [up_a (by omega)]; exact h.2.1 x y k hx hy e
  · rw [up_a (by omega)]; exact h.2.2.1 y hy
  · rw [up_a (by omega)]; exact h.2.2.2.1
  · rw [up_a (by omega)]; exact h.2.2.2.2.1
  · rw [up_a (by omega)]; exact h.2.2.2.2.2
theorem Sc_K {o : Nat} {S : sD} {b c k0 : Nat} (hb : b < 7) (hc : c < 12) (h : Sc I o S) : Sc (up (up I (o + 4) b (I (o + 4) b ||| (1 : Int32) <<< (nI c &&& 31))) (o + 5) (12 * b + c) (nI k0)) o (zK S b c k0) := by
  refine ⟨fun x hx => ?_, fun x y k hx hy e => ?_, fun y hy => ?_, ?_, ?_, ?_⟩
  · have h1 := h.1 x hx
    refine ⟨?_, ?_, ?_, ?_⟩
    · rw [up_a (by omega), up_a (by omega)]; exact (h.1 x hx).1
    · rw [up_a (by omega), up_a (by omega)]; exact (h.1 x hx).2.1
    · rw [up_a (by omega), up_a (by omega)]; exact (h.1 x hx).2.2.1
    · rw [up_a (by omega)]
      by_cases e : x = b
      · subst e; rw [up_s, h1.2.2.2, sh_bs hc (by decide), bs_or (by decide)]
        refine congrArg nI (bs_eq (fun i hi => ?_))
        show _ = (if x = x ∧ i = c then some k0 else sK S x i).isSome
        by_cases e2 : i = c
        · subst e2; simp
        · rw [if_neg (fun z => e2 z.2)]; simp [e2]
      · rw [up_k e, h1.2.2.2]
        refine congrArg nI (bs_eq (fun i hi => ?_))
        show _ = (if x = b ∧ i = c then some k0 else sK S x i).isSome
        rw [if_neg (fun z => e z.1)]
  · have e' : (if x = b ∧ y = c then some k0 else sK S x y) = some k := e
    by_cases q : x = b ∧ y = c
    · rw [if_pos q] at e'; injection e' with e'; obtain ⟨q1, q2⟩ := q; subst q1; subst q2; subst e'; rw [up_s]
    · rw [if_neg q] at e'; rw [up_k (by omega), up_a (by omega)]; exact h.2.1 x y k hx hy e'
  · rw [up_a (by omega), up_a (by omega)]; exact h.2.2.1 y hy
  · rw [up_a (by omega), up_a (by omega)]; exact h.2.2.2.1
  · rw [up_a (by omega), up_a (by omega)]; exact h.2.2.2.2.1
  · rw [up_a (by omega), up_a (by omega)]; exact h.2.2.2.2.2
theorem Sc_N {o : Nat} {S : sD} {c : Nat} {v : Int32} (h : Sc I o S) : Sc (up I (o + 6) c v) o (zN S c v) := by
  refine ⟨fun x hx => ?_, fun x y k hx hy e => ?_, fun y hy => ?_, ?_, ?_, ?_⟩
  · have h1 := h.1 x hx
    refine ⟨?_, ?_, ?_, ?_⟩
    · rw [up_a (by omega)]; exact (h.1 x hx).1
    · rw [up_a (by omega)]; exact (h.1 x hx).2.1
    · rw [up_a (by omega)]; exact (h.1 x hx).2.2.1
    · rw [up_a (by omega)]; exact (h.1 x hx).2.2.2
  · rw [up_a (by omega)]; exact h.2.1 x y k hx hy e
  · by_cases e : y = c
    · subst e; rw [up_s]; exact uV_s.symm
    · rw [up_k e]; exact (h.2.2.1 y hy).trans (uV_n e).symm
  · rw [up_a (by omega)]; exact h.2.2.2.1
  · rw [up_a (by omega)]; exact h.2.2.2.2.1
  · rw [up_a (by omega)]; exact h.2.2.2.2.2
theorem Sc_F {o : Nat} {S : sD} {b : Nat} {v : Bool} (h : Sc I o S) : Sc (up I o 6 (nI (bs (bfn (sF S) b v) 7))) o (zF S b v) := by
  refine ⟨fun x hx => ?_, fun x y k hx hy e => ?_, fun y hy => ?_, ?_, ?_, ?_⟩
  · have h1 := h.1 x hx
    refine ⟨?_, ?_, ?_, ?_⟩
    · rw [up_a (by omega)]; exact (h.1 x hx).1
    · rw [up_a (by omega)]; exact (h.1 x hx).2.1
    · rw [up_a (by omega)]; exact (h.1 x hx).2.2.1
    · rw [up_a (by omega)]; exact (h.1 x hx).2.2.2
  · rw [up_a (by omega)]; exact h.2.1 x y k hx hy e
  · rw [up_a (by omega)]; exact h.2.2.1 y hy
  · exact up_s
  · rw [up_k (by decide)]; exact h.2.2.2.2.1
  · rw [up_k (by decide)]; exact h.2.2.2.2.2
theorem Sc_Y {o : Nat} {S : sD} {v : Nat} (h : Sc I o S) : Sc (up I o 7 (nI v)) o (zY S v) := by
  refine ⟨fun x hx => ?_, fun x y k hx hy e => ?_, fun y hy => ?_, ?_, ?_, ?_⟩
  · have h1 := h.1 x hx
    refine ⟨?_, ?_, ?_, ?_⟩
    · rw [up_a (by omega)]; exact (h.1 x hx).1
    · rw [up_a (by omega)]; exact (h.1 x hx).2.1
    · rw [up_a (by omega)]; exact (h.1 x hx).2.2.1
    · rw [up_a (by omega)]; exact (h.1 x hx).2.2.2
  · rw [up_a (by omega)]; exact h.2.1 x y k hx hy e
  · rw [up_a (by omega)]; exact h.2.2.1 y hy
  · rw [up_k (by decide)]; exact h.2.2.2.1
  · exact up_s
  · rw [up_k (by decide)]; exact h.2.2.2.2.2
theorem Sc_H {o : Nat} {S : sD} {v : Nat} (h : Sc I o S) : Sc (up I o 8 (nI v)) o (zH S v) := by
  refine ⟨fun x hx => ?_, fun x y k hx hy e => ?_, fun y hy => ?_, ?_, ?_, ?_⟩
  · have h1 := h.1 x hx
    refine ⟨?_, ?_, ?_, ?_⟩
    · rw [up_a (by omega)]; exact (h.1 x hx).1
    · rw [up_a (by omega)]; exact (h.1 x hx).2.1
    · rw [up_a (by omega)]; exact (h.1 x hx).2.2.1
    · rw [up_a (by omega)]; exact (h.1 x hx).2.2.2
  · rw [up_a (by omega)]; exact h.2.1 x y k hx hy e
  · rw [up_a (by omega)]; exact h.2.2.1 y hy
  · rw [up_k (by decide)]; exact h.2.2.2.1
  · rw [up_k (by decide)]; exact h.2.2.2.2.1
  · exact up_s
theorem Sm_T {S : sD} {b v : Nat} (hb : b < 7) (h : Sm (I 550) S) : Sm (up I 550 (84 + b) (nI v) 550) (zT S b v) := by
  refine ⟨fun x hx => ⟨?_, ?_, ?_, ?_⟩, fun x y hx hy => ?_, fun y hy => ?_, ?_, ?_⟩
  · by_cases e : x = b
    · subst e; rw [up_s]; exact congrArg nI fs_s.symm
    · rw [up_k (by omega)]; exact ((h.1 x hx).1).trans (congrArg nI (fs_n e).symm)
  · rw [up_k (by omega)]; exact (h.1 x hx).2.1
  · rw [up_k (by omega)]; exact (h.1 x hx).2.2.1
  · rw [up_k (by omega)]; exact (h.1 x hx).2.2.2
  · rw [up_k (by omega)]; exact h.2.1 x y hx hy
  · rw [up_k (by omega)]; exact h.2.2.1 y hy
  · rw [up_k (by omega)]; exact h.2.2.2.1
  · rw [up_k (by omega)]; exact h.2.2.2.2
theorem Sm_F {S : sD} {b : Nat} {v : Bool} (hb : b < 7) (h : Sm (I 550) S) : Sm (up I 550 (91 + b) (if v = true then 1 else 0) 550) (zF S b v) := by
  refine ⟨fun x hx => ⟨?_, ?_, ?_, ?_⟩, fun x y hx hy => ?_, fun y hy => ?_, ?_, ?_⟩
  · rw [up_k (by omega)]; exact (h.1 x hx).1
  · by_cases e : x = b
    · subst e; rw [up_s]; exact (by show _ = if bfn (sF S) x v x = true then (1 : Int32) else 0; rw [bfn_s])
    · rw [up_k (by omega)]; exact ((h.1 x hx).2.1).trans (by show _ = if bfn (sF S) b v x = true then (1 : Int32) else 0; rw [bfn_n e])
  · rw [up_k (by omega)]; exact (h.1 x hx).2.2.1
  · rw [up_k (by omega)]; exact (h.1 x hx).2.2.2
  · rw [up_k (by omega)]; exact h.2.1 x y hx hy
  · rw [up_k (by omega)]; exact h.2.2.1 y hy
  · rw [up_k (by omega)]; exact h.2.2.2.1
  · rw [up_k (by omega)]; exact h.2.2.2.2
theorem Sm_W {S : sD} {b : Nat} {v : Int32} (hb : b < 7) (h : Sm (I 550) S) : Sm (up I 550 (98 + b) v 550) (zW S b v) := by
  refine ⟨fun x hx => ⟨?_, ?_, ?_, ?_⟩, fun x y hx hy => ?_, fun y hy => ?_, ?_, ?_⟩
  · rw [up_k (by omega)]; exact (h.1 x hx).1
  · rw [up_k (by omega)]; exact (h.1 x hx).2.1
  · by_cases e : x = b
    · subst e; rw [up_s]; exact uV_s.symm
    · rw [up_k (by omega)]; exact ((h.1 x hx).2.2.1).trans (uV_n e).symm
  · rw [up_k (by omega)]; exact (h.1 x hx).2.2.2
  · rw [up_k (by omega)]; exact h.2.1 x y hx hy
  · rw [up_k (by omega)]; exact h.2.2.1 y hy
  · rw [up_k (by omega)]; exact h.2.2.2.1
  · rw [up_k (by omega)]; exact h.2.2.2.2
theorem Sm_B {S : sD} {b : Nat} {v : Int32} (hb : b < 7) (h : Sm (I 550) S) : Sm (up I 550 (105 + b) v 550) (zB S b v) := by
  refine ⟨fun x hx => ⟨?_, ?_, ?_, ?_⟩, fun x y hx hy => ?_, fun y hy => ?_, ?_, ?_⟩
  · rw [up_k (by omega)]; exact (h.1 x hx).1
  · rw [up_k (by omega)]; exact (h.1 x hx).2.1
  · rw [up_k (by omega)]; exact (h.1 x hx).2.2.1
  · by_cases e : x = b
    · subst e; rw [up_s]; exact uV_s.symm
    · rw [up_k (by omega)]; exact ((h.1 x hx).2.2.2).trans (uV_n e).symm
  · rw [up_k (by omega)]; exact h.2.1 x y hx hy
  · rw [up_k (by omega)]; exact h.2.2.1 y hy
  · rw [up_k (by omega)]; exact h.2.2.2.1
  · rw [up_k (by omega)]; exact h.2.2.2.2
theorem Sm_K {S : sD} {b c k0 : Nat} (hb : b < 7) (hc : c < 12) (h : Sm (I 550) S) : Sm (up I 550 (12 * b + c) (nI k0) 550) (zK S b c k0) := by
  refine ⟨fun x hx => ⟨?_, ?_, ?_, ?_⟩, fun x y hx hy => ?_, fun y hy => ?_, ?_, ?_⟩
  · rw [up_k (by omega)]; exact (h.1 x hx).1
  · rw [up_k (by omega)]; exact (h.1 x hx).2.1
  · rw [up_k (by omega)]; exact (h.1 x hx).2.2.1
  · rw [up_k (by omega)]; exact (h.1 x hx).2.2.2
  · by_cases e : x = b ∧ y = c
    · obtain ⟨e1, e2⟩ := e; subst e1; subst e2; rw [up_s]; show _ = ob (if x = x ∧ y = y then some k0 else _); rw [if_pos ⟨rfl, rfl⟩]; rfl
    · rw [up_k (by omega)]; refine (h.2.1 x y hx hy).trans ?_; show _ = ob (if x = b ∧ y = c then some k0 else _); rw [if_neg e]
  · rw [up_k (by omega)]; exact h.2.2.1 y hy
  · rw [up_k (by omega)]; exact h.2.2.2.1
  · rw [up_k (by omega)]; exact h.2.2.2.2
theorem Sm_N {S : sD} {c : Nat} {v : Int32} (hc : c < 12) (h : Sm (I 550) S) : Sm (up I 550 (112 + c) v 550) (zN S c v) := by
  refine ⟨fun x hx => ⟨?_, ?_, ?_, ?_⟩, fun x y hx hy => ?_, fun y hy => ?_, ?_, ?_⟩
  · rw [up_k (by omega)]; exact (h.1 x hx).1
  · rw [up_k (by omega)]; exact (h.1 x hx).2.1
  · rw [up_k (by omega)]; exact (h.1 x hx).2.2.1
  · rw [up_k (by omega)]; exact (h.1 x hx).2.2.2
  · rw [up_k (by omega)]; exact h.2.1 x y hx hy
  · by_cases e : y = c
    · subst e; rw [up_s]; exact uV_s.symm
    · rw [up_k (by omega)]; exact (h.2.2.1 y hy).trans (uV_n e).symm
  · rw [up_k (by omega)]; exact h.2.2.2.1
  · rw [up_k (by omega)]; exact h.2.2.2.2
theorem Sm_H {S : sD} {v : Nat} (h : Sm (I 550) S) : Sm (up I 550 (124) (nI v) 550) (zH S v) := by
  refine ⟨fun x hx => ⟨?_, ?_, ?_, ?_⟩, fun x y hx hy => ?_, fun y hy => ?_, ?_, ?_⟩
  · rw [up_k (by omega)]; exact (h.1 x hx).1
  · rw [up_k (by omega)]; exact (h.1 x hx).2.1
  · rw [up_k (by omega)]; exact (h.1 x hx).2.2.1
  · rw [up_k (by omega)]; exact (h.1 x hx).2.2.2
  · rw [up_k (by omega)]; exact h.2.1 x y hx hy
  · rw [up_k (by omega)]; exact h.2.2.1 y hy
  · exact up_s
  · rw [up_k (by omega)]; exact h.2.2.2.2
theorem Sm_Y {S : sD} {v : Nat} (h : Sm (I 550) S) : Sm (up I 550 (125) (nI v) 550) (zY S v) := by
  refine ⟨fun x hx => ⟨?_, ?_, ?_, ?_⟩, fun x y hx hy => ?_, fun y hy => ?_, ?_, ?_⟩
  · rw [up_k (by omega)]; exact (h.1 x hx).1
  · rw [up_k (by omega)]; exact (h.1 x hx).2.1
  · rw [up_k (by omega)]; exact (h.1 x hx).2.2.1
  · rw [up_k (by omega)]; exact (h.1 x hx).2.2.2
  · rw [up_k (by omega)]; exact h.2.1 x y hx hy
  · rw [up_k (by omega)]; exact h.2.2.1 y hy
  · rw [up_k (by omega)]; exact h.2.2.2.1
  · exact up_s
theorem rdI {x j : Nat} {v : Int32} (h : I x j = v) (hj : j < 2 ^ 31) : I x (nI j).toNatClampNeg = v := by rw [nI_clamp hj]; exact h
/-- who knows how much; how heavy; the burden -/
def kn (S : sD) (b : Nat) : Nat := bc (fun c => (sK S b c).isSome) 12
def tin (D : cD) (S : sD) (b k : Nat) : Nat := sT S b - k * (5 + cC D b)
def fv (a0 a1 a2 a3 a4 a5 a6 a7 a8 : Int32) (j : Nat) : Int32 := if j = 0 then a0 else if j = 1 then a1 else if j = 2 then a2 else if j = 3 then a3 else if j = 4 then a4 else if j = 5 then a5 else if j = 6 then a6 else if j = 7 then a7 else a8
def fct (D : cD) (S : sD) (b c k : Nat) : Nat → Int32 := fv (nI (ck D)) (nI (sH S)) (nI (cL D c)) (nI (cH D c)) (nI (cC D b)) (nI (tin D S b k)) (nI (kn S b)) (nI (sY S + k)) (nI b)
def lod (D : cD) (cs : List Nat) (S : sD) (b c k : Nat) : Nat := ldv (fct D S b c k) cs
def bur (D : cD) (cs : List Nat) (S : sD) (b c k : Nat) : Nat := lod D cs S b c k * cH D c / 4
theorem lod_le {D : cD} {cs : List Nat} {S : sD} {b c k : Nat} : lod D cs S b c k ≤ 60 := (ldv_1 _ _).2
theorem bur_le {D : cD} {cs : List Nat} {S : sD} {b c k : Nat} (hk : cOk D) (hc : c < cc D) : bur D cs S b c k ≤ 135 := by
  have h1 := lod_le (D := D) (cs := cs) (S := S) (b := b) (c := c) (k := k)
  have h2 := (hk.2.2.2.2 c hc).2.1
  have h3 := Nat.mul_le_mul h1 h2
  unfold bur; omega
def brs (D : cD) (cs : List Nat) (S : sD) (b c k : Nat) : Bool := !sF S b && decide (tin D S b k + bur D cs S b c k ≤ cS D b)
def sat1 (D : cD) (cs : List Nat) (S : sD) (b c : Nat) : sD := zN (zB (zW (zT S b (sT S b + bur D cs S b c 0)) b (sW S b + 1)) b (sB S b ||| (1 : Int32) <<< (nI c &&& 31))) c (sN S c + 1)
def sat (D : cD) (cs : List Nat) (S : sD) (b c : Nat) : sD := if cS D b < sT S b + bur D cs S b c 0 then zF (sat1 D cs S b c) b true else if 10 ≤ cL D c + cC D b then zK (sat1 D cs S b c) b c 0 else sat1 D cs S b c
def nws (S : sD) (a b c : Nat) : Bool := (sK S a c).isSome && !(sK S b c).isSome
def hnw (S : sD) (a b : Nat) : Bool := decide (a ≠ b) && !sF S a && !sF S b && (List.range 12).any (nws S a b)
/-- told on: the first k councils -/
def tol (S : sD) (a b : Nat) : Nat → sD
  | 0 => S
  | k + 1 => if nws S a b k = true then zK (tol S a b k) b k (min 9 ((sK S a k).getD 0 + 1)) else tol S a b k
def rst (S : sD) (b : Nat) : sD := zF (zT S b (sT S b / 2)) b false
/-- a day passes for the first k backs -/
def psT (D : cD) (S : sD) : Nat → sD
  | 0 => S
  | k + 1 => zT (psT D S k) k (tin D S k 1)
def pss (D : cD) (S : sD) : sD := zY (psT D S (cb D)) (sY S + 1)
theorem fct_j (D : cD) (S : sD) (b c k : Nat) : fct D S b c k 0 = nI (ck D) ∧ fct D S b c k 1 = nI (sH S) ∧ fct D S b c k 2 = nI (cL D c) := ⟨rfl, rfl, rfl⟩
theorem fv_eq {a0 a1 a2 a3 a4 a5 a6 a7 a8 : Int32} {r : Nat → Int32} (h0 : r 0 = a0) (h1 : r 1 = a1) (h2 : r 2 = a2) (h3 : r 3 = a3) (h4 : r 4 = a4) (h5 : r 5 = a5) (h6 : r 6 = a6) (h7 : r 7 = a7) (h8 : r 8 = a8) : ∀ j, j < 9 → r j = fv a0 a1 a2 a3 a4 a5 a6 a7 a8 j
  | 0, _ => h0
  | 1, _ => h1
  | 2, _ => h2
  | 3, _ => h3
  | 4, _ => h4
  | 5, _ => h5
  | 6, _ => h6
  | 7, _ => h7
  | 8, _ => h8
  | j + 9, h => absurd h (by omega)
theorem max_sub {T m : Nat} (hT : T < 2 ^ 30) (hm : m < 2 ^ 30) : (if (0 : Int32) < nI T - nI m then nI T - nI m else 0) = nI (T - m) := by
  by_cases h : m ≤ T
  · rw [pk_sub h]
    by_cases e : T - m = 0
    · rw [e]; decide
    · rw [if_pos]
      rw [show (0 : Int32) = nI 0 from rfl]; exact nI_lt (by omega) (by omega)
  · have h1 := pk_sneg (a := T) (b := m) hm (by omega)
    rw [if_neg (fa_of_lt h1).2.2.1, show T - m = 0 by omega]; rfl
end S
