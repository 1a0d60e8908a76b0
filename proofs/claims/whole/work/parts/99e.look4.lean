section S
variable {g : aG} {d : Nat} {I : Nat → Nat → Int32} {J : Nat → Nat → Int64} {n w : Nat} {Q : aO → aS → Prop}
variable {σ : aS} {S : sD} {D : cD} {cs : List Nat} {a b c k v : Nat} {B : Nat → Option Nat}
/-- how tired a would be then -/
def kM (D : cD) (cs : List Nat) (S : sD) (a b c : Nat) : Nat := sT S a + if a = b then adn D cs S b c else 0
theorem kM_L : kM D cs S a b c = sT S a + kL D cs S a b c := by
  unfold kM kL
  by_cases e : a = b
  · rw [if_pos e, if_pos e.symm]
  · rw [if_neg e, if_neg (fun z => e z.symm)]
theorem cnr_M {P : Nat → Nat → Bool} {C : Nat} : cnr P (kM D cs S a) (sT S a + v) b C = cnr P (kL D cs S a) v b C := bc_eq (fun i _ => by
  rw [kM_L, decide_eq_decide.mpr (Nat.add_left_cancel_iff (m := kL D cs S a b i) (k := v) (n := sT S a))])
theorem cnv_M {P : Nat → Nat → Bool} {C : Nat} : ∀ m, cnv P (kM D cs S a) C m (sT S a + v) = cnv P (kL D cs S a) C m v
  | 0 => rfl
  | m + 1 => by
    show cnv P (kM D cs S a) C m (sT S a + v) + cnr P (kM D cs S a) (sT S a + v) m C = cnv P (kL D cs S a) C m v + cnr P (kL D cs S a) v m C
    rw [cnv_M m, cnr_M]
theorem cnv_z {P : Nat → Nat → Bool} {K : Nat → Nat → Nat} {C : Nat} (h : ∀ b c, c < C → K b c ≠ v) : ∀ m, cnv P K C m v = 0
  | 0 => rfl
  | m + 1 => by
    show cnv P K C m v + cnr P K v m C = 0
    rw [cnv_z h m, Nat.zero_add]
    exact (bc_0 C).mpr (fun i hi => by rw [decide_eq_false (h m i hi)]; simp)
theorem kL_le (hk : cOk D) (hc : c < cc D) : kL D cs S a b c ≤ 135 := by
  unfold kL; split
  · exact adn_le hk hc
  · exact Nat.zero_le _
theorem wM_eq (hk : cOk D) (hT : sT S a ≤ 270) : mxv (cnv (fiP D cs S B) (kM D cs S a) (cc D) (cb D)) 1000 = wLf D cs S B a := by
  refine mxv_eq (fun i hi => ?_) (fun i hi => Or.inr ⟨sT S a + i, by omega, (cnv_M (cb D)).symm⟩)
  by_cases h : sT S a ≤ i ∧ i < sT S a + 136
  · refine Or.inr ⟨i - sT S a, by omega, ?_⟩
    have e := cnv_M (D := D) (cs := cs) (S := S) (a := a) (v := i - sT S a) (P := fiP D cs S B) (C := cc D) (cb D)
    rw [show sT S a + (i - sT S a) = i by omega] at e; exact e
  · refine Or.inl (cnv_z (fun b c hc z => ?_) (cb D))
    have h1 := kL_le (cs := cs) (S := S) (a := a) (b := b) hk hc
    rw [kM_L] at z; omega
end S
