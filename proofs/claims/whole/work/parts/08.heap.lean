section HeapA
theorem aφ_own {g : aG} {a : Nat} (h1 : 1 ≤ a) (h2 : a ≤ 900000) : aφ g a = gz g + (a - 1) := by
  unfold aφ; rw [if_neg (by omega), if_pos (by omega)]
theorem aφ_ne {g : aG} {a b : Nat} (h1 : 1 ≤ a) (h2 : a ≤ 900000) (h3 : 1 ≤ b) (h4 : b ≤ 900000) (h : a ≠ b) : aφ g a ≠ aφ g b := by
  rw [aφ_own h1 h2, aφ_own h3 h4]; omega
theorem wd_le {g : aG} {σ : aS} {H : Heap} (hw : aWd g σ H) {a : Nat} (h2 : a ≤ aL σ) : a ≤ 900000 := by
  have := hw.2.1; have := hw.2.2.1; omega
theorem wcell_keep {g : aG} {σ σ' : aS} {H H' : Heap} {x : Nat} (h : wcell g σ x H) (ho : H'[aφ g x]? = H[aφ g x]?) (hs : ∀ k, fval σ' x k = fval σ x k ∧ elem σ' x k = elem σ x k) : wcell g σ' x H' := by
  unfold wcell at h ⊢
  by_cases hS : S0 x < 64
  · rw [if_pos hS] at h ⊢
    exact (t_OB.kept h ho).to (fun k _ => by rw [(hs k).1])
  · rw [if_neg hS] at h ⊢
    rw [ho, h]
    congr 2
    funext j
    rw [(hs j).2]
theorem wd_upd {g : aG} {σ σ' : aS} {H H' : Heap} {a : Nat} (hw : aWd g σ H) (h1 : 1 ≤ a) (h2 : a ≤ aL σ) (hz : H'.size = H.size) (ho : ∀ q : Nat, q ≠ aφ g a → H'[q]? = H[q]?) (hL : aL σ' = aL σ) (hN : aN σ' = aN σ) (hWs : aW σ' = aW σ)
    (hs : ∀ x, x ≠ a → ∀ k, fval σ' x k = fval σ x k ∧ elem σ' x k = elem σ x k) (hc : wcell g σ' a H') : aWd g σ' H' := by
  have ha := wd_le hw h2
  refine ⟨by rw [hz, hN]; exact hw.1, by rw [hL, hN]; exact hw.2.1, by rw [hN, hWs]; exact hw.2.2.1, fun q hq => ?_, fun x hx1 hx2 => ?_⟩
  · rw [ho q (by rw [aφ_own h1 ha]; omega)]
    exact hw.2.2.2.1 q hq
  · by_cases e : x = a
    · subst e; exact hc
    · rw [hL] at hx2
      exact wcell_keep (hw.2.2.2.2 x hx1 hx2) (ho _ (aφ_ne hx1 (wd_le hw hx2) h1 ha e)) (hs x e)
def uI (σ : aS) (a k : Nat) (v : Int32) : aS := (fun x j => if x = a ∧ j = k then v else σ.1 x j, σ.2)
def uJ (σ : aS) (a k : Nat) (v : Int64) : aS := (σ.1, fun x j => if x = a ∧ j = k then v else σ.2.1 x j, σ.2.2)
def uR (σ : aS) (a k : Nat) (v : Option Nat) : aS := (σ.1, σ.2.1, fun x j => if x = a ∧ j = k then v else σ.2.2.1 x j, σ.2.2.2)
theorem cv_rf (g : aG) (r : Option Nat) : cv g (va_rf r) = va_rf (r.map (aφ g)) := by cases r <;> rfl
theorem wcell_obj {g : aG} {σ : aS} {a ci : Nat} {H : Heap} (h : wcell g σ a H) (hS : S0 a = ci) (hc : ci < 64) : t_OB (aφ g a) ((gD g).1 ci) (cN ci) ((gD g).2 ci) H (fun k => cv g (fval σ a k)) := by
  unfold wcell at h; rw [hS, if_pos hc] at h; exact h
theorem wcell_arr {g : aG} {σ : aS} {a t : Nat} {H : Heap} (h : wcell g σ a H) (hS : S0 a = t) (ht : 64 ≤ t) : H[aφ g a]? = some (arrV (gA g t) (L0 a) (fun j => cv g (elem σ a j))) := by
  unfold wcell at h; rw [hS, if_neg (by omega)] at h; exact h
theorem wcell_of_obj {g : aG} {σ : aS} {a ci : Nat} {H : Heap} (hS : S0 a = ci) (hc : ci < 64) (h : t_OB (aφ g a) ((gD g).1 ci) (cN ci) ((gD g).2 ci) H (fun k => cv g (fval σ a k))) : wcell g σ a H := by
  unfold wcell; rw [hS, if_pos hc]; exact h
theorem wcell_of_arr {g : aG} {σ : aS} {a t : Nat} {H : Heap} (hS : S0 a = t) (ht : 64 ≤ t) (h : H[aφ g a]? = some (arrV (gA g t) (L0 a) (fun j => cv g (elem σ a j)))) : wcell g σ a H := by
  unfold wcell; rw [hS, if_neg (by omega)]; exact h
/-- the fields' table of a class -/
def fT (ci : Nat) : u_T := (cl.getD ci ("", fun _ => ("", "", "", false), 0)).2.1
def cR (ci : Nat) : String := (cl.getD ci ("", fun _ => ("", "", "", false), 0)).1
theorem cl_at : ∀ ci, ci < 13 → cl[ci]? = some (cR ci, fT ci, cN ci)
  | 0, _ => rfl | 1, _ => rfl | 2, _ => rfl | 3, _ => rfl | 4, _ => rfl | 5, _ => rfl | 6, _ => rfl | 7, _ => rfl | 8, _ => rfl | 9, _ => rfl | 10, _ => rfl | 11, _ => rfl | 12, _ => rfl
  | n + 13, h => absurd h (by omega)
theorem ct_ok : ∀ ci, ci < 13 → ∀ k, k < cN ci → parseFieldDescriptor (fT ci k).2.2.1 = some (cty ci k)
  | 0, _ => tyX0_ok | 1, _ => tyX1_ok | 2, _ => tyX2_ok | 3, _ => tyX3_ok | 4, _ => tyX4_ok | 5, _ => tyX5_ok | 6, _ => tyX6_ok | 7, _ => tyX7_ok | 8, _ => tyX8_ok | 9, _ => tyX9_ok | 10, _ => tyX10_ok | 11, _ => tyX11_ok | 12, _ => tyX12_ok
  | n + 13, h => absurd h (by omega)
theorem cn_ok : ∀ ci, ci < 13 → ∀ a, a < cN ci → ∀ b, b < cN ci → a ≠ b → (fT ci a).2.1 ≠ (fT ci b).2.1
  | 0, _ => nmX0 | 1, _ => nmX1 | 2, _ => nmX2 | 3, _ => nmX3 | 4, _ => nmX4 | 5, _ => nmX5 | 6, _ => nmX6 | 7, _ => nmX7 | 8, _ => nmX8 | 9, _ => nmX9 | 10, _ => nmX10 | 11, _ => nmX11 | 12, _ => nmX12
  | n + 13, h => absurd h (by omega)
theorem ct_int : ∀ ci, ci < 13 → ∀ k, k < cN ci → (cty ci k).isReference = true ∨ cty ci k = .int := by decide +kernel
/-- a field's link in class own: entry idx is field k of class ci -/
def fldW (own : String) (idx ci k : Nat) : Prop := ci < 13 ∧ k < cN ci ∧ (Cond.fieldLink own idx (fT ci k).1 (fT ci k).2.1 (fT ci k).2.2.1 ∈ lw_tbl ∨ ∃ host, Cond.fieldLinkNest own idx (fT ci k).1 (fT ci k).2.1 (fT ci k).2.2.1 host ∈ lw_tbl)
def lw_good : List Cond := lw_tbl.filter goodWord
end HeapA
