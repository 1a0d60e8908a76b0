section More
variable {g : aG} {d : Nat} {y : aM} {pc : Nat} {l : List Value} {ll : List (Nat × Int64)} {st : List Value} {σ : aS} {Q : aO → aS → Prop}
/-! texts -/
theorem s_strV {idx j : Nat} (hd : decode y.2.1 pc = .ok (.getfield idx, 3)) (hl : Cond.fieldLink y.1.cls idx "java/lang/String" "value" "[B" ∈ lw_good) (hj : j < 18) (k : Rn g d y (pc + 3) l ll (.ref (1000000 + 2 * j + 1) :: st) σ Q) : Rn g d y pc l ll (.ref (1000000 + 2 * j) :: st) σ Q := by
  intro p e R s m args below meth c H locs cells slots ls nc0 ns0 X
  have h := k _ _ _ _ _ _ _ _ _ _ _ _ _ _ _ _ X
  have e1 : (List.map (cv g) (Value.ref (1000000 + 2 * j) :: st)) = .ref (gK g j) :: st.map (cv g) := by simp [cv, aφ_str]
  have e2 : (List.map (cv g) (Value.ref (1000000 + 2 * j + 1) :: st)) = .ref (gV g j) :: st.map (cv g) := by simp [cv, aφ_sby]
  rw [e2] at h
  rw [e1]
  exact vk_getf X.2.1.1 X.2.1.2.1 ((aX_str X) j hj).1 (aX_S X) (aX_own X) (aX_g X _ hl) (fun _ h9 => h9) hd h
theorem s_strC {idx j : Nat} (hd : decode y.2.1 pc = .ok (.getfield idx, 3)) (hl : Cond.fieldLink y.1.cls idx "java/lang/String" "coder" "B" ∈ lw_good) (hj : j < 18) (k : Rn g d y (pc + 3) l ll (.int 0 :: st) σ Q) : Rn g d y pc l ll (.ref (1000000 + 2 * j) :: st) σ Q := by
  intro p e R s m args below meth c H locs cells slots ls nc0 ns0 X
  have h := k _ _ _ _ _ _ _ _ _ _ _ _ _ _ _ _ X
  have e1 : (List.map (cv g) (Value.ref (1000000 + 2 * j) :: st)) = .ref (gK g j) :: st.map (cv g) := by simp [cv, aφ_str]
  rw [e1]
  exact vk_getf X.2.1.1 X.2.1.2.1 ((aX_str X) j hj).2.1 (aX_S X) (aX_own X) (aX_g X _ hl) (fun _ h9 => h9) hd h
theorem s_strL {j : Nat} (hd : decode y.2.1 pc = .ok (.arraylength, 1)) (hj : j < 18) (k : Rn g d y (pc + 1) l ll (.int (nI (stx.getD j "").length) :: st) σ Q) : Rn g d y pc l ll (.ref (1000000 + 2 * j + 1) :: st) σ Q := by
  intro p e R s m args below meth c H locs cells slots ls nc0 ns0 X
  have h := k _ _ _ _ _ _ _ _ _ _ _ _ _ _ _ _ X
  have e2 : (List.map (cv g) (Value.ref (1000000 + 2 * j + 1) :: st)) = .ref (gV g j) :: st.map (cv g) := by simp [cv, aφ_sby]
  rw [e2]
  exact va_tlen X.2.1.1 X.2.1.2.1 ((aX_str X) j hj).2.2.1 (aX_S X) rfl hd h
theorem s_strB {j : Nat} {i : Int32} (hd : decode y.2.1 pc = .ok (.baload, 1)) (hj : j < 18) (hi : vp_in i (stx.getD j "").length) (k : Rn g d y (pc + 1) l ll (.int (nI (((stx.getD j "").toList.getD i.toNatClampNeg 'a').toNat)) :: st) σ Q) : Rn g d y pc l ll (.int i :: .ref (1000000 + 2 * j + 1) :: st) σ Q := by
  intro p e R s m args below meth c H locs cells slots ls nc0 ns0 X
  have h := k _ _ _ _ _ _ _ _ _ _ _ _ _ _ _ _ X
  have e2 : (List.map (cv g) (.int i :: Value.ref (1000000 + 2 * j + 1) :: st)) = .int i :: .ref (gV g j) :: st.map (cv g) := by simp [cv, aφ_sby]
  rw [e2]
  exact va_tb X.2.1.1 X.2.1.2.1 ((aX_str X) j hj).2.2.1 (aX_S X) hi rfl hd h
theorem s_compact {idx : Nat} (hd : decode y.2.1 pc = .ok (.getstatic idx, 3)) (hl : Cond.fieldLink y.1.cls idx "java/lang/String" "COMPACT_STRINGS" "Z" ∈ lw_good) (k : Rn g d y (pc + 3) l ll (.int 1 :: st) σ Q) : Rn g d y pc l ll st σ Q := by
  intro p e R s m args below meth c H locs cells slots ls nc0 ns0 X
  have h := k _ _ _ _ _ _ _ _ _ _ _ _ _ _ _ _ X
  have h2 := X.2.1.2.2.2.2.2.2.2.2.2.2
  have kp : ∀ a : Nat, a < (gs g).heap.size → ¬ gz g ≤ a → s.heap[a]? = (gs g).heap[a]? := fun a ha _ => h2 a ha
  have hZ : va_Z "java/lang/String" "COMPACT_STRINGS" "Z" (.int 1) (fun q => gz g ≤ q) s s.heap := (X.1.2.2.2.2.2.2.2.2.1.kept kp).moved (aX_wm X).alike
  exact va_gets X.2.1.1 X.2.1.2.1 hZ (aX_S X) (aX_own X) (aX_g X _ hl) (fun _ h9 => h9) hd h
theorem s_sioobe {idx : Nat} (hd : decode y.2.1 pc = .ok (.getstatic idx, 3)) (hl : Cond.fieldLink y.1.cls idx "jdk/internal/util/Preconditions" "SIOOBE_FORMATTER" "Ljava/util/function/BiFunction;" ∈ lw_good) (k : ∀ v : Value, (v = .null ∨ v = .ref 1000200) → Rn g d y (pc + 3) l ll (v :: st) σ Q) : Rn g d y pc l ll st σ Q := by
  intro p e R s m args below meth c H locs cells slots ls nc0 ns0 X
  have h2 := X.2.1.2.2.2.2.2.2.2.2.2.2
  have kp : ∀ a : Nat, a < (gs g).heap.size → ¬ gz g ≤ a → s.heap[a]? = (gs g).heap[a]? := fun a ha _ => h2 a ha
  obtain ⟨v, hv, hZ0⟩ := X.1.2.2.2.2.2.2.2.2.2.2.2
  have hZ := (hZ0.kept kp).moved (aX_wm X).alike
  have e100 : aφ g 1000200 = gK g 100 := aφ_str g 100
  rcases hv with rfl | rfl
  · exact va_gets X.2.1.1 X.2.1.2.1 hZ (aX_S X) (aX_own X) (aX_g X _ hl) (fun _ h9 => h9) hd (k .null (Or.inl rfl) _ _ _ _ _ _ _ _ _ _ _ _ _ _ _ _ X)
  · have h := k (.ref 1000200) (Or.inr rfl) _ _ _ _ _ _ _ _ _ _ _ _ _ _ _ _ X
    have e1 : (List.map (cv g) (Value.ref 1000200 :: st)) = .ref (gK g 100) :: st.map (cv g) := by simp [cv, e100]
    rw [e1] at h
    exact va_gets X.2.1.1 X.2.1.2.1 hZ (aX_S X) (aX_own X) (aX_g X _ hl) (fun _ h9 => h9) hd h
theorem s_ldcSw {idx j : Nat} {tx : String} (hd : decode y.2.1 pc = .ok (.ldc_w idx, 3)) (hw : Cond.stringRef y.1.cls idx tx ∈ lw_tbl) (hj : stx[j]? = some tx) (k : Rn g d y (pc + 3) l ll (.ref (1000000 + 2 * j) :: st) σ Q) : Rn g d y pc l ll st σ Q := by
  intro p e R s m args below meth c H locs cells slots ls nc0 ns0 X T hT XS
  have h := k _ _ _ _ _ _ _ _ _ _ _ _ _ _ _ _ X
  obtain ⟨t, h1, h2⟩ := h T hT XS
  have hstr := vk_R.warm (aX_wm X) (X.1.2.2.2.2.2.2.1 _ _ _ hw j hj)
  refine ⟨t, XS.ldcStringW X.2.1.1 (own := y.1.cls) (text := tx) (index := idx) (a := gK g j) (aX_own X) hstr.1 hstr.2 (g := F0 m pc ls (st.map (cv g))) rfl (by rw [X.2.1.2.1]; exact hd) t ?_, h2⟩
  have e1 : (List.map (cv g) (Value.ref (1000000 + 2 * j) :: st)) = .ref (gK g j) :: st.map (cv g) := by simp [cv, aφ_str]
  rw [e1] at h1
  exact h1
/-! System.arraycopy of two rows of ints -/
def cpS (σ : aS) (a b sp dp n : Nat) : aS := (fun x j => if x = b then va_cpy (σ.1 a) (σ.1 b) sp dp n j else σ.1 x j, σ.2)
theorem s_copy {idx a b : Nat} {sp dp n : Int32} (hd : decode y.2.1 pc = .ok (.invokestatic idx, 3)) (hl : Cond.methodLink y.1.cls idx arraycopyName ∈ lw_good) (hnat : Cond.native arraycopyName ∈ lw_good) (hsta : Cond.static arraycopyName ∈ lw_good) (hini : Cond.initialized "java/lang/System" ∈ lw_good)
    (ha : S0 a = 64) (ha1 : 1 ≤ a) (ha2 : a ≤ aL σ) (hb : S0 b = 64) (hb1 : 1 ≤ b) (hb2 : b ≤ aL σ) (hab : a ≠ b) (h1 : ¬ sp < 0) (h2 : ¬ dp < 0) (h3 : ¬ n < 0) (h4 : sp.toNatClampNeg + n.toNatClampNeg ≤ L0 a) (h5 : dp.toNatClampNeg + n.toNatClampNeg ≤ L0 b)
    (hdp : 1 ≤ d) (hsm : (st.map fun v => v.category).sum + (nativeFrameWords "java/lang/System" "arraycopy" 5 + 11) ≤ 200)
    (k : Rn g d y (pc + 3) l ll st (cpS σ a b sp.toNatClampNeg dp.toNatClampNeg n.toNatClampNeg) Q) : Rn g d y pc l ll (.int n :: .int dp :: .ref b :: .int sp :: .ref a :: st) σ Q := by
  intro p e R s m args below meth c H locs cells slots ls nc0 ns0 X
  have hw := aX_wd X
  have hR := X.2.2.1
  have hca := wcell_arr (hw.2.2.2.2 a ha1 ha2) ha (by omega)
  have hcb := wcell_arr (hw.2.2.2.2 b hb1 hb2) hb (by omega)
  have ea : ∀ q, S0 q = 64 → (fun j => cv g (elem σ q j)) = fun j => Value.int (aI σ q j) := fun q hq => by funext j; rw [el_i (Or.inl hq)]; rfl
  rw [ea a ha] at hca
  rw [ea b hb] at hcb
  have hne : aφ g a ≠ aφ g b := aφ_ne ha1 (wd_le hw ha2) hb1 (wd_le hw hb2) hab
  have hA := aX_ar X (t := 64) (by omega) (by omega)
  have hge : ∀ q, 1 ≤ q → q ≤ aL σ → gz g ≤ aφ g q := fun q q1 q2 => by rw [aφ_own q1 (wd_le hw q2)]; omega
  have nn : ∀ z : Int32, ¬ z < 0 → z.toInt = (z.toNatClampNeg : Int) := by
    intro z hz
    have hz0 : (0 : Int) ≤ z.toInt := by
      have := Int32.not_lt.mp hz
      simpa using Int32.le_iff_toInt_le.mp this
    show z.toInt = ((z.toInt.toNat : Nat) : Int)
    omega
  intro T hT XS
  have hc0 : H[aφ g a]? = some (vp_cell (gA g 64) (L0 a, .inl (aI σ a))) := hca
  have hc1 : H[aφ g b]? = some (vp_cell (gA g 64) (L0 b, .inl (aI σ b))) := hcb
  obtain ⟨-, k0, hk0, cm0, hkk0⟩ := hA.1 (L0 a) (fun j => .int (aI σ a j))
  obtain ⟨-, k1, hk1, cm1, hkk1⟩ := hA.1 (L0 b) (fun j => .int (aI σ b j))
  obtain ⟨vm', X', step⟩ := XS.arraycopy X.2.1.1 (aX_own X) (aX_g X _ hl) (aX_g X _ hnat) (aX_g X _ hsta) (aX_g X _ hini) (src := aφ g a) (dst := aφ g b) (cs := vp_cell (gA g 64) (L0 a, .inl (aI σ a))) (cd := vp_cell (gA g 64) (L0 b, .inl (aI σ b))) (srcPos := sp) (destPos := dp) (n := n) (by rw [hT]; exact hc0) (by rw [hT]; exact hc1)
    (fun _ h => by cases h) (fun _ h => by cases h) (fun h => by cases h) (fun h => by cases h) hk0 hk1 hkk0 hkk1 (by simp [ty64, refKind]) h1 h2 h3
    (by rw [nn sp h1, nn n h3]; show ¬ _ > ((arrV (gA g 64) (L0 a) (fun j => .int (aI σ a j))).slots.size : Int); rw [arrV_size]; omega)
    (by rw [nn dp h2, nn n h3]; show ¬ _ > ((arrV (gA g 64) (L0 b) (fun j => .int (aI σ b j))).slots.size : Int); rw [arrV_size]; omega)
    (fun vm₁ _ i hi => by
      have e : (vp_cell (gA g 64) (L0 a, .inl (aI σ a))).slots.getD (sp.toNatClampNeg + i) .null = .int (aI σ a (sp.toNatClampNeg + i)) := by
        show (arrV (gA g 64) (L0 a) (fun j => .int (aI σ a j))).slots.getD _ _ = _
        rw [Array.getD_eq_getD_getElem?, arrV_read _ _ (by omega)]
        rfl
      refine ⟨?_, ?_⟩
      · rw [e]; rfl
      · rw [e]; exact trivial)
    (g := F0 m pc ls (.int n :: .int dp :: .ref (aφ g b) :: .int sp :: .ref (aφ g a) :: st.map (cv g))) rfl (X.2.2.2.1.1.trans X.2.1.2.2.1.symm) (rest := st.map (cv g)) rfl (by rw [X.2.1.2.1]; exact hd) (by omega) (by show 2 * 0 + _ + _ ≤ _; rw [sum_cv]; omega)
  have e1 : copied (vp_cell (gA g 64) (L0 a, .inl (aI σ a))) (vp_cell (gA g 64) (L0 b, .inl (aI σ b))) sp dp n = vp_cell (gA g 64) (L0 b, .inl (va_cpy (aI σ a) (aI σ b) sp.toNatClampNeg dp.toNatClampNeg n.toNatClampNeg)) := va_copied (fun z => .int z) (gA g 64) (gA g 64) (aI σ a) (aI σ b) h4
  rw [e1] at X' step
  have hlt : aφ g b < H.size := (Array.getElem?_eq_some_iff.mp hc1).1
  generalize hcell : vp_cell (gA g 64) (L0 b, .inl (va_cpy (aI σ a) (aI σ b) sp.toNatClampNeg dp.toNatClampNeg n.toNatClampNeg)) = cell at X' step
  have hheap : ((T.setVm vm').setCell (aφ g b) cell).heap = H.setIfInBounds (aφ g b) cell := by rw [← hT]; rfl
  have oq : ∀ q : Nat, q ≠ aφ g b → (H.setIfInBounds (aφ g b) cell)[q]? = H[q]? := fun q hq => by simp [Array.getElem?_setIfInBounds, Ne.symm hq]
  have hwd : aWd g (cpS σ a b sp.toNatClampNeg dp.toNatClampNeg n.toNatClampNeg) (H.setIfInBounds (aφ g b) cell) := by
    refine wd_upd hw hb1 hb2 (by simp) oq rfl rfl rfl (fun x hx j => ?_) (wcell_of_arr hb (by omega) ?_)
    · constructor <;> simp [fval, elem, cpS, aI, aJ, aR, hx]
    · rw [show (H.setIfInBounds (aφ g b) cell)[aφ g b]? = some cell by simp [Array.getElem?_setIfInBounds, hlt], ← hcell, vp_cell_i]
      congr 2
      funext j
      rw [el_i (Or.inl hb)]
      simp [cpS, aI, cv]
  obtain ⟨locs2, hlocs2⟩ : ∃ z : List Loc, z = locs ++ ((vp_cell (gA g 64) (L0 a, .inl (aI σ a))).stretch sp.toNatClampNeg n.toNatClampNeg).zipIdx.map fun q => (⟨aφ g b, dp.toNatClampNeg + q.2⟩ : Loc) := ⟨_, rfl⟩
  have hlo2 : ∀ q ∈ locs2, gz g ≤ q.base := by
    rw [hlocs2]
    intro q hq
    rcases List.mem_append.mp hq with h | h
    · exact X.2.2.2.2.2.1 q h
    · obtain ⟨z, -, hz⟩ := List.mem_map.mp h
      rw [← hz]
      exact hge b hb1 hb2
  rw [← hlocs2] at X'
  obtain ⟨t, q1, q2⟩ := k p e R s m args below meth c _ locs2 cells slots ls nc0 ns0 ⟨X.1, X.2.1, X.2.2.1, X.2.2.2.1, hwd, hlo2, X.2.2.2.2.2.2.1, X.2.2.2.2.2.2.2⟩ _ hheap X'
  exact ⟨t, step t q1, q2⟩
end More
