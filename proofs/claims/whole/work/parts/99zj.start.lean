section S
variable {g : aG} {d : Nat} {I : Nat → Nat → Int32} {J : Nat → Nat → Int64} {n w : Nat} {Q : aO → aS → Prop}
variable {args : Array Value} {s : State} {A : Nat → Prop}
theorem st_one {own : String} {k n : Nat} {f : Nat → Int32} (hn : n < 2 ^ 31) (hex : (Cond.exactly (.string own k) "java/lang/String").before args s = true) (hco : (Cond.eq (.field (.string own k) "java/lang/String" "coder" "B") (.int 0)).before args s = true) (har : (Cond.arrayOf (.field (.string own k) "java/lang/String" "value" "[B") .byte).before args s = true) (hle : (Cond.eq (.length (.field (.string own k) "java/lang/String" "value" "[B")) (.int (Int32.ofNat n))).before args s = true) (hel : ∀ j, j < n → (Cond.eq (.elem (.field (.string own k) "java/lang/String" "value" "[B") (.int (Int32.ofNat j))) (.int (f j))).before args s = true) (hA : ∀ a : Nat, a < s.heap.size → ¬ A a) : ∃ q : Nat × Nat, (Term.string own k).eval args s none [] s = some (.ref q.1) ∧ va_OF "java/lang/String" "value" "[B" (.ref q.2) q.1 A s s.heap ∧ va_OF "java/lang/String" "coder" "B" (.int 0) q.1 A s s.heap ∧ va_T .byte q.2 n (fun j => .int (f j)) A s s.heap ∧ va_O "java/lang/String" q.1 A s s.heap := by
  obtain ⟨a, c, cA, kA, q1, q2, q3, q4, q5, q6, -⟩ := Cond.exactly_spec (args := args) (first := s) (o := none) (s := s) (idx := []) (t := .string own k) (cls := "java/lang/String") hex
  obtain ⟨t, ht, hT⟩ := va_Tof (f := fun j => .int (f j)) (A := A) hn har (va_eqt hle) (fun j hj => va_eqt (hel j hj)) hA
  exact ⟨(a, t), q1, vk_OFof q1 ht hA, vk_OFof q1 (va_eqt hco) hA, hT, ⟨cA, q3, q5, by rw [q6]; exact q2, hA a (Array.getElem?_eq_some_iff.mp q3).1⟩⟩
/-- where each text is named -/
def grpL : List (List (String × Nat)) := [[("ThroneBacks$Court", 57), ("ThroneBacks$Law", 122), ("ThroneBacksModel", 182)], [("ThroneBacks$Court", 63), ("ThroneBacksModel", 203)], [("ThroneBacks$Court", 65), ("ThroneBacksModel", 187)], [("ThroneBacks$Law", 106), ("ThroneBacksModel", 248)], [("ThroneBacks$Law", 108), ("ThroneBacksModel", 250)], [("ThroneBacks$Law", 110), ("ThroneBacksModel", 252)], [("ThroneBacks$Law", 112), ("ThroneBacksModel", 254)], [("ThroneBacks$Law", 114), ("ThroneBacksModel", 256)], [("ThroneBacks$Law", 116), ("ThroneBacksModel", 258)], [("ThroneBacks$Law", 118), ("ThroneBacksModel", 260)], [("ThroneBacks$Law", 120), ("ThroneBacks$Plan", 123), ("ThroneBacksModel", 262)], [("ThroneBacks$Law", 85), ("ThroneBacksModel", 264)], [("ThroneBacks$Law", 91), ("ThroneBacksModel", 269)], [("ThroneBacks$Plan", 99), ("ThroneBacksModel", 284)], [("ThroneBacks$Plan", 116), ("ThroneBacksModel", 286)], [("ThroneBacks$Plan", 117), ("ThroneBacksModel", 288)], [("ThroneBacks$Plan", 122), ("ThroneBacksModel", 290)], [("ThroneBacks$Plan", 129), ("ThroneBacksModel", 292)], [("ThroneBacks", 402)], [("ThroneBacks", 407)], [("ThroneBacks", 411)], [("ThroneBacks", 414)]]
def SP (args : Array Value) (s : State) (A : Nat → Prop) (j : Nat) (q : Nat × Nat) : Prop := (∀ r ∈ grpL.getD j [], (Term.string r.1 r.2).eval args s none [] s = some (.ref q.1)) ∧ (j < 18 → va_OF "java/lang/String" "value" "[B" (.ref q.2) q.1 A s s.heap ∧ va_OF "java/lang/String" "coder" "B" (.int 0) q.1 A s s.heap ∧ va_T .byte q.2 (stx.getD j "").length (fun i => .int (nI (((stx.getD j "").toList.getD i 'a').toNat))) A s s.heap ∧ va_O "java/lang/String" q.1 A s s.heap)
theorem st_0 (hs : ∀ c ∈ flatC (Cond.and given_1 narrow_1), c.before args s = true) (hA : ∀ a : Nat, a < s.heap.size → ¬ A a) : ∃ q, SP args s A 0 q := by
  obtain ⟨q, h1, h2⟩ := st_one (own := "ThroneBacks$Court") (k := 57) (n := 4) (f := fun i => nI (((stx.getD 0 "").toList.getD i 'a').toNat)) (A := A) (by decide) (hs _ (by decide +kernel)) (hs _ (by decide +kernel)) (hs _ (by decide +kernel)) (hs _ (by decide +kernel)) (fun j hj => (by
    rcases (show j = 0 ∨ j = 1 ∨ j = 2 ∨ j = 3 by omega) with rfl | rfl | rfl | rfl <;> exact hs _ (by decide +kernel))) hA
  exact ⟨q, List.forall_mem_cons.mpr ⟨h1, List.forall_mem_cons.mpr ⟨(va_eqR (hs (.eq (.string "ThroneBacks$Court" 57) (.string "ThroneBacks$Law" 122)) (by decide +kernel)) h1), List.forall_mem_cons.mpr ⟨(va_eqR (hs (.eq (.string "ThroneBacks$Court" 57) (.string "ThroneBacksModel" 182)) (by decide +kernel)) h1), fun _ h => absurd h List.not_mem_nil⟩⟩⟩, fun _ => h2⟩
theorem st_1 (hs : ∀ c ∈ flatC (Cond.and given_1 narrow_1), c.before args s = true) (hA : ∀ a : Nat, a < s.heap.size → ¬ A a) : ∃ q, SP args s A 1 q := by
  obtain ⟨q, h1, h2⟩ := st_one (own := "ThroneBacks$Court") (k := 63) (n := 7) (f := fun i => nI (((stx.getD 1 "").toList.getD i 'a').toNat)) (A := A) (by decide) (hs _ (by decide +kernel)) (hs _ (by decide +kernel)) (hs _ (by decide +kernel)) (hs _ (by decide +kernel)) (fun j hj => (by
    rcases (show j = 0 ∨ j = 1 ∨ j = 2 ∨ j = 3 ∨ j = 4 ∨ j = 5 ∨ j = 6 by omega) with rfl | rfl | rfl | rfl | rfl | rfl | rfl <;> exact hs _ (by decide +kernel))) hA
  exact ⟨q, List.forall_mem_cons.mpr ⟨h1, List.forall_mem_cons.mpr ⟨(va_eqR (hs (.eq (.string "ThroneBacks$Court" 63) (.string "ThroneBacksModel" 203)) (by decide +kernel)) h1), fun _ h => absurd h List.not_mem_nil⟩⟩, fun _ => h2⟩
theorem st_2 (hs : ∀ c ∈ flatC (Cond.and given_1 narrow_1), c.before args s = true) (hA : ∀ a : Nat, a < s.heap.size → ¬ A a) : ∃ q, SP args s A 2 q := by
  obtain ⟨q, h1, h2⟩ := st_one (own := "ThroneBacks$Court") (k := 65) (n := 4) (f := fun i => nI (((stx.getD 2 "").toList.getD i 'a').toNat)) (A := A) (by decide) (hs _ (by decide +kernel)) (hs _ (by decide +kernel)) (hs _ (by decide +kernel)) (hs _ (by decide +kernel)) (fun j hj => (by
    rcases (show j = 0 ∨ j = 1 ∨ j = 2 ∨ j = 3 by omega) with rfl | rfl | rfl | rfl <;> exact hs _ (by decide +kernel))) hA
  exact ⟨q, List.forall_mem_cons.mpr ⟨h1, List.forall_mem_cons.mpr ⟨(va_eqR (hs (.eq (.string "ThroneBacks$Court" 65) (.string "ThroneBacksModel" 187)) (by decide +kernel)) h1), fun _ h => absurd h List.not_mem_nil⟩⟩, fun _ => h2⟩
theorem st_3 (hs : ∀ c ∈ flatC (Cond.and given_1 narrow_1), c.before args s = true) (hA : ∀ a : Nat, a < s.heap.size → ¬ A a) : ∃ q, SP args s A 3 q := by
  obtain ⟨q, h1, h2⟩ := st_one (own := "ThroneBacks$Law") (k := 106) (n := 6) (f := fun i => nI (((stx.getD 3 "").toList.getD i 'a').toNat)) (A := A) (by decide) (hs _ (by decide +kernel)) (hs _ (by decide +kernel)) (hs _ (by decide +kernel)) (hs _ (by decide +kernel)) (fun j hj => (by
    rcases (show j = 0 ∨ j = 1 ∨ j = 2 ∨ j = 3 ∨ j = 4 ∨ j = 5 by omega) with rfl | rfl | rfl | rfl | rfl | rfl <;> exact hs _ (by decide +kernel))) hA
  exact ⟨q, List.forall_mem_cons.mpr ⟨h1, List.forall_mem_cons.mpr ⟨(va_eqR (hs (.eq (.string "ThroneBacks$Law" 106) (.string "ThroneBacksModel" 248)) (by decide +kernel)) h1), fun _ h => absurd h List.not_mem_nil⟩⟩, fun _ => h2⟩
theorem st_4 (hs : ∀ c ∈ flatC (Cond.and given_1 narrow_1), c.before args s = true) (hA : ∀ a : Nat, a < s.heap.size → ¬ A a) : ∃ q, SP args s A 4 q := by
  obtain ⟨q, h1, h2⟩ := st_one (own := "ThroneBacks$Law") (k := 108) (n := 4) (f := fun i => nI (((stx.getD 4 "").toList.getD i 'a').toNat)) (A := A) (by decide) (hs _ (by decide +kernel)) (hs _ (by decide +kernel)) (hs _ (by decide +kernel)) (hs _ (by decide +kernel)) (fun j hj => (by
    rcases (show j = 0 ∨ j = 1 ∨ j = 2 ∨ j = 3 by omega) with rfl | rfl | rfl | rfl <;> exact hs _ (by decide +kernel))) hA
  exact ⟨q, List.forall_mem_cons.mpr ⟨h1, List.forall_mem_cons.mpr ⟨(va_eqR (hs (.eq (.string "ThroneBacks$Law" 108) (.string "ThroneBacksModel" 250)) (by decide +kernel)) h1), fun _ h => absurd h List.not_mem_nil⟩⟩, fun _ => h2⟩
theorem st_5 (hs : ∀ c ∈ flatC (Cond.and given_1 narrow_1), c.before args s = true) (hA : ∀ a : Nat, a < s.heap.size → ¬ A a) : ∃ q, SP args s A 5 q := by
  obtain ⟨q, h1, h2⟩ := st_one (own := "ThroneBacks$Law") (k := 110) (n := 3) (f := fun i => nI (((stx.getD 5 "").toList.getD i 'a').toNat)) (A := A) (by decide) (hs _ (by decide +kernel)) (hs _ (by decide +kernel)) (hs _ (by decide +kernel)) (hs _ (by decide +kernel)) (fun j hj => (by
    rcases (show j = 0 ∨ j = 1 ∨ j = 2 by omega) with rfl | rfl | rfl <;> exact hs _ (by decide +kernel))) hA
  exact ⟨q, List.forall_mem_cons.mpr ⟨h1, List.forall_mem_cons.mpr ⟨(va_eqR (hs (.eq (.string "ThroneBacks$Law" 110) (.string "ThroneBacksModel" 252)) (by decide +kernel)) h1), fun _ h => absurd h List.not_mem_nil⟩⟩, fun _ => h2⟩
theorem st_6 (hs : ∀ c ∈ flatC (Cond.and given_1 narrow_1), c.before args s = true) (hA : ∀ a : Nat, a < s.heap.size → ¬ A a) : ∃ q, SP args s A 6 q := by
  obtain ⟨q, h1, h2⟩ := st_one (own := "ThroneBacks$Law") (k := 112) (n := 5) (f := fun i => nI (((stx.getD 6 "").toList.getD i 'a').toNat)) (A := A) (by decide) (hs _ (by decide +kernel)) (hs _ (by decide +kernel)) (hs _ (by decide +kernel)) (hs _ (by decide +kernel)) (fun j hj => (by
    rcases (show j = 0 ∨ j = 1 ∨ j = 2 ∨ j = 3 ∨ j = 4 by omega) with rfl | rfl | rfl | rfl | rfl <;> exact hs _ (by decide +kernel))) hA
  exact ⟨q, List.forall_mem_cons.mpr ⟨h1, List.forall_mem_cons.mpr ⟨(va_eqR (hs (.eq (.string "ThroneBacks$Law" 112) (.string "ThroneBacksModel" 254)) (by decide +kernel)) h1), fun _ h => absurd h List.not_mem_nil⟩⟩, fun _ => h2⟩
theorem st_7 (hs : ∀ c ∈ flatC (Cond.and given_1 narrow_1), c.before args s = true) (hA : ∀ a : Nat, a < s.heap.size → ¬ A a) : ∃ q, SP args s A 7 q := by
  obtain ⟨q, h1, h2⟩ := st_one (own := "ThroneBacks$Law") (k := 114) (n := 4) (f := fun i => nI (((stx.getD 7 "").toList.getD i 'a').toNat)) (A := A) (by decide) (hs _ (by decide +kernel)) (hs _ (by decide +kernel)) (hs _ (by decide +kernel)) (hs _ (by decide +kernel)) (fun j hj => (by
    rcases (show j = 0 ∨ j = 1 ∨ j = 2 ∨ j = 3 by omega) with rfl | rfl | rfl | rfl <;> exact hs _ (by decide +kernel))) hA
  exact ⟨q, List.forall_mem_cons.mpr ⟨h1, List.forall_mem_cons.mpr ⟨(va_eqR (hs (.eq (.string "ThroneBacks$Law" 114) (.string "ThroneBacksModel" 256)) (by decide +kernel)) h1), fun _ h => absurd h List.not_mem_nil⟩⟩, fun _ => h2⟩
theorem st_8 (hs : ∀ c ∈ flatC (Cond.and given_1 narrow_1), c.before args s = true) (hA : ∀ a : Nat, a < s.heap.size → ¬ A a) : ∃ q, SP args s A 8 q := by
  obtain ⟨q, h1, h2⟩ := st_one (own := "ThroneBacks$Law") (k := 116) (n := 5) (f := fun i => nI (((stx.getD 8 "").toList.getD i 'a').toNat)) (A := A) (by decide) (hs _ (by decide +kernel)) (hs _ (by decide +kernel)) (hs _ (by decide +kernel)) (hs _ (by decide +kernel)) (fun j hj => (by
    rcases (show j = 0 ∨ j = 1 ∨ j = 2 ∨ j = 3 ∨ j = 4 by omega) with rfl | rfl | rfl | rfl | rfl <;> exact hs _ (by decide +kernel))) hA
  exact ⟨q, List.forall_mem_cons.mpr ⟨h1, List.forall_mem_cons.mpr ⟨(va_eqR (hs (.eq (.string "ThroneBacks$Law" 116) (.string "ThroneBacksModel" 258)) (by decide +kernel)) h1), fun _ h => absurd h List.not_mem_nil⟩⟩, fun _ => h2⟩
theorem st_9 (hs : ∀ c ∈ flatC (Cond.and given_1 narrow_1), c.before args s = true) (hA : ∀ a : Nat, a < s.heap.size → ¬ A a) : ∃ q, SP args s A 9 q := by
  obtain ⟨q, h1, h2⟩ := st_one (own := "ThroneBacks$Law") (k := 118) (n := 5) (f := fun i => nI (((stx.getD 9 "").toList.getD i 'a').toNat)) (A := A) (by decide) (hs _ (by decide +kernel)) (hs _ (by decide +kernel)) (hs _ (by decide +kernel)) (hs _ (by decide +kernel)) (fun j hj => (by
    rcases (show j = 0 ∨ j = 1 ∨ j = 2 ∨ j = 3 ∨ j = 4 by omega) with rfl | rfl | rfl | rfl | rfl <;> exact hs _ (by decide +kernel))) hA
  exact ⟨q, List.forall_mem_cons.mpr ⟨h1, List.forall_mem_cons.mpr ⟨(va_eqR (hs (.eq (.string "ThroneBacks$Law" 118) (.string "ThroneBacksModel" 260)) (by decide +kernel)) h1), fun _ h => absurd h List.not_mem_nil⟩⟩, fun _ => h2⟩
theorem st_10 (hs : ∀ c ∈ flatC (Cond.and given_1 narrow_1), c.before args s = true) (hA : ∀ a : Nat, a < s.heap.size → ¬ A a) : ∃ q, SP args s A 10 q := by
  obtain ⟨q, h1, h2⟩ := st_one (own := "ThroneBacks$Law") (k := 120) (n := 3) (f := fun i => nI (((stx.getD 10 "").toList.getD i 'a').toNat)) (A := A) (by decide) (hs _ (by decide +kernel)) (hs _ (by decide +kernel)) (hs _ (by decide +kernel)) (hs _ (by decide +kernel)) (fun j hj => (by
    rcases (show j = 0 ∨ j = 1 ∨ j = 2 by omega) with rfl | rfl | rfl <;> exact hs _ (by decide +kernel))) hA
  exact ⟨q, List.forall_mem_cons.mpr ⟨h1, List.forall_mem_cons.mpr ⟨(va_eqR (hs (.eq (.string "ThroneBacks$Law" 120) (.string "ThroneBacks$Plan" 123)) (by decide +kernel)) h1), List.forall_mem_cons.mpr ⟨(va_eqR (hs (.eq (.string "ThroneBacks$Law" 120) (.string "ThroneBacksModel" 262)) (by decide +kernel)) h1), fun _ h => absurd h List.not_mem_nil⟩⟩⟩, fun _ => h2⟩
theorem st_11 (hs : ∀ c ∈ flatC (Cond.and given_1 narrow_1), c.before args s = true) (hA : ∀ a : Nat, a < s.heap.size → ¬ A a) : ∃ q, SP args s A 11 q := by
  obtain ⟨q, h1, h2⟩ := st_one (own := "ThroneBacks$Law") (k := 85) (n := 5) (f := fun i => nI (((stx.getD 11 "").toList.getD i 'a').toNat)) (A := A) (by decide) (hs _ (by decide +kernel)) (hs _ (by decide +kernel)) (hs _ (by decide +kernel)) (hs _ (by decide +kernel)) (fun j hj => (by
    rcases (show j = 0 ∨ j = 1 ∨ j = 2 ∨ j = 3 ∨ j = 4 by omega) with rfl | rfl | rfl | rfl | rfl <;> exact hs _ (by decide +kernel))) hA
  exact ⟨q, List.forall_mem_cons.mpr ⟨h1, List.forall_mem_cons.mpr ⟨(va_eqR (hs (.eq (.string "ThroneBacks$Law" 85) (.string "ThroneBacksModel" 264)) (by decide +kernel)) h1), fun _ h => absurd h List.not_mem_nil⟩⟩, fun _ => h2⟩
theorem st_12 (hs : ∀ c ∈ flatC (Cond.and given_1 narrow_1), c.before args s = true) (hA : ∀ a : Nat, a < s.heap.size → ¬ A a) : ∃ q, SP args s A 12 q := by
  obtain ⟨q, h1, h2⟩ := st_one (own := "ThroneBacks$Law") (k := 91) (n := 4) (f := fun i => nI (((stx.getD 12 "").toList.getD i 'a').toNat)) (A := A) (by decide) (hs _ (by decide +kernel)) (hs _ (by decide +kernel)) (hs _ (by decide +kernel)) (hs _ (by decide +kernel)) (fun j hj => (by
    rcases (show j = 0 ∨ j = 1 ∨ j = 2 ∨ j = 3 by omega) with rfl | rfl | rfl | rfl <;> exact hs _ (by decide +kernel))) hA
  exact ⟨q, List.forall_mem_cons.mpr ⟨h1, List.forall_mem_cons.mpr ⟨(va_eqR (hs (.eq (.string "ThroneBacks$Law" 91) (.string "ThroneBacksModel" 269)) (by decide +kernel)) h1), fun _ h => absurd h List.not_mem_nil⟩⟩, fun _ => h2⟩
theorem st_13 (hs : ∀ c ∈ flatC (Cond.and given_1 narrow_1), c.before args s = true) (hA : ∀ a : Nat, a < s.heap.size → ¬ A a) : ∃ q, SP args s A 13 q := by
  obtain ⟨q, h1, h2⟩ := st_one (own := "ThroneBacks$Plan") (k := 99) (n := 3) (f := fun i => nI (((stx.getD 13 "").toList.getD i 'a').toNat)) (A := A) (by decide) (hs _ (by decide +kernel)) (hs _ (by decide +kernel)) (hs _ (by decide +kernel)) (hs _ (by decide +kernel)) (fun j hj => (by
    rcases (show j = 0 ∨ j = 1 ∨ j = 2 by omega) with rfl | rfl | rfl <;> exact hs _ (by decide +kernel))) hA
  exact ⟨q, List.forall_mem_cons.mpr ⟨h1, List.forall_mem_cons.mpr ⟨(va_eqR (hs (.eq (.string "ThroneBacks$Plan" 99) (.string "ThroneBacksModel" 284)) (by decide +kernel)) h1), fun _ h => absurd h List.not_mem_nil⟩⟩, fun _ => h2⟩
theorem st_14 (hs : ∀ c ∈ flatC (Cond.and given_1 narrow_1), c.before args s = true) (hA : ∀ a : Nat, a < s.heap.size → ¬ A a) : ∃ q, SP args s A 14 q := by
  obtain ⟨q, h1, h2⟩ := st_one (own := "ThroneBacks$Plan") (k := 116) (n := 4) (f := fun i => nI (((stx.getD 14 "").toList.getD i 'a').toNat)) (A := A) (by decide) (hs _ (by decide +kernel)) (hs _ (by decide +kernel)) (hs _ (by decide +kernel)) (hs _ (by decide +kernel)) (fun j hj => (by
    rcases (show j = 0 ∨ j = 1 ∨ j = 2 ∨ j = 3 by omega) with rfl | rfl | rfl | rfl <;> exact hs _ (by decide +kernel))) hA
  exact ⟨q, List.forall_mem_cons.mpr ⟨h1, List.forall_mem_cons.mpr ⟨(va_eqR (hs (.eq (.string "ThroneBacks$Plan" 116) (.string "ThroneBacksModel" 286)) (by decide +kernel)) h1), fun _ h => absurd h List.not_mem_nil⟩⟩, fun _ => h2⟩
theorem st_15 (hs : ∀ c ∈ flatC (Cond.and given_1 narrow_1), c.before args s = true) (hA : ∀ a : Nat, a < s.heap.size → ¬ A a) : ∃ q, SP args s A 15 q := by
  obtain ⟨q, h1, h2⟩ := st_one (own := "ThroneBacks$Plan") (k := 117) (n := 4) (f := fun i => nI (((stx.getD 15 "").toList.getD i 'a').toNat)) (A := A) (by decide) (hs _ (by decide +kernel)) (hs _ (by decide +kernel)) (hs _ (by decide +kernel)) (hs _ (by decide +kernel)) (fun j hj => (by
    rcases (show j = 0 ∨ j = 1 ∨ j = 2 ∨ j = 3 by omega) with rfl | rfl | rfl | rfl <;> exact hs _ (by decide +kernel))) hA
  exact ⟨q, List.forall_mem_cons.mpr ⟨h1, List.forall_mem_cons.mpr ⟨(va_eqR (hs (.eq (.string "ThroneBacks$Plan" 117) (.string "ThroneBacksModel" 288)) (by decide +kernel)) h1), fun _ h => absurd h List.not_mem_nil⟩⟩, fun _ => h2⟩
theorem st_16 (hs : ∀ c ∈ flatC (Cond.and given_1 narrow_1), c.before args s = true) (hA : ∀ a : Nat, a < s.heap.size → ¬ A a) : ∃ q, SP args s A 16 q := by
  obtain ⟨q, h1, h2⟩ := st_one (own := "ThroneBacks$Plan") (k := 122) (n := 4) (f := fun i => nI (((stx.getD 16 "").toList.getD i 'a').toNat)) (A := A) (by decide) (hs _ (by decide +kernel)) (hs _ (by decide +kernel)) (hs _ (by decide +kernel)) (hs _ (by decide +kernel)) (fun j hj => (by
    rcases (show j = 0 ∨ j = 1 ∨ j = 2 ∨ j = 3 by omega) with rfl | rfl | rfl | rfl <;> exact hs _ (by decide +kernel))) hA
  exact ⟨q, List.forall_mem_cons.mpr ⟨h1, List.forall_mem_cons.mpr ⟨(va_eqR (hs (.eq (.string "ThroneBacks$Plan" 122) (.string "ThroneBacksModel" 290)) (by decide +kernel)) h1), fun _ h => absurd h List.not_mem_nil⟩⟩, fun _ => h2⟩
theorem st_17 (hs : ∀ c ∈ flatC (Cond.and given_1 narrow_1), c.before args s = true) (hA : ∀ a : Nat, a < s.heap.size → ¬ A a) : ∃ q, SP args s A 17 q := by
  obtain ⟨q, h1, h2⟩ := st_one (own := "ThroneBacks$Plan") (k := 129) (n := 5) (f := fun i => nI (((stx.getD 17 "").toList.getD i 'a').toNat)) (A := A) (by decide) (hs _ (by decide +kernel)) (hs _ (by decide +kernel)) (hs _ (by decide +kernel)) (hs _ (by decide +kernel)) (fun j hj => (by
    rcases (show j = 0 ∨ j = 1 ∨ j = 2 ∨ j = 3 ∨ j = 4 by omega) with rfl | rfl | rfl | rfl | rfl <;> exact hs _ (by decide +kernel))) hA
  exact ⟨q, List.forall_mem_cons.mpr ⟨h1, List.forall_mem_cons.mpr ⟨(va_eqR (hs (.eq (.string "ThroneBacks$Plan" 129) (.string "ThroneBacksModel" 292)) (by decide +kernel)) h1), fun _ h => absurd h List.not_mem_nil⟩⟩, fun _ => h2⟩
theorem st_18 (hs : ∀ c ∈ flatC (Cond.and given_1 narrow_1), c.before args s = true) (hA : ∀ a : Nat, a < s.heap.size → ¬ A a) : ∃ q, SP args s A 18 q := by
  obtain ⟨a, c, cA, kA, h1, -⟩ := Cond.exactly_spec (args := args) (first := s) (o := none) (s := s) (idx := []) (t := .string "ThroneBacks" 402) (cls := "java/lang/String") (hs _ (by decide +kernel))
  exact ⟨(a, 0), List.forall_mem_cons.mpr ⟨h1, fun _ h => absurd h List.not_mem_nil⟩, fun h => absurd h (by decide)⟩
theorem st_19 (hs : ∀ c ∈ flatC (Cond.and given_1 narrow_1), c.before args s = true) (hA : ∀ a : Nat, a < s.heap.size → ¬ A a) : ∃ q, SP args s A 19 q := by
  obtain ⟨a, c, cA, kA, h1, -⟩ := Cond.exactly_spec (args := args) (first := s) (o := none) (s := s) (idx := []) (t := .string "ThroneBacks" 407) (cls := "java/lang/String") (hs _ (by decide +kernel))
  exact ⟨(a, 0), List.forall_mem_cons.mpr ⟨h1, fun _ h => absurd h List.not_mem_nil⟩, fun h => absurd h (by decide)⟩
theorem st_20 (hs : ∀ c ∈ flatC (Cond.and given_1 narrow_1), c.before args s = true) (hA : ∀ a : Nat, a < s.heap.size → ¬ A a) : ∃ q, SP args s A 20 q := by
  obtain ⟨a, c, cA, kA, h1, -⟩ := Cond.exactly_spec (args := args) (first := s) (o := none) (s := s) (idx := []) (t := .string "ThroneBacks" 411) (cls := "java/lang/String") (hs _ (by decide +kernel))
  exact ⟨(a, 0), List.forall_mem_cons.mpr ⟨h1, fun _ h => absurd h List.not_mem_nil⟩, fun h => absurd h (by decide)⟩
theorem st_21 (hs : ∀ c ∈ flatC (Cond.and given_1 narrow_1), c.before args s = true) (hA : ∀ a : Nat, a < s.heap.size → ¬ A a) : ∃ q, SP args s A 21 q := by
  obtain ⟨a, c, cA, kA, h1, -⟩ := Cond.exactly_spec (args := args) (first := s) (o := none) (s := s) (idx := []) (t := .string "ThroneBacks" 414) (cls := "java/lang/String") (hs _ (by decide +kernel))
  exact ⟨(a, 0), List.forall_mem_cons.mpr ⟨h1, fun _ h => absurd h List.not_mem_nil⟩, fun h => absurd h (by decide)⟩
theorem st_all (hs : ∀ c ∈ flatC (Cond.and given_1 narrow_1), c.before args s = true) (hA : ∀ a : Nat, a < s.heap.size → ¬ A a) (j : Nat) : ∃ q : Nat × Nat, j < 22 → SP args s A j q := by
  by_cases h : j < 22
  · rcases (show j = 0 ∨ j = 1 ∨ j = 2 ∨ j = 3 ∨ j = 4 ∨ j = 5 ∨ j = 6 ∨ j = 7 ∨ j = 8 ∨ j = 9 ∨ j = 10 ∨ j = 11 ∨ j = 12 ∨ j = 13 ∨ j = 14 ∨ j = 15 ∨ j = 16 ∨ j = 17 ∨ j = 18 ∨ j = 19 ∨ j = 20 ∨ j = 21 by omega) with rfl | rfl | rfl | rfl | rfl | rfl | rfl | rfl | rfl | rfl | rfl | rfl | rfl | rfl | rfl | rfl | rfl | rfl | rfl | rfl | rfl | rfl
    · obtain ⟨q, h⟩ := st_0 hs hA; exact ⟨q, fun _ => h⟩
    · obtain ⟨q, h⟩ := st_1 hs hA; exact ⟨q, fun _ => h⟩
    · obtain ⟨q, h⟩ := st_2 hs hA; exact ⟨q, fun _ => h⟩
    · obtain ⟨q, h⟩ := st_3 hs hA; exact ⟨q, fun _ => h⟩
    · obtain ⟨q, h⟩ := st_4 hs hA; exact ⟨q, fun _ => h⟩
    · obtain ⟨q, h⟩ := st_5 hs hA; exact ⟨q, fun _ => h⟩
    · obtain ⟨q, h⟩ := st_6 hs hA; exact ⟨q, fun _ => h⟩
    · obtain ⟨q, h⟩ := st_7 hs hA; exact ⟨q, fun _ => h⟩
    · obtain ⟨q, h⟩ := st_8 hs hA; exact ⟨q, fun _ => h⟩
    · obtain ⟨q, h⟩ := st_9 hs hA; exact ⟨q, fun _ => h⟩
    · obtain ⟨q, h⟩ := st_10 hs hA; exact ⟨q, fun _ => h⟩
    · obtain ⟨q, h⟩ := st_11 hs hA; exact ⟨q, fun _ => h⟩
    · obtain ⟨q, h⟩ := st_12 hs hA; exact ⟨q, fun _ => h⟩
    · obtain ⟨q, h⟩ := st_13 hs hA; exact ⟨q, fun _ => h⟩
    · obtain ⟨q, h⟩ := st_14 hs hA; exact ⟨q, fun _ => h⟩
    · obtain ⟨q, h⟩ := st_15 hs hA; exact ⟨q, fun _ => h⟩
    · obtain ⟨q, h⟩ := st_16 hs hA; exact ⟨q, fun _ => h⟩
    · obtain ⟨q, h⟩ := st_17 hs hA; exact ⟨q, fun _ => h⟩
    · obtain ⟨q, h⟩ := st_18 hs hA; exact ⟨q, fun _ => h⟩
    · obtain ⟨q, h⟩ := st_19 hs hA; exact ⟨q, fun _ => h⟩
    · obtain ⟨q, h⟩ := st_20 hs hA; exact ⟨q, fun _ => h⟩
    · obtain ⟨q, h⟩ := st_21 hs hA; exact ⟨q, fun _ => h⟩
  · exact ⟨(0, 0), fun z => absurd z h⟩
def isStr : Cond → Option (String × Nat × String)
  | .stringRef a b c => some (a, b, c)
  | _ => none
def strL : List (String × Nat × String) := [("ThroneBacks", 411, "a number outside its range"), ("ThroneBacks$Court", 57, "back"), ("ThroneBacks$Court", 63, "council"), ("ThroneBacks$Court", 65, "king"), ("ThroneBacks$Law", 85, "least"), ("ThroneBacks$Law", 91, "most"), ("ThroneBacks$Law", 106, "weight"), ("ThroneBacks$Law", 108, "held"), ("ThroneBacks$Law", 110, "lie"), ("ThroneBacks$Law", 112, "hours"), ("ThroneBacks$Law", 114, "care"), ("ThroneBacks$Law", 116, "tired"), ("ThroneBacks$Law", 118, "knows"), ("ThroneBacks$Law", 120, "day"), ("ThroneBacks$Law", 122, "back"), ("ThroneBacks$Plan", 99, "sit"), ("ThroneBacks$Plan", 116, "tell"), ("ThroneBacks$Plan", 117, "hold"), ("ThroneBacks$Plan", 122, "rest"), ("ThroneBacks$Plan", 123, "day"), ("ThroneBacks$Plan", 129, "again"), ("ThroneBacks", 402, "no such back"), ("ThroneBacks", 407, "no such council"), ("ThroneBacks", 414, "bits of none such"), ("ThroneBacksModel", 203, "council"), ("ThroneBacksModel", 182, "back"), ("ThroneBacksModel", 187, "king"), ("ThroneBacksModel", 264, "least"), ("ThroneBacksModel", 269, "most"), ("ThroneBacksModel", 248, "weight"), ("ThroneBacksModel", 250, "held"), ("ThroneBacksModel", 252, "lie"), ("ThroneBacksModel", 254, "hours"), ("ThroneBacksModel", 256, "care"), ("ThroneBacksModel", 258, "tired"), ("ThroneBacksModel", 260, "knows"), ("ThroneBacksModel", 262, "day"), ("ThroneBacksModel", 284, "sit"), ("ThroneBacksModel", 286, "tell"), ("ThroneBacksModel", 288, "hold"), ("ThroneBacksModel", 290, "rest"), ("ThroneBacksModel", 292, "again")]
theorem strL_ok : lw_tbl.filterMap isStr = strL := by decide +kernel
theorem strL_g : ∀ x ∈ strL, ∀ j, j < 22 → stx[j]? = some x.2.2 → (x.1, x.2.1) ∈ grpL.getD j [] := by decide +kernel
theorem str_g {own tx : String} {k j : Nat} (h : Cond.stringRef own k tx ∈ lw_tbl) (hj : stx[j]? = some tx) : j < 22 ∧ (own, k) ∈ grpL.getD j [] := by
  have h1 : (own, k, tx) ∈ lw_tbl.filterMap isStr := List.mem_filterMap.mpr ⟨_, h, rfl⟩
  rw [strL_ok] at h1
  have h2 : j < 22 := (List.getElem?_eq_some_iff.mp hj).1
  exact ⟨h2, strL_g _ h1 j h2 hj⟩
end S
