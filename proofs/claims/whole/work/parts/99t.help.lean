section S
variable {g : aG} {d : Nat} {I : Nat → Nat → Int32} {J : Nat → Nat → Int64} {n w : Nat} {Q : aO → aS → Prop}
variable {y : aM} {pc : Nat} {l : List Value} {ll : List (Nat × Int64)} {st : List Value} {σ : aS}
theorem m_w1 {idx a : Nat} {y' : aM} {hk : Nat → Option Nat} {v1 : Value} (hd : decode y.2.1 pc = .ok (.invokevirtual idx, 3)) (hl : Cond.methodLink y.1.cls idx y'.1 ∈ lw_good) (hm : okV y' 1) (hr : rcv σ a y'.1.cls) (hch : ∀ k hp, hk k = some hp → cthX g y.1.cls y.2.2.2.2 pc k hp) (hok : okc y' [v1] st 1 = true) (k : Cn g d y' (.ref a :: [v1]) σ (Kh g (d + 1) y (pc + 3) l ll st hk Q)) : Rn g (d + 1) y pc l ll (v1 :: .ref a :: st) σ Q :=
  s_callVx (As := [v1]) hd hl hm.1 hm.2.1 hm.2.2 hr rfl rfl (okc_1 hok).1 (okc_1 hok).2.1 hch (Nat.le_refl _) (okc_1 hok).2.2 k
theorem m_w2 {idx a : Nat} {y' : aM} {hk : Nat → Option Nat} {v1 v2 : Value} (hd : decode y.2.1 pc = .ok (.invokevirtual idx, 3)) (hl : Cond.methodLink y.1.cls idx y'.1 ∈ lw_good) (hm : okV y' 2) (hr : rcv σ a y'.1.cls) (hch : ∀ k hp, hk k = some hp → cthX g y.1.cls y.2.2.2.2 pc k hp) (hok : okc y' [v1, v2] st 1 = true) (k : Cn g d y' (.ref a :: [v1, v2]) σ (Kh g (d + 1) y (pc + 3) l ll st hk Q)) : Rn g (d + 1) y pc l ll (v2 :: v1 :: .ref a :: st) σ Q :=
  s_callVx (As := [v1, v2]) hd hl hm.1 hm.2.1 hm.2.2 hr rfl rfl (okc_1 hok).1 (okc_1 hok).2.1 hch (Nat.le_refl _) (okc_1 hok).2.2 k
theorem m_w3 {idx a : Nat} {y' : aM} {hk : Nat → Option Nat} {v1 v2 v3 : Value} (hd : decode y.2.1 pc = .ok (.invokevirtual idx, 3)) (hl : Cond.methodLink y.1.cls idx y'.1 ∈ lw_good) (hm : okV y' 3) (hr : rcv σ a y'.1.cls) (hch : ∀ k hp, hk k = some hp → cthX g y.1.cls y.2.2.2.2 pc k hp) (hok : okc y' [v1, v2, v3] st 1 = true) (k : Cn g d y' (.ref a :: [v1, v2, v3]) σ (Kh g (d + 1) y (pc + 3) l ll st hk Q)) : Rn g (d + 1) y pc l ll (v3 :: v2 :: v1 :: .ref a :: st) σ Q :=
  s_callVx (As := [v1, v2, v3]) hd hl hm.1 hm.2.1 hm.2.2 hr rfl rfl (okc_1 hok).1 (okc_1 hok).2.1 hch (Nat.le_refl _) (okc_1 hok).2.2 k
theorem m_w4 {idx a : Nat} {y' : aM} {hk : Nat → Option Nat} {v1 v2 v3 v4 : Value} (hd : decode y.2.1 pc = .ok (.invokevirtual idx, 3)) (hl : Cond.methodLink y.1.cls idx y'.1 ∈ lw_good) (hm : okV y' 4) (hr : rcv σ a y'.1.cls) (hch : ∀ k hp, hk k = some hp → cthX g y.1.cls y.2.2.2.2 pc k hp) (hok : okc y' [v1, v2, v3, v4] st 1 = true) (k : Cn g d y' (.ref a :: [v1, v2, v3, v4]) σ (Kh g (d + 1) y (pc + 3) l ll st hk Q)) : Rn g (d + 1) y pc l ll (v4 :: v3 :: v2 :: v1 :: .ref a :: st) σ Q :=
  s_callVx (As := [v1, v2, v3, v4]) hd hl hm.1 hm.2.1 hm.2.2 hr rfl rfl (okc_1 hok).1 (okc_1 hok).2.1 hch (Nat.le_refl _) (okc_1 hok).2.2 k
theorem m_w5 {idx a : Nat} {y' : aM} {hk : Nat → Option Nat} {v1 v2 v3 v4 v5 : Value} (hd : decode y.2.1 pc = .ok (.invokevirtual idx, 3)) (hl : Cond.methodLink y.1.cls idx y'.1 ∈ lw_good) (hm : okV y' 5) (hr : rcv σ a y'.1.cls) (hch : ∀ k hp, hk k = some hp → cthX g y.1.cls y.2.2.2.2 pc k hp) (hok : okc y' [v1, v2, v3, v4, v5] st 1 = true) (k : Cn g d y' (.ref a :: [v1, v2, v3, v4, v5]) σ (Kh g (d + 1) y (pc + 3) l ll st hk Q)) : Rn g (d + 1) y pc l ll (v5 :: v4 :: v3 :: v2 :: v1 :: .ref a :: st) σ Q :=
  s_callVx (As := [v1, v2, v3, v4, v5]) hd hl hm.1 hm.2.1 hm.2.2 hr rfl rfl (okc_1 hok).1 (okc_1 hok).2.1 hch (Nat.le_refl _) (okc_1 hok).2.2 k
theorem m_w6 {idx a : Nat} {y' : aM} {hk : Nat → Option Nat} {v1 v2 v3 v4 v5 v6 : Value} (hd : decode y.2.1 pc = .ok (.invokevirtual idx, 3)) (hl : Cond.methodLink y.1.cls idx y'.1 ∈ lw_good) (hm : okV y' 6) (hr : rcv σ a y'.1.cls) (hch : ∀ k hp, hk k = some hp → cthX g y.1.cls y.2.2.2.2 pc k hp) (hok : okc y' [v1, v2, v3, v4, v5, v6] st 1 = true) (k : Cn g d y' (.ref a :: [v1, v2, v3, v4, v5, v6]) σ (Kh g (d + 1) y (pc + 3) l ll st hk Q)) : Rn g (d + 1) y pc l ll (v6 :: v5 :: v4 :: v3 :: v2 :: v1 :: .ref a :: st) σ Q :=
  s_callVx (As := [v1, v2, v3, v4, v5, v6]) hd hl hm.1 hm.2.1 hm.2.2 hr rfl rfl (okc_1 hok).1 (okc_1 hok).2.1 hch (Nat.le_refl _) (okc_1 hok).2.2 k
theorem m_w7 {idx a : Nat} {y' : aM} {hk : Nat → Option Nat} {v1 v2 v3 v4 v5 v6 v7 : Value} (hd : decode y.2.1 pc = .ok (.invokevirtual idx, 3)) (hl : Cond.methodLink y.1.cls idx y'.1 ∈ lw_good) (hm : okV y' 7) (hr : rcv σ a y'.1.cls) (hch : ∀ k hp, hk k = some hp → cthX g y.1.cls y.2.2.2.2 pc k hp) (hok : okc y' [v1, v2, v3, v4, v5, v6, v7] st 1 = true) (k : Cn g d y' (.ref a :: [v1, v2, v3, v4, v5, v6, v7]) σ (Kh g (d + 1) y (pc + 3) l ll st hk Q)) : Rn g (d + 1) y pc l ll (v7 :: v6 :: v5 :: v4 :: v3 :: v2 :: v1 :: .ref a :: st) σ Q :=
  s_callVx (As := [v1, v2, v3, v4, v5, v6, v7]) hd hl hm.1 hm.2.1 hm.2.2 hr rfl rfl (okc_1 hok).1 (okc_1 hok).2.1 hch (Nat.le_refl _) (okc_1 hok).2.2 k
theorem m_w8 {idx a : Nat} {y' : aM} {hk : Nat → Option Nat} {v1 v2 v3 v4 v5 v6 v7 v8 : Value} (hd : decode y.2.1 pc = .ok (.invokevirtual idx, 3)) (hl : Cond.methodLink y.1.cls idx y'.1 ∈ lw_good) (hm : okV y' 8) (hr : rcv σ a y'.1.cls) (hch : ∀ k hp, hk k = some hp → cthX g y.1.cls y.2.2.2.2 pc k hp) (hok : okc y' [v1, v2, v3, v4, v5, v6, v7, v8] st 1 = true) (k : Cn g d y' (.ref a :: [v1, v2, v3, v4, v5, v6, v7, v8]) σ (Kh g (d + 1) y (pc + 3) l ll st hk Q)) : Rn g (d + 1) y pc l ll (v8 :: v7 :: v6 :: v5 :: v4 :: v3 :: v2 :: v1 :: .ref a :: st) σ Q :=
  s_callVx (As := [v1, v2, v3, v4, v5, v6, v7, v8]) hd hl hm.1 hm.2.1 hm.2.2 hr rfl rfl (okc_1 hok).1 (okc_1 hok).2.1 hch (Nat.le_refl _) (okc_1 hok).2.2 k
theorem m_w9 {idx a : Nat} {y' : aM} {hk : Nat → Option Nat} {v1 v2 v3 v4 v5 v6 v7 v8 v9 : Value} (hd : decode y.2.1 pc = .ok (.invokevirtual idx, 3)) (hl : Cond.methodLink y.1.cls idx y'.1 ∈ lw_good) (hm : okV y' 9) (hr : rcv σ a y'.1.cls) (hch : ∀ k hp, hk k = some hp → cthX g y.1.cls y.2.2.2.2 pc k hp) (hok : okc y' [v1, v2, v3, v4, v5, v6, v7, v8, v9] st 1 = true) (k : Cn g d y' (.ref a :: [v1, v2, v3, v4, v5, v6, v7, v8, v9]) σ (Kh g (d + 1) y (pc + 3) l ll st hk Q)) : Rn g (d + 1) y pc l ll (v9 :: v8 :: v7 :: v6 :: v5 :: v4 :: v3 :: v2 :: v1 :: .ref a :: st) σ Q :=
  s_callVx (As := [v1, v2, v3, v4, v5, v6, v7, v8, v9]) hd hl hm.1 hm.2.1 hm.2.2 hr rfl rfl (okc_1 hok).1 (okc_1 hok).2.1 hch (Nat.le_refl _) (okc_1 hok).2.2 k
theorem m_h3 {idx : Nat} {y' : aM} {v1 v2 v3 : Value} (hd : decode y.2.1 pc = .ok (.invokestatic idx, 3)) (hl : Cond.methodLink y.1.cls idx y'.1 ∈ lw_good) (hm : okx y' 3) (hs : Cond.static y'.1 ∈ lw_good) (hexc : y.2.2.2.2 = []) (hok : okc y' [v1, v2, v3] st 0 = true) (k : Cn g d y' [v1, v2, v3] σ (Kt g (d + 1) y (pc + 3) l ll st Q)) : Rn g (d + 1) y pc l ll (v3 :: v2 :: v1 :: st) σ Q :=
  s_callSx (As := [v1, v2, v3]) hd hl hm hs rfl rfl (okc_1 hok).1 (okc_1 hok).2.1 hexc (Nat.le_refl _) (okc_1 hok).2.2 k
theorem m_h4 {idx : Nat} {y' : aM} {v1 v2 v3 v4 : Value} (hd : decode y.2.1 pc = .ok (.invokestatic idx, 3)) (hl : Cond.methodLink y.1.cls idx y'.1 ∈ lw_good) (hm : okx y' 4) (hs : Cond.static y'.1 ∈ lw_good) (hexc : y.2.2.2.2 = []) (hok : okc y' [v1, v2, v3, v4] st 0 = true) (k : Cn g d y' [v1, v2, v3, v4] σ (Kt g (d + 1) y (pc + 3) l ll st Q)) : Rn g (d + 1) y pc l ll (v4 :: v3 :: v2 :: v1 :: st) σ Q :=
  s_callSx (As := [v1, v2, v3, v4]) hd hl hm hs rfl rfl (okc_1 hok).1 (okc_1 hok).2.1 hexc (Nat.le_refl _) (okc_1 hok).2.2 k
theorem m_h5 {idx : Nat} {y' : aM} {v1 v2 v3 v4 v5 : Value} (hd : decode y.2.1 pc = .ok (.invokestatic idx, 3)) (hl : Cond.methodLink y.1.cls idx y'.1 ∈ lw_good) (hm : okx y' 5) (hs : Cond.static y'.1 ∈ lw_good) (hexc : y.2.2.2.2 = []) (hok : okc y' [v1, v2, v3, v4, v5] st 0 = true) (k : Cn g d y' [v1, v2, v3, v4, v5] σ (Kt g (d + 1) y (pc + 3) l ll st Q)) : Rn g (d + 1) y pc l ll (v5 :: v4 :: v3 :: v2 :: v1 :: st) σ Q :=
  s_callSx (As := [v1, v2, v3, v4, v5]) hd hl hm hs rfl rfl (okc_1 hok).1 (okc_1 hok).2.1 hexc (Nat.le_refl _) (okc_1 hok).2.2 k
theorem m_h6 {idx : Nat} {y' : aM} {v1 v2 v3 v4 v5 v6 : Value} (hd : decode y.2.1 pc = .ok (.invokestatic idx, 3)) (hl : Cond.methodLink y.1.cls idx y'.1 ∈ lw_good) (hm : okx y' 6) (hs : Cond.static y'.1 ∈ lw_good) (hexc : y.2.2.2.2 = []) (hok : okc y' [v1, v2, v3, v4, v5, v6] st 0 = true) (k : Cn g d y' [v1, v2, v3, v4, v5, v6] σ (Kt g (d + 1) y (pc + 3) l ll st Q)) : Rn g (d + 1) y pc l ll (v6 :: v5 :: v4 :: v3 :: v2 :: v1 :: st) σ Q :=
  s_callSx (As := [v1, v2, v3, v4, v5, v6]) hd hl hm hs rfl rfl (okc_1 hok).1 (okc_1 hok).2.1 hexc (Nat.le_refl _) (okc_1 hok).2.2 k
theorem m_h7 {idx : Nat} {y' : aM} {v1 v2 v3 v4 v5 v6 v7 : Value} (hd : decode y.2.1 pc = .ok (.invokestatic idx, 3)) (hl : Cond.methodLink y.1.cls idx y'.1 ∈ lw_good) (hm : okx y' 7) (hs : Cond.static y'.1 ∈ lw_good) (hexc : y.2.2.2.2 = []) (hok : okc y' [v1, v2, v3, v4, v5, v6, v7] st 0 = true) (k : Cn g d y' [v1, v2, v3, v4, v5, v6, v7] σ (Kt g (d + 1) y (pc + 3) l ll st Q)) : Rn g (d + 1) y pc l ll (v7 :: v6 :: v5 :: v4 :: v3 :: v2 :: v1 :: st) σ Q :=
  s_callSx (As := [v1, v2, v3, v4, v5, v6, v7]) hd hl hm hs rfl rfl (okc_1 hok).1 (okc_1 hok).2.1 hexc (Nat.le_refl _) (okc_1 hok).2.2 k
theorem m_h8 {idx : Nat} {y' : aM} {v1 v2 v3 v4 v5 v6 v7 v8 : Value} (hd : decode y.2.1 pc = .ok (.invokestatic idx, 3)) (hl : Cond.methodLink y.1.cls idx y'.1 ∈ lw_good) (hm : okx y' 8) (hs : Cond.static y'.1 ∈ lw_good) (hexc : y.2.2.2.2 = []) (hok : okc y' [v1, v2, v3, v4, v5, v6, v7, v8] st 0 = true) (k : Cn g d y' [v1, v2, v3, v4, v5, v6, v7, v8] σ (Kt g (d + 1) y (pc + 3) l ll st Q)) : Rn g (d + 1) y pc l ll (v8 :: v7 :: v6 :: v5 :: v4 :: v3 :: v2 :: v1 :: st) σ Q :=
  s_callSx (As := [v1, v2, v3, v4, v5, v6, v7, v8]) hd hl hm hs rfl rfl (okc_1 hok).1 (okc_1 hok).2.1 hexc (Nat.le_refl _) (okc_1 hok).2.2 k
theorem m_h9 {idx : Nat} {y' : aM} {v1 v2 v3 v4 v5 v6 v7 v8 v9 : Value} (hd : decode y.2.1 pc = .ok (.invokestatic idx, 3)) (hl : Cond.methodLink y.1.cls idx y'.1 ∈ lw_good) (hm : okx y' 9) (hs : Cond.static y'.1 ∈ lw_good) (hexc : y.2.2.2.2 = []) (hok : okc y' [v1, v2, v3, v4, v5, v6, v7, v8, v9] st 0 = true) (k : Cn g d y' [v1, v2, v3, v4, v5, v6, v7, v8, v9] σ (Kt g (d + 1) y (pc + 3) l ll st Q)) : Rn g (d + 1) y pc l ll (v9 :: v8 :: v7 :: v6 :: v5 :: v4 :: v3 :: v2 :: v1 :: st) σ Q :=
  s_callSx (As := [v1, v2, v3, v4, v5, v6, v7, v8, v9]) hd hl hm hs rfl rfl (okc_1 hok).1 (okc_1 hok).2.1 hexc (Nat.le_refl _) (okc_1 hok).2.2 k
theorem m_h10 {idx : Nat} {y' : aM} {v1 v2 v3 v4 v5 v6 v7 v8 v9 v10 : Value} (hd : decode y.2.1 pc = .ok (.invokestatic idx, 3)) (hl : Cond.methodLink y.1.cls idx y'.1 ∈ lw_good) (hm : okx y' 10) (hs : Cond.static y'.1 ∈ lw_good) (hexc : y.2.2.2.2 = []) (hok : okc y' [v1, v2, v3, v4, v5, v6, v7, v8, v9, v10] st 0 = true) (k : Cn g d y' [v1, v2, v3, v4, v5, v6, v7, v8, v9, v10] σ (Kt g (d + 1) y (pc + 3) l ll st Q)) : Rn g (d + 1) y pc l ll (v10 :: v9 :: v8 :: v7 :: v6 :: v5 :: v4 :: v3 :: v2 :: v1 :: st) σ Q :=
  s_callSx (As := [v1, v2, v3, v4, v5, v6, v7, v8, v9, v10]) hd hl hm hs rfl rfl (okc_1 hok).1 (okc_1 hok).2.1 hexc (Nat.le_refl _) (okc_1 hok).2.2 k
theorem m_h11 {idx : Nat} {y' : aM} {v1 v2 v3 v4 v5 v6 v7 v8 v9 v10 v11 : Value} (hd : decode y.2.1 pc = .ok (.invokestatic idx, 3)) (hl : Cond.methodLink y.1.cls idx y'.1 ∈ lw_good) (hm : okx y' 11) (hs : Cond.static y'.1 ∈ lw_good) (hexc : y.2.2.2.2 = []) (hok : okc y' [v1, v2, v3, v4, v5, v6, v7, v8, v9, v10, v11] st 0 = true) (k : Cn g d y' [v1, v2, v3, v4, v5, v6, v7, v8, v9, v10, v11] σ (Kt g (d + 1) y (pc + 3) l ll st Q)) : Rn g (d + 1) y pc l ll (v11 :: v10 :: v9 :: v8 :: v7 :: v6 :: v5 :: v4 :: v3 :: v2 :: v1 :: st) σ Q :=
  s_callSx (As := [v1, v2, v3, v4, v5, v6, v7, v8, v9, v10, v11]) hd hl hm hs rfl rfl (okc_1 hok).1 (okc_1 hok).2.1 hexc (Nat.le_refl _) (okc_1 hok).2.2 k
def cdB (k : Nat) : Option Int32 := if k = 0 then some 1 else if k = 1 then some 2 else none
def cdA (k : Nat) : Option Int32 := if k = 1 then some 1 else none
def cdE (k : Nat) : Option Int32 := if k = 0 then some 1 else none
/-- what a helper makes of the class's answer -/
def Hi (cd : Nat → Option Int32) (Q : aO → aS → Prop) : aO → aS → Prop
  | .inl (some (.int v)), σ => ∃ I' J' n' w', σ = Z I' J' n' w' ∧ Q (.inl (some (.int 0))) (Z I' (upJ J' 560 0 v.toInt64) n' w')
  | .inr k, σ => ∃ c, cd k = some c ∧ Q (.inl (some (.int c))) σ
  | _, _ => False
def Hl (cd : Nat → Option Int32) (Q : aO → aS → Prop) : aO → aS → Prop
  | .inl (some (.long v)), σ => ∃ I' J' n' w', σ = Z I' J' n' w' ∧ Q (.inl (some (.int 0))) (Z I' (upJ J' 560 0 v) n' w')
  | .inr k, σ => ∃ c, cd k = some c ∧ Q (.inl (some (.int c))) σ
  | _, _ => False
def hkB (a b : Nat) (k : Nat) : Option Nat := if k = 0 then some a else if k = 1 then some b else none
def hkA (a : Nat) (k : Nat) : Option Nat := if k = 1 then some a else none
def hkE (a : Nat) (k : Nat) : Option Nat := if k = 0 then some a else none
theorem hc_B {e a b pc : Nat} (hN : aNx g) (h : pc < e) : ∀ k hp, hkB a b k = some hp → cthX g RL [(0, e, a, 31), (0, e, b, 13)] pc k hp := by
  intro k hp hh
  unfold hkB at hh
  by_cases h0 : k = 0
  · rw [if_pos h0] at hh; cases hh; subst h0; exact ch_0 h
  · rw [if_neg h0] at hh
    by_cases h1 : k = 1
    · rw [if_pos h1] at hh; cases hh; subst h1; exact ch_2 hN h
    · rw [if_neg h1] at hh; cases hh
theorem hc_A {e a pc : Nat} (h : pc < e) : ∀ k hp, hkA a k = some hp → cthX g RL [(0, e, a, 13)] pc k hp := by
  intro k hp hh
  unfold hkA at hh
  by_cases h1 : k = 1
  · rw [if_pos h1] at hh; cases hh; subst h1; exact ch_1 h
  · rw [if_neg h1] at hh; cases hh
theorem hc_E {e a pc : Nat} (h : pc < e) : ∀ k hp, hkE a k = some hp → cthX g RL [(0, e, a, 31)] pc k hp := by
  intro k hp hh
  unfold hkE at hh
  by_cases h1 : k = 0
  · rw [if_pos h1] at hh; cases hh; subst h1; exact ch_0 h
  · rw [if_neg h1] at hh; cases hh
theorem c_L_court (hN : aNx g) {x1 : Int32} (hc : Cn g d mX11_court [.ref 1, .int x1] (Z I J n w) (Hi cdA Q)) : Cn g (d + 1) mL_court [.ref 1, .int x1, .ref 560] (Z I J n w) Q := by
  show Rn g (d + 1) mL_court 0 [.ref 1, .int x1, .ref 560, .retAddr 0] [] [] (Z I J n w) Q
  refine s_aload_n (pc := 0) (i := 2) dL_court_0 rfl rfl ?_
  refine m_ic (pc := 1) (v := 0) dL_court_1 rfl ?_
  refine s_aload_n (pc := 2) (i := 0) dL_court_2 rfl rfl ?_
  refine s_iload_n (pc := 3) (i := 1) dL_court_3 rfl rfl ?_
  refine m_w1 (y' := mX11_court) (pc := 4) (hk := hkA 12) dL_court_4 ml_L_7 ok_X11_court (rcO o_1 (by decide) rfl) (hc_A (by decide)) rfl (Rn_mono (fun o σ h => ?_) hc)
  rcases o with (_ | v) | kx
  · exact absurd h id
  · cases v with
    | long _ => exact absurd h id
    | float _ => exact absurd h id
    | double _ => exact absurd h id
    | ref _ => exact absurd h id
    | null => exact absurd h id
    | retAddr _ => exact absurd h id
    | int v =>
      obtain ⟨I', J', n', w', rfl, hq⟩ := h
      show Rn g (d + 1) mL_court 7 [.ref 1, .int x1, .ref 560, .retAddr 0] [] [.int v, .int 0, .ref 560] (Z I' J' n' w') Q
      refine s_i2l (pc := 7) dL_court_7 ?_
      refine m_ls (pc := 8) dL_court_8 a_560 (vp_in_nI (n := 0) (by omega) (by decide)) ?_
      refine s_goto (pc := 9) (tgt := 15) dL_court_9 rfl ?_
      refine m_ic (pc := 15) (v := 0) dL_court_15 rfl ?_
      refine s_ireturn (pc := 16) dL_court_16 rfl rfl ?_
      exact hq
  · obtain ⟨c, hcd, hq⟩ := h
    unfold cdA at hcd
    by_cases h0 : kx = 1
    · subst h0; cases hcd
      refine ⟨12, rfl, fun a => ?_⟩
      refine s_astore_n (pc := 12) (i := 3) dL_court_12 rfl (Nat.le_of_ble_eq_true rfl) ?_
      refine m_ic (pc := 13) (v := 1) dL_court_13 rfl ?_
      refine s_ireturn (pc := 14) dL_court_14 rfl rfl ?_
      exact hq
    · rw [if_neg h0] at hcd; cases hcd
theorem c_L_law (hN : aNx g) {x1 : Int32} (hc : Cn g d mX11_law [.ref 1, .int x1] (Z I J n w) (Hi cdA Q)) : Cn g (d + 1) mL_law [.ref 1, .int x1, .ref 560] (Z I J n w) Q := by
  show Rn g (d + 1) mL_law 0 [.ref 1, .int x1, .ref 560, .retAddr 0] [] [] (Z I J n w) Q
  refine s_aload_n (pc := 0) (i := 2) dL_law_0 rfl rfl ?_
  refine m_ic (pc := 1) (v := 0) dL_law_1 rfl ?_
  refine s_aload_n (pc := 2) (i := 0) dL_law_2 rfl rfl ?_
  refine s_iload_n (pc := 3) (i := 1) dL_law_3 rfl rfl ?_
  refine m_w1 (y' := mX11_law) (pc := 4) (hk := hkA 12) dL_law_4 ml_L_15 ok_X11_law (rcO o_1 (by decide) rfl) (hc_A (by decide)) rfl (Rn_mono (fun o σ h => ?_) hc)
  rcases o with (_ | v) | kx
  · exact absurd h id
  · cases v with
    | long _ => exact absurd h id
    | float _ => exact absurd h id
    | double _ => exact absurd h id
    | ref _ => exact absurd h id
    | null => exact absurd h id
    | retAddr _ => exact absurd h id
    | int v =>
      obtain ⟨I', J', n', w', rfl, hq⟩ := h
      show Rn g (d + 1) mL_law 7 [.ref 1, .int x1, .ref 560, .retAddr 0] [] [.int v, .int 0, .ref 560] (Z I' J' n' w') Q
      refine s_i2l (pc := 7) dL_law_7 ?_
      refine m_ls (pc := 8) dL_law_8 a_560 (vp_in_nI (n := 0) (by omega) (by decide)) ?_
      refine s_goto (pc := 9) (tgt := 15) dL_law_9 rfl ?_
      refine m_ic (pc := 15) (v := 0) dL_law_15 rfl ?_
      refine s_ireturn (pc := 16) dL_law_16 rfl rfl ?_
      exact hq
  · obtain ⟨c, hcd, hq⟩ := h
    unfold cdA at hcd
    by_cases h0 : kx = 1
    · subst h0; cases hcd
      refine ⟨12, rfl, fun a => ?_⟩
      refine s_astore_n (pc := 12) (i := 3) dL_law_12 rfl (Nat.le_of_ble_eq_true rfl) ?_
      refine m_ic (pc := 13) (v := 1) dL_law_13 rfl ?_
      refine s_ireturn (pc := 14) dL_law_14 rfl rfl ?_
      exact hq
    · rw [if_neg h0] at hcd; cases hcd
theorem c_L_work (hN : aNx g) {x1 : Int32} (hc : Cn g d mX11_work [.ref 1, .int x1] (Z I J n w) (Hi cdA Q)) : Cn g (d + 1) mL_work [.ref 1, .int x1, .ref 560] (Z I J n w) Q := by
  show Rn g (d + 1) mL_work 0 [.ref 1, .int x1, .ref 560, .retAddr 0] [] [] (Z I J n w) Q
  refine s_aload_n (pc := 0) (i := 2) dL_work_0 rfl rfl ?_
  refine m_ic (pc := 1) (v := 0) dL_work_1 rfl ?_
  refine s_aload_n (pc := 2) (i := 0) dL_work_2 rfl rfl ?_
  refine s_iload_n (pc := 3) (i := 1) dL_work_3 rfl rfl ?_
  refine m_w1 (y' := mX11_work) (pc := 4) (hk := hkA 12) dL_work_4 ml_L_18 ok_X11_work (rcO o_1 (by decide) rfl) (hc_A (by decide)) rfl (Rn_mono (fun o σ h => ?_) hc)
  rcases o with (_ | v) | kx
  · exact absurd h id
  · cases v with
    | long _ => exact absurd h id
    | float _ => exact absurd h id
    | double _ => exact absurd h id
    | ref _ => exact absurd h id
    | null => exact absurd h id
    | retAddr _ => exact absurd h id
    | int v =>
      obtain ⟨I', J', n', w', rfl, hq⟩ := h
      show Rn g (d + 1) mL_work 7 [.ref 1, .int x1, .ref 560, .retAddr 0] [] [.int v, .int 0, .ref 560] (Z I' J' n' w') Q
      refine s_i2l (pc := 7) dL_work_7 ?_
      refine m_ls (pc := 8) dL_work_8 a_560 (vp_in_nI (n := 0) (by omega) (by decide)) ?_
      refine s_goto (pc := 9) (tgt := 15) dL_work_9 rfl ?_
      refine m_ic (pc := 15) (v := 0) dL_work_15 rfl ?_
      refine s_ireturn (pc := 16) dL_work_16 rfl rfl ?_
      exact hq
  · obtain ⟨c, hcd, hq⟩ := h
    unfold cdA at hcd
    by_cases h0 : kx = 1
    · subst h0; cases hcd
      refine ⟨12, rfl, fun a => ?_⟩
      refine s_astore_n (pc := 12) (i := 3) dL_work_12 rfl (Nat.le_of_ble_eq_true rfl) ?_
      refine m_ic (pc := 13) (v := 1) dL_work_13 rfl ?_
      refine s_ireturn (pc := 14) dL_work_14 rfl rfl ?_
      exact hq
    · rw [if_neg h0] at hcd; cases hcd
theorem c_L_book (hN : aNx g) {x1 : Int32} (hc : Cn g d mX11_book [.ref 1, .int x1] (Z I J n w) (Hi cdA Q)) : Cn g (d + 1) mL_book [.ref 1, .int x1, .ref 560] (Z I J n w) Q := by
  show Rn g (d + 1) mL_book 0 [.ref 1, .int x1, .ref 560, .retAddr 0] [] [] (Z I J n w) Q
  refine s_aload_n (pc := 0) (i := 2) dL_book_0 rfl rfl ?_
  refine m_ic (pc := 1) (v := 0) dL_book_1 rfl ?_
  refine s_aload_n (pc := 2) (i := 0) dL_book_2 rfl rfl ?_
  refine s_iload_n (pc := 3) (i := 1) dL_book_3 rfl rfl ?_
  refine m_w1 (y' := mX11_book) (pc := 4) (hk := hkA 12) dL_book_4 ml_L_21 ok_X11_book (rcO o_1 (by decide) rfl) (hc_A (by decide)) rfl (Rn_mono (fun o σ h => ?_) hc)
  rcases o with (_ | v) | kx
  · exact absurd h id
  · cases v with
    | long _ => exact absurd h id
    | float _ => exact absurd h id
    | double _ => exact absurd h id
    | ref _ => exact absurd h id
    | null => exact absurd h id
    | retAddr _ => exact absurd h id
    | int v =>
      obtain ⟨I', J', n', w', rfl, hq⟩ := h
      show Rn g (d + 1) mL_book 7 [.ref 1, .int x1, .ref 560, .retAddr 0] [] [.int v, .int 0, .ref 560] (Z I' J' n' w') Q
      refine s_i2l (pc := 7) dL_book_7 ?_
      refine m_ls (pc := 8) dL_book_8 a_560 (vp_in_nI (n := 0) (by omega) (by decide)) ?_
      refine s_goto (pc := 9) (tgt := 15) dL_book_9 rfl ?_
      refine m_ic (pc := 15) (v := 0) dL_book_15 rfl ?_
      refine s_ireturn (pc := 16) dL_book_16 rfl rfl ?_
      exact hq
  · obtain ⟨c, hcd, hq⟩ := h
    unfold cdA at hcd
    by_cases h0 : kx = 1
    · subst h0; cases hcd
      refine ⟨12, rfl, fun a => ?_⟩
      refine s_astore_n (pc := 12) (i := 3) dL_book_12 rfl (Nat.le_of_ble_eq_true rfl) ?_
      refine m_ic (pc := 13) (v := 1) dL_book_13 rfl ?_
      refine s_ireturn (pc := 14) dL_book_14 rfl rfl ?_
      exact hq
    · rw [if_neg h0] at hcd; cases hcd
theorem c_L_told (hN : aNx g) {x1 : Int32} (hc : Cn g d mX11_told [.ref 1, .int x1] (Z I J n w) (Hi cdA Q)) : Cn g (d + 1) mL_told [.ref 1, .int x1, .ref 560] (Z I J n w) Q := by
  show Rn g (d + 1) mL_told 0 [.ref 1, .int x1, .ref 560, .retAddr 0] [] [] (Z I J n w) Q
  refine s_aload_n (pc := 0) (i := 2) dL_told_0 rfl rfl ?_
  refine m_ic (pc := 1) (v := 0) dL_told_1 rfl ?_
  refine s_aload_n (pc := 2) (i := 0) dL_told_2 rfl rfl ?_
  refine s_iload_n (pc := 3) (i := 1) dL_told_3 rfl rfl ?_
  refine m_w1 (y' := mX11_told) (pc := 4) (hk := hkA 12) dL_told_4 ml_L_24 ok_X11_told (rcO o_1 (by decide) rfl) (hc_A (by decide)) rfl (Rn_mono (fun o σ h => ?_) hc)
  rcases o with (_ | v) | kx
  · exact absurd h id
  · cases v with
    | long _ => exact absurd h id
    | float _ => exact absurd h id
    | double _ => exact absurd h id
    | ref _ => exact absurd h id
    | null => exact absurd h id
    | retAddr _ => exact absurd h id
    | int v =>
      obtain ⟨I', J', n', w', rfl, hq⟩ := h
      show Rn g (d + 1) mL_told 7 [.ref 1, .int x1, .ref 560, .retAddr 0] [] [.int v, .int 0, .ref 560] (Z I' J' n' w') Q
      refine s_i2l (pc := 7) dL_told_7 ?_
      refine m_ls (pc := 8) dL_told_8 a_560 (vp_in_nI (n := 0) (by omega) (by decide)) ?_
      refine s_goto (pc := 9) (tgt := 15) dL_told_9 rfl ?_
      refine m_ic (pc := 15) (v := 0) dL_told_15 rfl ?_
      refine s_ireturn (pc := 16) dL_told_16 rfl rfl ?_
      exact hq
  · obtain ⟨c, hcd, hq⟩ := h
    unfold cdA at hcd
    by_cases h0 : kx = 1
    · subst h0; cases hcd
      refine ⟨12, rfl, fun a => ?_⟩
      refine s_astore_n (pc := 12) (i := 3) dL_told_12 rfl (Nat.le_of_ble_eq_true rfl) ?_
      refine m_ic (pc := 13) (v := 1) dL_told_13 rfl ?_
      refine s_ireturn (pc := 14) dL_told_14 rfl rfl ?_
      exact hq
    · rw [if_neg h0] at hcd; cases hcd
theorem c_L_back (hN : aNx g) {x1 x2 : Int32} (hc : Cn g d mX11_back [.ref 1, .int x1, .int x2] (Z I J n w) (Hi cdB Q)) : Cn g (d + 1) mL_back [.ref 1, .int x1, .int x2, .ref 560] (Z I J n w) Q := by
  show Rn g (d + 1) mL_back 0 [.ref 1, .int x1, .int x2, .ref 560, .retAddr 0] [] [] (Z I J n w) Q
  refine s_aload_n (pc := 0) (i := 3) dL_back_0 rfl rfl ?_
  refine m_ic (pc := 1) (v := 0) dL_back_1 rfl ?_
  refine s_aload_n (pc := 2) (i := 0) dL_back_2 rfl rfl ?_
  refine s_iload_n (pc := 3) (i := 1) dL_back_3 rfl rfl ?_
  refine s_iload_n (pc := 4) (i := 2) dL_back_4 rfl rfl ?_
  refine m_w2 (y' := mX11_back) (pc := 5) (hk := hkB 13 17) dL_back_5 ml_L_27 ok_X11_back (rcO o_1 (by decide) rfl) (hc_B hN (by decide)) rfl (Rn_mono (fun o σ h => ?_) hc)
  rcases o with (_ | v) | kx
  · exact absurd h id
  · cases v with
    | long _ => exact absurd h id
    | float _ => exact absurd h id
    | double _ => exact absurd h id
    | ref _ => exact absurd h id
    | null => exact absurd h id
    | retAddr _ => exact absurd h id
    | int v =>
      obtain ⟨I', J', n', w', rfl, hq⟩ := h
      show Rn g (d + 1) mL_back 8 [.ref 1, .int x1, .int x2, .ref 560, .retAddr 0] [] [.int v, .int 0, .ref 560] (Z I' J' n' w') Q
      refine s_i2l (pc := 8) dL_back_8 ?_
      refine m_ls (pc := 9) dL_back_9 a_560 (vp_in_nI (n := 0) (by omega) (by decide)) ?_
      refine s_goto (pc := 10) (tgt := 21) dL_back_10 rfl ?_
      refine m_ic (pc := 21) (v := 0) dL_back_21 rfl ?_
      refine s_ireturn (pc := 22) dL_back_22 rfl rfl ?_
      exact hq
  · obtain ⟨c, hcd, hq⟩ := h
    unfold cdB at hcd
    by_cases h0 : kx = 0
    · subst h0; cases hcd
      refine ⟨13, rfl, fun a => ?_⟩
      refine s_astore (pc := 13) (i := 4) dL_back_13 (Nat.le_of_ble_eq_true rfl) ?_
      refine m_ic (pc := 15) (v := 1) dL_back_15 rfl ?_
      refine s_ireturn (pc := 16) dL_back_16 rfl rfl ?_
      exact hq
    · rw [if_neg h0] at hcd
      by_cases h1 : kx = 1
      · subst h1; cases hcd
        refine ⟨17, rfl, fun a => ?_⟩
        refine s_astore (pc := 17) (i := 4) dL_back_17 (Nat.le_of_ble_eq_true rfl) ?_
        refine m_ic (pc := 19) (v := 2) dL_back_19 rfl ?_
        refine s_ireturn (pc := 20) dL_back_20 rfl rfl ?_
        exact hq
      · rw [if_neg h1] at hcd; cases hcd
theorem c_L_council (hN : aNx g) {x1 x2 : Int32} (hc : Cn g d mX11_council [.ref 1, .int x1, .int x2] (Z I J n w) (Hi cdB Q)) : Cn g (d + 1) mL_council [.ref 1, .int x1, .int x2, .ref 560] (Z I J n w) Q := by
  show Rn g (d + 1) mL_council 0 [.ref 1, .int x1, .int x2, .ref 560, .retAddr 0] [] [] (Z I J n w) Q
  refine s_aload_n (pc := 0) (i := 3) dL_council_0 rfl rfl ?_
  refine m_ic (pc := 1) (v := 0) dL_council_1 rfl ?_
  refine s_aload_n (pc := 2) (i := 0) dL_council_2 rfl rfl ?_
  refine s_iload_n (pc := 3) (i := 1) dL_council_3 rfl rfl ?_
  refine s_iload_n (pc := 4) (i := 2) dL_council_4 rfl rfl ?_
  refine m_w2 (y' := mX11_council) (pc := 5) (hk := hkB 13 17) dL_council_5 ml_L_33 ok_X11_council (rcO o_1 (by decide) rfl) (hc_B hN (by decide)) rfl (Rn_mono (fun o σ h => ?_) hc)
  rcases o with (_ | v) | kx
  · exact absurd h id
  · cases v with
    | long _ => exact absurd h id
    | float _ => exact absurd h id
    | double _ => exact absurd h id
    | ref _ => exact absurd h id
    | null => exact absurd h id
    | retAddr _ => exact absurd h id
    | int v =>
      obtain ⟨I', J', n', w', rfl, hq⟩ := h
      show Rn g (d + 1) mL_council 8 [.ref 1, .int x1, .int x2, .ref 560, .retAddr 0] [] [.int v, .int 0, .ref 560] (Z I' J' n' w') Q
      refine s_i2l (pc := 8) dL_council_8 ?_
      refine m_ls (pc := 9) dL_council_9 a_560 (vp_in_nI (n := 0) (by omega) (by decide)) ?_
      refine s_goto (pc := 10) (tgt := 21) dL_council_10 rfl ?_
      refine m_ic (pc := 21) (v := 0) dL_council_21 rfl ?_
      refine s_ireturn (pc := 22) dL_council_22 rfl rfl ?_
      exact hq
  · obtain ⟨c, hcd, hq⟩ := h
    unfold cdB at hcd
    by_cases h0 : kx = 0
    · subst h0; cases hcd
      refine ⟨13, rfl, fun a => ?_⟩
      refine s_astore (pc := 13) (i := 4) dL_council_13 (Nat.le_of_ble_eq_true rfl) ?_
      refine m_ic (pc := 15) (v := 1) dL_council_15 rfl ?_
      refine s_ireturn (pc := 16) dL_council_16 rfl rfl ?_
      exact hq
    · rw [if_neg h0] at hcd
      by_cases h1 : kx = 1
      · subst h1; cases hcd
        refine ⟨17, rfl, fun a => ?_⟩
        refine s_astore (pc := 17) (i := 4) dL_council_17 (Nat.le_of_ble_eq_true rfl) ?_
        refine m_ic (pc := 19) (v := 2) dL_council_19 rfl ?_
        refine s_ireturn (pc := 20) dL_council_20 rfl rfl ?_
        exact hq
      · rw [if_neg h1] at hcd; cases hcd
theorem c_L_hearing (hN : aNx g) {x1 x2 : Int32} (hc : Cn g d mX11_hearing [.ref 1, .int x1, .int x2] (Z I J n w) (Hi cdE Q)) : Cn g (d + 1) mL_hearing [.ref 1, .int x1, .int x2, .ref 560] (Z I J n w) Q := by
  show Rn g (d + 1) mL_hearing 0 [.ref 1, .int x1, .int x2, .ref 560, .retAddr 0] [] [] (Z I J n w) Q
  refine s_aload_n (pc := 0) (i := 3) dL_hearing_0 rfl rfl ?_
  refine m_ic (pc := 1) (v := 0) dL_hearing_1 rfl ?_
  refine s_aload_n (pc := 2) (i := 0) dL_hearing_2 rfl rfl ?_
  refine s_iload_n (pc := 3) (i := 1) dL_hearing_3 rfl rfl ?_
  refine s_iload_n (pc := 4) (i := 2) dL_hearing_4 rfl rfl ?_
  refine m_w2 (y' := mX11_hearing) (pc := 5) (hk := hkE 13) dL_hearing_5 ml_L_36 ok_X11_hearing (rcO o_1 (by decide) rfl) (hc_E (by decide)) rfl (Rn_mono (fun o σ h => ?_) hc)
  rcases o with (_ | v) | kx
  · exact absurd h id
  · cases v with
    | long _ => exact absurd h id
    | float _ => exact absurd h id
    | double _ => exact absurd h id
    | ref _ => exact absurd h id
    | null => exact absurd h id
    | retAddr _ => exact absurd h id
    | int v =>
      obtain ⟨I', J', n', w', rfl, hq⟩ := h
      show Rn g (d + 1) mL_hearing 8 [.ref 1, .int x1, .int x2, .ref 560, .retAddr 0] [] [.int v, .int 0, .ref 560] (Z I' J' n' w') Q
      refine s_i2l (pc := 8) dL_hearing_8 ?_
      refine m_ls (pc := 9) dL_hearing_9 a_560 (vp_in_nI (n := 0) (by omega) (by decide)) ?_
      refine s_goto (pc := 10) (tgt := 17) dL_hearing_10 rfl ?_
      refine m_ic (pc := 17) (v := 0) dL_hearing_17 rfl ?_
      refine s_ireturn (pc := 18) dL_hearing_18 rfl rfl ?_
      exact hq
  · obtain ⟨c, hcd, hq⟩ := h
    unfold cdE at hcd
    by_cases h0 : kx = 0
    · subst h0; cases hcd
      refine ⟨13, rfl, fun a => ?_⟩
      refine s_astore (pc := 13) (i := 4) dL_hearing_13 (Nat.le_of_ble_eq_true rfl) ?_
      refine m_ic (pc := 15) (v := 1) dL_hearing_15 rfl ?_
      refine s_ireturn (pc := 16) dL_hearing_16 rfl rfl ?_
      exact hq
    · rw [if_neg h0] at hcd; cases hcd
theorem c_L_load (hN : aNx g) {x1 x2 : Int32} (hc : Cn g d mX11_load [.ref 1, .int x1, .int x2] (Z I J n w) (Hi cdE Q)) : Cn g (d + 1) mL_load [.ref 1, .int x1, .int x2, .ref 560] (Z I J n w) Q := by
  show Rn g (d + 1) mL_load 0 [.ref 1, .int x1, .int x2, .ref 560, .retAddr 0] [] [] (Z I J n w) Q
  refine s_aload_n (pc := 0) (i := 3) dL_load_0 rfl rfl ?_
  refine m_ic (pc := 1) (v := 0) dL_load_1 rfl ?_
  refine s_aload_n (pc := 2) (i := 0) dL_load_2 rfl rfl ?_
  refine s_iload_n (pc := 3) (i := 1) dL_load_3 rfl rfl ?_
  refine s_iload_n (pc := 4) (i := 2) dL_load_4 rfl rfl ?_
  refine m_w2 (y' := mX11_load) (pc := 5) (hk := hkE 13) dL_load_5 ml_L_39 ok_X11_load (rcO o_1 (by decide) rfl) (hc_E (by decide)) rfl (Rn_mono (fun o σ h => ?_) hc)
  rcases o with (_ | v) | kx
  · exact absurd h id
  · cases v with
    | long _ => exact absurd h id
    | float _ => exact absurd h id
    | double _ => exact absurd h id
    | ref _ => exact absurd h id
    | null => exact absurd h id
    | retAddr _ => exact absurd h id
    | int v =>
      obtain ⟨I', J', n', w', rfl, hq⟩ := h
      show Rn g (d + 1) mL_load 8 [.ref 1, .int x1, .int x2, .ref 560, .retAddr 0] [] [.int v, .int 0, .ref 560] (Z I' J' n' w') Q
      refine s_i2l (pc := 8) dL_load_8 ?_
      refine m_ls (pc := 9) dL_load_9 a_560 (vp_in_nI (n := 0) (by omega) (by decide)) ?_
      refine s_goto (pc := 10) (tgt := 17) dL_load_10 rfl ?_
      refine m_ic (pc := 17) (v := 0) dL_load_17 rfl ?_
      refine s_ireturn (pc := 18) dL_load_18 rfl rfl ?_
      exact hq
  · obtain ⟨c, hcd, hq⟩ := h
    unfold cdE at hcd
    by_cases h0 : kx = 0
    · subst h0; cases hcd
      refine ⟨13, rfl, fun a => ?_⟩
      refine s_astore (pc := 13) (i := 4) dL_load_13 (Nat.le_of_ble_eq_true rfl) ?_
      refine m_ic (pc := 15) (v := 1) dL_load_15 rfl ?_
      refine s_ireturn (pc := 16) dL_load_16 rfl rfl ?_
      exact hq
    · rw [if_neg h0] at hcd; cases hcd
theorem c_L_burden (hN : aNx g) {x1 x2 : Int32} (hc : Cn g d mX11_burden [.ref 1, .int x1, .int x2] (Z I J n w) (Hi cdE Q)) : Cn g (d + 1) mL_burden [.ref 1, .int x1, .int x2, .ref 560] (Z I J n w) Q := by
  show Rn g (d + 1) mL_burden 0 [.ref 1, .int x1, .int x2, .ref 560, .retAddr 0] [] [] (Z I J n w) Q
  refine s_aload_n (pc := 0) (i := 3) dL_burden_0 rfl rfl ?_
  refine m_ic (pc := 1) (v := 0) dL_burden_1 rfl ?_
  refine s_aload_n (pc := 2) (i := 0) dL_burden_2 rfl rfl ?_
  refine s_iload_n (pc := 3) (i := 1) dL_burden_3 rfl rfl ?_
  refine s_iload_n (pc := 4) (i := 2) dL_burden_4 rfl rfl ?_
  refine m_w2 (y' := mX11_burden) (pc := 5) (hk := hkE 13) dL_burden_5 ml_L_42 ok_X11_burden (rcO o_1 (by decide) rfl) (hc_E (by decide)) rfl (Rn_mono (fun o σ h => ?_) hc)
  rcases o with (_ | v) | kx
  · exact absurd h id
  · cases v with
    | long _ => exact absurd h id
    | float _ => exact absurd h id
    | double _ => exact absurd h id
    | ref _ => exact absurd h id
    | null => exact absurd h id
    | retAddr _ => exact absurd h id
    | int v =>
      obtain ⟨I', J', n', w', rfl, hq⟩ := h
      show Rn g (d + 1) mL_burden 8 [.ref 1, .int x1, .int x2, .ref 560, .retAddr 0] [] [.int v, .int 0, .ref 560] (Z I' J' n' w') Q
      refine s_i2l (pc := 8) dL_burden_8 ?_
      refine m_ls (pc := 9) dL_burden_9 a_560 (vp_in_nI (n := 0) (by omega) (by decide)) ?_
      refine s_goto (pc := 10) (tgt := 17) dL_burden_10 rfl ?_
      refine m_ic (pc := 17) (v := 0) dL_burden_17 rfl ?_
      refine s_ireturn (pc := 18) dL_burden_18 rfl rfl ?_
      exact hq
  · obtain ⟨c, hcd, hq⟩ := h
    unfold cdE at hcd
    by_cases h0 : kx = 0
    · subst h0; cases hcd
      refine ⟨13, rfl, fun a => ?_⟩
      refine s_astore (pc := 13) (i := 4) dL_burden_13 (Nat.le_of_ble_eq_true rfl) ?_
      refine m_ic (pc := 15) (v := 1) dL_burden_15 rfl ?_
      refine s_ireturn (pc := 16) dL_burden_16 rfl rfl ?_
      exact hq
    · rw [if_neg h0] at hcd; cases hcd
theorem c_L_would (hN : aNx g) {x1 x2 x3 x4 x5 x6 x7 x8 x9 : Int32} (hc : Cn g d mX11_would [.ref 1, .int x1, .int x2, .int x3, .int x4, .int x5, .int x6, .int x7, .int x8, .int x9] (Z I J n w) (Hi cdA Q)) : Cn g (d + 1) mL_would [.ref 1, .int x1, .int x2, .int x3, .int x4, .int x5, .int x6, .int x7, .int x8, .int x9, .ref 560] (Z I J n w) Q := by
  show Rn g (d + 1) mL_would 0 [.ref 1, .int x1, .int x2, .int x3, .int x4, .int x5, .int x6, .int x7, .int x8, .int x9, .ref 560, .retAddr 0] [] [] (Z I J n w) Q
  refine s_aload (pc := 0) (i := 10) dL_would_0 rfl ?_
  refine m_ic (pc := 2) (v := 0) dL_would_2 rfl ?_
  refine s_aload_n (pc := 3) (i := 0) dL_would_3 rfl rfl ?_
  refine s_iload_n (pc := 4) (i := 1) dL_would_4 rfl rfl ?_
  refine s_iload_n (pc := 5) (i := 2) dL_would_5 rfl rfl ?_
  refine s_iload_n (pc := 6) (i := 3) dL_would_6 rfl rfl ?_
  refine s_iload (pc := 7) (i := 4) dL_would_7 rfl ?_
  refine s_iload (pc := 9) (i := 5) dL_would_9 rfl ?_
  refine s_iload (pc := 11) (i := 6) dL_would_11 rfl ?_
  refine s_iload (pc := 13) (i := 7) dL_would_13 rfl ?_
  refine s_iload (pc := 15) (i := 8) dL_would_15 rfl ?_
  refine s_iload (pc := 17) (i := 9) dL_would_17 rfl ?_
  refine m_w9 (y' := mX11_would) (pc := 19) (hk := hkA 27) dL_would_19 ml_L_45 ok_X11_would (rcO o_1 (by decide) rfl) (hc_A (by decide)) rfl (Rn_mono (fun o σ h => ?_) hc)
  rcases o with (_ | v) | kx
  · exact absurd h id
  · cases v with
    | long _ => exact absurd h id
    | float _ => exact absurd h id
    | double _ => exact absurd h id
    | ref _ => exact absurd h id
    | null => exact absurd h id
    | retAddr _ => exact absurd h id
    | int v =>
      obtain ⟨I', J', n', w', rfl, hq⟩ := h
      show Rn g (d + 1) mL_would 22 [.ref 1, .int x1, .int x2, .int x3, .int x4, .int x5, .int x6, .int x7, .int x8, .int x9, .ref 560, .retAddr 0] [] [.int v, .int 0, .ref 560] (Z I' J' n' w') Q
      refine s_i2l (pc := 22) dL_would_22 ?_
      refine m_ls (pc := 23) dL_would_23 a_560 (vp_in_nI (n := 0) (by omega) (by decide)) ?_
      refine s_goto (pc := 24) (tgt := 31) dL_would_24 rfl ?_
      refine m_ic (pc := 31) (v := 0) dL_would_31 rfl ?_
      refine s_ireturn (pc := 32) dL_would_32 rfl rfl ?_
      exact hq
  · obtain ⟨c, hcd, hq⟩ := h
    unfold cdA at hcd
    by_cases h0 : kx = 1
    · subst h0; cases hcd
      refine ⟨27, rfl, fun a => ?_⟩
      refine s_astore (pc := 27) (i := 11) dL_would_27 (Nat.le_of_ble_eq_true rfl) ?_
      refine m_ic (pc := 29) (v := 1) dL_would_29 rfl ?_
      refine s_ireturn (pc := 30) dL_would_30 rfl rfl ?_
      exact hq
    · rw [if_neg h0] at hcd; cases hcd
theorem c_L_ahead (hN : aNx g) {x1 x2 : Int32} (hc : Cn g d mX11_ahead [.ref 1, .int x1, .int x2] (Z I J n w) (Hi cdA Q)) : Cn g (d + 1) mL_ahead [.ref 1, .int x1, .int x2, .ref 560] (Z I J n w) Q := by
  show Rn g (d + 1) mL_ahead 0 [.ref 1, .int x1, .int x2, .ref 560, .retAddr 0] [] [] (Z I J n w) Q
  refine s_aload_n (pc := 0) (i := 3) dL_ahead_0 rfl rfl ?_
  refine m_ic (pc := 1) (v := 0) dL_ahead_1 rfl ?_
  refine s_aload_n (pc := 2) (i := 0) dL_ahead_2 rfl rfl ?_
  refine s_iload_n (pc := 3) (i := 1) dL_ahead_3 rfl rfl ?_
  refine s_iload_n (pc := 4) (i := 2) dL_ahead_4 rfl rfl ?_
  refine m_w2 (y' := mX11_ahead) (pc := 5) (hk := hkA 13) dL_ahead_5 ml_L_49 ok_X11_ahead (rcO o_1 (by decide) rfl) (hc_A (by decide)) rfl (Rn_mono (fun o σ h => ?_) hc)
  rcases o with (_ | v) | kx
  · exact absurd h id
  · cases v with
    | long _ => exact absurd h id
    | float _ => exact absurd h id
    | double _ => exact absurd h id
    | ref _ => exact absurd h id
    | null => exact absurd h id
    | retAddr _ => exact absurd h id
    | int v =>
      obtain ⟨I', J', n', w', rfl, hq⟩ := h
      show Rn g (d + 1) mL_ahead 8 [.ref 1, .int x1, .int x2, .ref 560, .retAddr 0] [] [.int v, .int 0, .ref 560] (Z I' J' n' w') Q
      refine s_i2l (pc := 8) dL_ahead_8 ?_
      refine m_ls (pc := 9) dL_ahead_9 a_560 (vp_in_nI (n := 0) (by omega) (by decide)) ?_
      refine s_goto (pc := 10) (tgt := 17) dL_ahead_10 rfl ?_
      refine m_ic (pc := 17) (v := 0) dL_ahead_17 rfl ?_
      refine s_ireturn (pc := 18) dL_ahead_18 rfl rfl ?_
      exact hq
  · obtain ⟨c, hcd, hq⟩ := h
    unfold cdA at hcd
    by_cases h0 : kx = 1
    · subst h0; cases hcd
      refine ⟨13, rfl, fun a => ?_⟩
      refine s_astore (pc := 13) (i := 4) dL_ahead_13 (Nat.le_of_ble_eq_true rfl) ?_
      refine m_ic (pc := 15) (v := 1) dL_ahead_15 rfl ?_
      refine s_ireturn (pc := 16) dL_ahead_16 rfl rfl ?_
      exact hq
    · rw [if_neg h0] at hcd; cases hcd
theorem c_L_could (hN : aNx g) {x1 : Int32} (hc : Cn g d mX11_could [.ref 1, .int x1] (Z I J n w) (Hi cdE Q)) : Cn g (d + 1) mL_could [.ref 1, .int x1, .ref 560] (Z I J n w) Q := by
  show Rn g (d + 1) mL_could 0 [.ref 1, .int x1, .ref 560, .retAddr 0] [] [] (Z I J n w) Q
  refine s_aload_n (pc := 0) (i := 2) dL_could_0 rfl rfl ?_
  refine m_ic (pc := 1) (v := 0) dL_could_1 rfl ?_
  refine s_aload_n (pc := 2) (i := 0) dL_could_2 rfl rfl ?_
  refine s_iload_n (pc := 3) (i := 1) dL_could_3 rfl rfl ?_
  refine m_w1 (y' := mX11_could) (pc := 4) (hk := hkE 12) dL_could_4 ml_L_52 ok_X11_could (rcO o_1 (by decide) rfl) (hc_E (by decide)) rfl (Rn_mono (fun o σ h => ?_) hc)
  rcases o with (_ | v) | kx
  · exact absurd h id
  · cases v with
    | long _ => exact absurd h id
    | float _ => exact absurd h id
    | double _ => exact absurd h id
    | ref _ => exact absurd h id
    | null => exact absurd h id
    | retAddr _ => exact absurd h id
    | int v =>
      obtain ⟨I', J', n', w', rfl, hq⟩ := h
      show Rn g (d + 1) mL_could 7 [.ref 1, .int x1, .ref 560, .retAddr 0] [] [.int v, .int 0, .ref 560] (Z I' J' n' w') Q
      refine s_i2l (pc := 7) dL_could_7 ?_
      refine m_ls (pc := 8) dL_could_8 a_560 (vp_in_nI (n := 0) (by omega) (by decide)) ?_
      refine s_goto (pc := 9) (tgt := 15) dL_could_9 rfl ?_
      refine m_ic (pc := 15) (v := 0) dL_could_15 rfl ?_
      refine s_ireturn (pc := 16) dL_could_16 rfl rfl ?_
      exact hq
  · obtain ⟨c, hcd, hq⟩ := h
    unfold cdE at hcd
    by_cases h0 : kx = 0
    · subst h0; cases hcd
      refine ⟨12, rfl, fun a => ?_⟩
      refine s_astore_n (pc := 12) (i := 3) dL_could_12 rfl (Nat.le_of_ble_eq_true rfl) ?_
      refine m_ic (pc := 13) (v := 1) dL_could_13 rfl ?_
      refine s_ireturn (pc := 14) dL_could_14 rfl rfl ?_
      exact hq
    · rw [if_neg h0] at hcd; cases hcd
theorem c_L_roster (hN : aNx g) {x1 : Int32} (hc : Cn g d mX11_roster [.ref 1, .int x1] (Z I J n w) (Hi cdA Q)) : Cn g (d + 1) mL_roster [.ref 1, .int x1, .ref 560] (Z I J n w) Q := by
  show Rn g (d + 1) mL_roster 0 [.ref 1, .int x1, .ref 560, .retAddr 0] [] [] (Z I J n w) Q
  refine s_aload_n (pc := 0) (i := 2) dL_roster_0 rfl rfl ?_
  refine m_ic (pc := 1) (v := 0) dL_roster_1 rfl ?_
  refine s_aload_n (pc := 2) (i := 0) dL_roster_2 rfl rfl ?_
  refine s_iload_n (pc := 3) (i := 1) dL_roster_3 rfl rfl ?_
  refine m_w1 (y' := mX11_roster) (pc := 4) (hk := hkA 12) dL_roster_4 ml_L_55 ok_X11_roster (rcO o_1 (by decide) rfl) (hc_A (by decide)) rfl (Rn_mono (fun o σ h => ?_) hc)
  rcases o with (_ | v) | kx
  · exact absurd h id
  · cases v with
    | long _ => exact absurd h id
    | float _ => exact absurd h id
    | double _ => exact absurd h id
    | ref _ => exact absurd h id
    | null => exact absurd h id
    | retAddr _ => exact absurd h id
    | int v =>
      obtain ⟨I', J', n', w', rfl, hq⟩ := h
      show Rn g (d + 1) mL_roster 7 [.ref 1, .int x1, .ref 560, .retAddr 0] [] [.int v, .int 0, .ref 560] (Z I' J' n' w') Q
      refine s_i2l (pc := 7) dL_roster_7 ?_
      refine m_ls (pc := 8) dL_roster_8 a_560 (vp_in_nI (n := 0) (by omega) (by decide)) ?_
      refine s_goto (pc := 9) (tgt := 15) dL_roster_9 rfl ?_
      refine m_ic (pc := 15) (v := 0) dL_roster_15 rfl ?_
      refine s_ireturn (pc := 16) dL_roster_16 rfl rfl ?_
      exact hq
  · obtain ⟨c, hcd, hq⟩ := h
    unfold cdA at hcd
    by_cases h0 : kx = 1
    · subst h0; cases hcd
      refine ⟨12, rfl, fun a => ?_⟩
      refine s_astore_n (pc := 12) (i := 3) dL_roster_12 rfl (Nat.le_of_ble_eq_true rfl) ?_
      refine m_ic (pc := 13) (v := 1) dL_roster_13 rfl ?_
      refine s_ireturn (pc := 14) dL_roster_14 rfl rfl ?_
      exact hq
    · rw [if_neg h0] at hcd; cases hcd
theorem c_L_gives (hN : aNx g) {x1 x2 : Int32} (hc : Cn g d mX11_gives [.ref 1, .int x1, .int x2] (Z I J n w) (Hi cdB Q)) : Cn g (d + 1) mL_gives [.ref 1, .int x1, .int x2, .ref 560] (Z I J n w) Q := by
  show Rn g (d + 1) mL_gives 0 [.ref 1, .int x1, .int x2, .ref 560, .retAddr 0] [] [] (Z I J n w) Q
  refine s_aload_n (pc := 0) (i := 3) dL_gives_0 rfl rfl ?_
  refine m_ic (pc := 1) (v := 0) dL_gives_1 rfl ?_
  refine s_aload_n (pc := 2) (i := 0) dL_gives_2 rfl rfl ?_
  refine s_iload_n (pc := 3) (i := 1) dL_gives_3 rfl rfl ?_
  refine s_iload_n (pc := 4) (i := 2) dL_gives_4 rfl rfl ?_
  refine m_w2 (y' := mX11_gives) (pc := 5) (hk := hkB 13 17) dL_gives_5 ml_L_58 ok_X11_gives (rcO o_1 (by decide) rfl) (hc_B hN (by decide)) rfl (Rn_mono (fun o σ h => ?_) hc)
  rcases o with (_ | v) | kx
  · exact absurd h id
  · cases v with
    | long _ => exact absurd h id
    | float _ => exact absurd h id
    | double _ => exact absurd h id
    | ref _ => exact absurd h id
    | null => exact absurd h id
    | retAddr _ => exact absurd h id
    | int v =>
      obtain ⟨I', J', n', w', rfl, hq⟩ := h
      show Rn g (d + 1) mL_gives 8 [.ref 1, .int x1, .int x2, .ref 560, .retAddr 0] [] [.int v, .int 0, .ref 560] (Z I' J' n' w') Q
      refine s_i2l (pc := 8) dL_gives_8 ?_
      refine m_ls (pc := 9) dL_gives_9 a_560 (vp_in_nI (n := 0) (by omega) (by decide)) ?_
      refine s_goto (pc := 10) (tgt := 21) dL_gives_10 rfl ?_
      refine m_ic (pc := 21) (v := 0) dL_gives_21 rfl ?_
      refine s_ireturn (pc := 22) dL_gives_22 rfl rfl ?_
      exact hq
  · obtain ⟨c, hcd, hq⟩ := h
    unfold cdB at hcd
    by_cases h0 : kx = 0
    · subst h0; cases hcd
      refine ⟨13, rfl, fun a => ?_⟩
      refine s_astore (pc := 13) (i := 4) dL_gives_13 (Nat.le_of_ble_eq_true rfl) ?_
      refine m_ic (pc := 15) (v := 1) dL_gives_15 rfl ?_
      refine s_ireturn (pc := 16) dL_gives_16 rfl rfl ?_
      exact hq
    · rw [if_neg h0] at hcd
      by_cases h1 : kx = 1
      · subst h1; cases hcd
        refine ⟨17, rfl, fun a => ?_⟩
        refine s_astore (pc := 17) (i := 4) dL_gives_17 (Nat.le_of_ble_eq_true rfl) ?_
        refine m_ic (pc := 19) (v := 2) dL_gives_19 rfl ?_
        refine s_ireturn (pc := 20) dL_gives_20 rfl rfl ?_
        exact hq
      · rw [if_neg h1] at hcd; cases hcd
theorem c_L_word (hN : aNx g) {x1 : Int32} (hc : Cn g d mX11_word [.ref 1, .int x1] (Z I J n w) (Hi cdE Q)) : Cn g (d + 1) mL_word [.ref 1, .int x1, .ref 560] (Z I J n w) Q := by
  show Rn g (d + 1) mL_word 0 [.ref 1, .int x1, .ref 560, .retAddr 0] [] [] (Z I J n w) Q
  refine s_aload_n (pc := 0) (i := 2) dL_word_0 rfl rfl ?_
  refine m_ic (pc := 1) (v := 0) dL_word_1 rfl ?_
  refine s_aload_n (pc := 2) (i := 0) dL_word_2 rfl rfl ?_
  refine s_iload_n (pc := 3) (i := 1) dL_word_3 rfl rfl ?_
  refine m_w1 (y' := mX11_word) (pc := 4) (hk := hkE 12) dL_word_4 ml_L_61 ok_X11_word (rcO o_1 (by decide) rfl) (hc_E (by decide)) rfl (Rn_mono (fun o σ h => ?_) hc)
  rcases o with (_ | v) | kx
  · exact absurd h id
  · cases v with
    | long _ => exact absurd h id
    | float _ => exact absurd h id
    | double _ => exact absurd h id
    | ref _ => exact absurd h id
    | null => exact absurd h id
    | retAddr _ => exact absurd h id
    | int v =>
      obtain ⟨I', J', n', w', rfl, hq⟩ := h
      show Rn g (d + 1) mL_word 7 [.ref 1, .int x1, .ref 560, .retAddr 0] [] [.int v, .int 0, .ref 560] (Z I' J' n' w') Q
      refine s_i2l (pc := 7) dL_word_7 ?_
      refine m_ls (pc := 8) dL_word_8 a_560 (vp_in_nI (n := 0) (by omega) (by decide)) ?_
      refine s_goto (pc := 9) (tgt := 15) dL_word_9 rfl ?_
      refine m_ic (pc := 15) (v := 0) dL_word_15 rfl ?_
      refine s_ireturn (pc := 16) dL_word_16 rfl rfl ?_
      exact hq
  · obtain ⟨c, hcd, hq⟩ := h
    unfold cdE at hcd
    by_cases h0 : kx = 0
    · subst h0; cases hcd
      refine ⟨12, rfl, fun a => ?_⟩
      refine s_astore_n (pc := 12) (i := 3) dL_word_12 rfl (Nat.le_of_ble_eq_true rfl) ?_
      refine m_ic (pc := 13) (v := 1) dL_word_13 rfl ?_
      refine s_ireturn (pc := 14) dL_word_14 rfl rfl ?_
      exact hq
    · rw [if_neg h0] at hcd; cases hcd
theorem c_L_ease (hN : aNx g) {x1 x2 : Int32} (hc : Cn g d mX11_ease [.ref 1, .int x1, .int x2] (Z I J n w) (Hi cdA Q)) : Cn g (d + 1) mL_ease [.ref 1, .int x1, .int x2, .ref 560] (Z I J n w) Q := by
  show Rn g (d + 1) mL_ease 0 [.ref 1, .int x1, .int x2, .ref 560, .retAddr 0] [] [] (Z I J n w) Q
  refine s_aload_n (pc := 0) (i := 3) dL_ease_0 rfl rfl ?_
  refine m_ic (pc := 1) (v := 0) dL_ease_1 rfl ?_
  refine s_aload_n (pc := 2) (i := 0) dL_ease_2 rfl rfl ?_
  refine s_iload_n (pc := 3) (i := 1) dL_ease_3 rfl rfl ?_
  refine s_iload_n (pc := 4) (i := 2) dL_ease_4 rfl rfl ?_
  refine m_w2 (y' := mX11_ease) (pc := 5) (hk := hkA 13) dL_ease_5 ml_L_64 ok_X11_ease (rcO o_1 (by decide) rfl) (hc_A (by decide)) rfl (Rn_mono (fun o σ h => ?_) hc)
  rcases o with (_ | v) | kx
  · exact absurd h id
  · cases v with
    | long _ => exact absurd h id
    | float _ => exact absurd h id
    | double _ => exact absurd h id
    | ref _ => exact absurd h id
    | null => exact absurd h id
    | retAddr _ => exact absurd h id
    | int v =>
      obtain ⟨I', J', n', w', rfl, hq⟩ := h
      show Rn g (d + 1) mL_ease 8 [.ref 1, .int x1, .int x2, .ref 560, .retAddr 0] [] [.int v, .int 0, .ref 560] (Z I' J' n' w') Q
      refine s_i2l (pc := 8) dL_ease_8 ?_
      refine m_ls (pc := 9) dL_ease_9 a_560 (vp_in_nI (n := 0) (by omega) (by decide)) ?_
      refine s_goto (pc := 10) (tgt := 17) dL_ease_10 rfl ?_
      refine m_ic (pc := 17) (v := 0) dL_ease_17 rfl ?_
      refine s_ireturn (pc := 18) dL_ease_18 rfl rfl ?_
      exact hq
  · obtain ⟨c, hcd, hq⟩ := h
    unfold cdA at hcd
    by_cases h0 : kx = 1
    · subst h0; cases hcd
      refine ⟨13, rfl, fun a => ?_⟩
      refine s_astore (pc := 13) (i := 4) dL_ease_13 (Nat.le_of_ble_eq_true rfl) ?_
      refine m_ic (pc := 15) (v := 1) dL_ease_15 rfl ?_
      refine s_ireturn (pc := 16) dL_ease_16 rfl rfl ?_
      exact hq
    · rw [if_neg h0] at hcd; cases hcd
theorem c_L_fits (hN : aNx g) {x1 : Int32} (hc : Cn g d mX11_fits [.ref 1, .int x1] (Z I J n w) (Hi cdA Q)) : Cn g (d + 1) mL_fits [.ref 1, .int x1, .ref 560] (Z I J n w) Q := by
  show Rn g (d + 1) mL_fits 0 [.ref 1, .int x1, .ref 560, .retAddr 0] [] [] (Z I J n w) Q
  refine s_aload_n (pc := 0) (i := 2) dL_fits_0 rfl rfl ?_
  refine m_ic (pc := 1) (v := 0) dL_fits_1 rfl ?_
  refine s_aload_n (pc := 2) (i := 0) dL_fits_2 rfl rfl ?_
  refine s_iload_n (pc := 3) (i := 1) dL_fits_3 rfl rfl ?_
  refine m_w1 (y' := mX11_fits) (pc := 4) (hk := hkA 12) dL_fits_4 ml_L_67 ok_X11_fits (rcO o_1 (by decide) rfl) (hc_A (by decide)) rfl (Rn_mono (fun o σ h => ?_) hc)
  rcases o with (_ | v) | kx
  · exact absurd h id
  · cases v with
    | long _ => exact absurd h id
    | float _ => exact absurd h id
    | double _ => exact absurd h id
    | ref _ => exact absurd h id
    | null => exact absurd h id
    | retAddr _ => exact absurd h id
    | int v =>
      obtain ⟨I', J', n', w', rfl, hq⟩ := h
      show Rn g (d + 1) mL_fits 7 [.ref 1, .int x1, .ref 560, .retAddr 0] [] [.int v, .int 0, .ref 560] (Z I' J' n' w') Q
      refine s_i2l (pc := 7) dL_fits_7 ?_
      refine m_ls (pc := 8) dL_fits_8 a_560 (vp_in_nI (n := 0) (by omega) (by decide)) ?_
      refine s_goto (pc := 9) (tgt := 15) dL_fits_9 rfl ?_
      refine m_ic (pc := 15) (v := 0) dL_fits_15 rfl ?_
      refine s_ireturn (pc := 16) dL_fits_16 rfl rfl ?_
      exact hq
  · obtain ⟨c, hcd, hq⟩ := h
    unfold cdA at hcd
    by_cases h0 : kx = 1
    · subst h0; cases hcd
      refine ⟨12, rfl, fun a => ?_⟩
      refine s_astore_n (pc := 12) (i := 3) dL_fits_12 rfl (Nat.le_of_ble_eq_true rfl) ?_
      refine m_ic (pc := 13) (v := 1) dL_fits_13 rfl ?_
      refine s_ireturn (pc := 14) dL_fits_14 rfl rfl ?_
      exact hq
    · rw [if_neg h0] at hcd; cases hcd
theorem c_L_look (hN : aNx g) {x1 : Int32} (hc : Cn g d mX11_look [.ref 1, .int x1] (Z I J n w) (Hi cdA Q)) : Cn g (d + 1) mL_look [.ref 1, .int x1, .ref 560] (Z I J n w) Q := by
  show Rn g (d + 1) mL_look 0 [.ref 1, .int x1, .ref 560, .retAddr 0] [] [] (Z I J n w) Q
  refine s_aload_n (pc := 0) (i := 2) dL_look_0 rfl rfl ?_
  refine m_ic (pc := 1) (v := 0) dL_look_1 rfl ?_
  refine s_aload_n (pc := 2) (i := 0) dL_look_2 rfl rfl ?_
  refine s_iload_n (pc := 3) (i := 1) dL_look_3 rfl rfl ?_
  refine m_w1 (y' := mX11_look) (pc := 4) (hk := hkA 12) dL_look_4 ml_L_70 ok_X11_look (rcO o_1 (by decide) rfl) (hc_A (by decide)) rfl (Rn_mono (fun o σ h => ?_) hc)
  rcases o with (_ | v) | kx
  · exact absurd h id
  · cases v with
    | long _ => exact absurd h id
    | float _ => exact absurd h id
    | double _ => exact absurd h id
    | ref _ => exact absurd h id
    | null => exact absurd h id
    | retAddr _ => exact absurd h id
    | int v =>
      obtain ⟨I', J', n', w', rfl, hq⟩ := h
      show Rn g (d + 1) mL_look 7 [.ref 1, .int x1, .ref 560, .retAddr 0] [] [.int v, .int 0, .ref 560] (Z I' J' n' w') Q
      refine s_i2l (pc := 7) dL_look_7 ?_
      refine m_ls (pc := 8) dL_look_8 a_560 (vp_in_nI (n := 0) (by omega) (by decide)) ?_
      refine s_goto (pc := 9) (tgt := 15) dL_look_9 rfl ?_
      refine m_ic (pc := 15) (v := 0) dL_look_15 rfl ?_
      refine s_ireturn (pc := 16) dL_look_16 rfl rfl ?_
      exact hq
  · obtain ⟨c, hcd, hq⟩ := h
    unfold cdA at hcd
    by_cases h0 : kx = 1
    · subst h0; cases hcd
      refine ⟨12, rfl, fun a => ?_⟩
      refine s_astore_n (pc := 12) (i := 3) dL_look_12 rfl (Nat.le_of_ble_eq_true rfl) ?_
      refine m_ic (pc := 13) (v := 1) dL_look_13 rfl ?_
      refine s_ireturn (pc := 14) dL_look_14 rfl rfl ?_
      exact hq
    · rw [if_neg h0] at hcd; cases hcd
theorem c_L_quorum (hN : aNx g) {x1 x2 : Int32} (hc : Cn g d mX11_quorum [.ref 1, .int x1, .int x2] (Z I J n w) (Hi cdA Q)) : Cn g (d + 1) mL_quorum [.ref 1, .int x1, .int x2, .ref 560] (Z I J n w) Q := by
  show Rn g (d + 1) mL_quorum 0 [.ref 1, .int x1, .int x2, .ref 560, .retAddr 0] [] [] (Z I J n w) Q
  refine s_aload_n (pc := 0) (i := 3) dL_quorum_0 rfl rfl ?_
  refine m_ic (pc := 1) (v := 0) dL_quorum_1 rfl ?_
  refine s_aload_n (pc := 2) (i := 0) dL_quorum_2 rfl rfl ?_
  refine s_iload_n (pc := 3) (i := 1) dL_quorum_3 rfl rfl ?_
  refine s_iload_n (pc := 4) (i := 2) dL_quorum_4 rfl rfl ?_
  refine m_w2 (y' := mX11_quorum) (pc := 5) (hk := hkA 13) dL_quorum_5 ml_L_73 ok_X11_quorum (rcO o_1 (by decide) rfl) (hc_A (by decide)) rfl (Rn_mono (fun o σ h => ?_) hc)
  rcases o with (_ | v) | kx
  · exact absurd h id
  · cases v with
    | long _ => exact absurd h id
    | float _ => exact absurd h id
    | double _ => exact absurd h id
    | ref _ => exact absurd h id
    | null => exact absurd h id
    | retAddr _ => exact absurd h id
    | int v =>
      obtain ⟨I', J', n', w', rfl, hq⟩ := h
      show Rn g (d + 1) mL_quorum 8 [.ref 1, .int x1, .int x2, .ref 560, .retAddr 0] [] [.int v, .int 0, .ref 560] (Z I' J' n' w') Q
      refine s_i2l (pc := 8) dL_quorum_8 ?_
      refine m_ls (pc := 9) dL_quorum_9 a_560 (vp_in_nI (n := 0) (by omega) (by decide)) ?_
      refine s_goto (pc := 10) (tgt := 17) dL_quorum_10 rfl ?_
      refine m_ic (pc := 17) (v := 0) dL_quorum_17 rfl ?_
      refine s_ireturn (pc := 18) dL_quorum_18 rfl rfl ?_
      exact hq
  · obtain ⟨c, hcd, hq⟩ := h
    unfold cdA at hcd
    by_cases h0 : kx = 1
    · subst h0; cases hcd
      refine ⟨13, rfl, fun a => ?_⟩
      refine s_astore (pc := 13) (i := 4) dL_quorum_13 (Nat.le_of_ble_eq_true rfl) ?_
      refine m_ic (pc := 15) (v := 1) dL_quorum_15 rfl ?_
      refine s_ireturn (pc := 16) dL_quorum_16 rfl rfl ?_
      exact hq
    · rw [if_neg h0] at hcd; cases hcd
theorem c_L_lies (hN : aNx g) {x1 x2 x3 x4 : Int32} (hc : Cn g d mX11_lies [.ref 1, .int x1, .int x2, .int x3, .int x4] (Z I J n w) (Hl cdA Q)) : Cn g (d + 1) mL_lies [.ref 1, .int x1, .int x2, .int x3, .int x4, .ref 560] (Z I J n w) Q := by
  show Rn g (d + 1) mL_lies 0 [.ref 1, .int x1, .int x2, .int x3, .int x4, .ref 560, .retAddr 0] [] [] (Z I J n w) Q
  refine s_aload (pc := 0) (i := 5) dL_lies_0 rfl ?_
  refine m_ic (pc := 2) (v := 0) dL_lies_2 rfl ?_
  refine s_aload_n (pc := 3) (i := 0) dL_lies_3 rfl rfl ?_
  refine s_iload_n (pc := 4) (i := 1) dL_lies_4 rfl rfl ?_
  refine s_iload_n (pc := 5) (i := 2) dL_lies_5 rfl rfl ?_
  refine s_iload_n (pc := 6) (i := 3) dL_lies_6 rfl rfl ?_
  refine s_iload (pc := 7) (i := 4) dL_lies_7 rfl ?_
  refine m_w4 (y' := mX11_lies) (pc := 9) (hk := hkA 16) dL_lies_9 ml_L_76 ok_X11_lies (rcO o_1 (by decide) rfl) (hc_A (by decide)) rfl (Rn_mono (fun o σ h => ?_) hc)
  rcases o with (_ | v) | kx
  · exact absurd h id
  · cases v with
    | int _ => exact absurd h id
    | float _ => exact absurd h id
    | double _ => exact absurd h id
    | ref _ => exact absurd h id
    | null => exact absurd h id
    | retAddr _ => exact absurd h id
    | long v =>
      obtain ⟨I', J', n', w', rfl, hq⟩ := h
      show Rn g (d + 1) mL_lies 12 [.ref 1, .int x1, .int x2, .int x3, .int x4, .ref 560, .retAddr 0] [] [.long v, .int 0, .ref 560] (Z I' J' n' w') Q
      refine m_ls (pc := 12) dL_lies_12 a_560 (vp_in_nI (n := 0) (by omega) (by decide)) ?_
      refine s_goto (pc := 13) (tgt := 20) dL_lies_13 rfl ?_
      refine m_ic (pc := 20) (v := 0) dL_lies_20 rfl ?_
      refine s_ireturn (pc := 21) dL_lies_21 rfl rfl ?_
      exact hq
  · obtain ⟨c, hcd, hq⟩ := h
    unfold cdA at hcd
    by_cases h0 : kx = 1
    · subst h0; cases hcd
      refine ⟨16, rfl, fun a => ?_⟩
      refine s_astore (pc := 16) (i := 6) dL_lies_16 (Nat.le_of_ble_eq_true rfl) ?_
      refine m_ic (pc := 18) (v := 1) dL_lies_18 rfl ?_
      refine s_ireturn (pc := 19) dL_lies_19 rfl rfl ?_
      exact hq
    · rw [if_neg h0] at hcd; cases hcd
theorem c_L_kneel (hN : aNx g) {x1 x2 x3 : Int32} (hc : Cn g d mX11_kneel [.ref 1, .int x1, .int x2, .int x3] (Z I J n w) (Hi cdA Q)) : Cn g (d + 1) mL_kneel [.ref 1, .int x1, .int x2, .int x3, .ref 560] (Z I J n w) Q := by
  show Rn g (d + 1) mL_kneel 0 [.ref 1, .int x1, .int x2, .int x3, .ref 560, .retAddr 0] [] [] (Z I J n w) Q
  refine s_aload (pc := 0) (i := 4) dL_kneel_0 rfl ?_
  refine m_ic (pc := 2) (v := 0) dL_kneel_2 rfl ?_
  refine s_aload_n (pc := 3) (i := 0) dL_kneel_3 rfl rfl ?_
  refine s_iload_n (pc := 4) (i := 1) dL_kneel_4 rfl rfl ?_
  refine s_iload_n (pc := 5) (i := 2) dL_kneel_5 rfl rfl ?_
  refine s_iload_n (pc := 6) (i := 3) dL_kneel_6 rfl rfl ?_
  refine m_w3 (y' := mX11_kneel) (pc := 7) (hk := hkA 15) dL_kneel_7 ml_L_80 ok_X11_kneel (rcO o_1 (by decide) rfl) (hc_A (by decide)) rfl (Rn_mono (fun o σ h => ?_) hc)
  rcases o with (_ | v) | kx
  · exact absurd h id
  · cases v with
    | long _ => exact absurd h id
    | float _ => exact absurd h id
    | double _ => exact absurd h id
    | ref _ => exact absurd h id
    | null => exact absurd h id
    | retAddr _ => exact absurd h id
    | int v =>
      obtain ⟨I', J', n', w', rfl, hq⟩ := h
      show Rn g (d + 1) mL_kneel 10 [.ref 1, .int x1, .int x2, .int x3, .ref 560, .retAddr 0] [] [.int v, .int 0, .ref 560] (Z I' J' n' w') Q
      refine s_i2l (pc := 10) dL_kneel_10 ?_
      refine m_ls (pc := 11) dL_kneel_11 a_560 (vp_in_nI (n := 0) (by omega) (by decide)) ?_
      refine s_goto (pc := 12) (tgt := 19) dL_kneel_12 rfl ?_
      refine m_ic (pc := 19) (v := 0) dL_kneel_19 rfl ?_
      refine s_ireturn (pc := 20) dL_kneel_20 rfl rfl ?_
      exact hq
  · obtain ⟨c, hcd, hq⟩ := h
    unfold cdA at hcd
    by_cases h0 : kx = 1
    · subst h0; cases hcd
      refine ⟨15, rfl, fun a => ?_⟩
      refine s_astore (pc := 15) (i := 5) dL_kneel_15 (Nat.le_of_ble_eq_true rfl) ?_
      refine m_ic (pc := 17) (v := 1) dL_kneel_17 rfl ?_
      refine s_ireturn (pc := 18) dL_kneel_18 rfl rfl ?_
      exact hq
    · rw [if_neg h0] at hcd; cases hcd
theorem c_L_balm (hN : aNx g) {x1 x2 x3 : Int32} (hc : Cn g d mX11_balm [.ref 1, .int x1, .int x2, .int x3] (Z I J n w) (Hi cdB Q)) : Cn g (d + 1) mL_balm [.ref 1, .int x1, .int x2, .int x3, .ref 560] (Z I J n w) Q := by
  show Rn g (d + 1) mL_balm 0 [.ref 1, .int x1, .int x2, .int x3, .ref 560, .retAddr 0] [] [] (Z I J n w) Q
  refine s_aload (pc := 0) (i := 4) dL_balm_0 rfl ?_
  refine m_ic (pc := 2) (v := 0) dL_balm_2 rfl ?_
  refine s_aload_n (pc := 3) (i := 0) dL_balm_3 rfl rfl ?_
  refine s_iload_n (pc := 4) (i := 1) dL_balm_4 rfl rfl ?_
  refine s_iload_n (pc := 5) (i := 2) dL_balm_5 rfl rfl ?_
  refine s_iload_n (pc := 6) (i := 3) dL_balm_6 rfl rfl ?_
  refine m_w3 (y' := mX11_balm) (pc := 7) (hk := hkB 15 19) dL_balm_7 ml_L_84 ok_X11_balm (rcO o_1 (by decide) rfl) (hc_B hN (by decide)) rfl (Rn_mono (fun o σ h => ?_) hc)
  rcases o with (_ | v) | kx
  · exact absurd h id
  · cases v with
    | long _ => exact absurd h id
    | float _ => exact absurd h id
    | double _ => exact absurd h id
    | ref _ => exact absurd h id
    | null => exact absurd h id
    | retAddr _ => exact absurd h id
    | int v =>
      obtain ⟨I', J', n', w', rfl, hq⟩ := h
      show Rn g (d + 1) mL_balm 10 [.ref 1, .int x1, .int x2, .int x3, .ref 560, .retAddr 0] [] [.int v, .int 0, .ref 560] (Z I' J' n' w') Q
      refine s_i2l (pc := 10) dL_balm_10 ?_
      refine m_ls (pc := 11) dL_balm_11 a_560 (vp_in_nI (n := 0) (by omega) (by decide)) ?_
      refine s_goto (pc := 12) (tgt := 23) dL_balm_12 rfl ?_
      refine m_ic (pc := 23) (v := 0) dL_balm_23 rfl ?_
      refine s_ireturn (pc := 24) dL_balm_24 rfl rfl ?_
      exact hq
  · obtain ⟨c, hcd, hq⟩ := h
    unfold cdB at hcd
    by_cases h0 : kx = 0
    · subst h0; cases hcd
      refine ⟨15, rfl, fun a => ?_⟩
      refine s_astore (pc := 15) (i := 5) dL_balm_15 (Nat.le_of_ble_eq_true rfl) ?_
      refine m_ic (pc := 17) (v := 1) dL_balm_17 rfl ?_
      refine s_ireturn (pc := 18) dL_balm_18 rfl rfl ?_
      exact hq
    · rw [if_neg h0] at hcd
      by_cases h1 : kx = 1
      · subst h1; cases hcd
        refine ⟨19, rfl, fun a => ?_⟩
        refine s_astore (pc := 19) (i := 5) dL_balm_19 (Nat.le_of_ble_eq_true rfl) ?_
        refine m_ic (pc := 21) (v := 2) dL_balm_21 rfl ?_
        refine s_ireturn (pc := 22) dL_balm_22 rfl rfl ?_
        exact hq
      · rw [if_neg h1] at hcd; cases hcd
theorem c_L_weariest (hN : aNx g) {x1 : Int32} (hc : Cn g d mX11_weariest [.ref 1, .int x1] (Z I J n w) (Hi cdA Q)) : Cn g (d + 1) mL_weariest [.ref 1, .int x1, .ref 560] (Z I J n w) Q := by
  show Rn g (d + 1) mL_weariest 0 [.ref 1, .int x1, .ref 560, .retAddr 0] [] [] (Z I J n w) Q
  refine s_aload_n (pc := 0) (i := 2) dL_weariest_0 rfl rfl ?_
  refine m_ic (pc := 1) (v := 0) dL_weariest_1 rfl ?_
  refine s_aload_n (pc := 2) (i := 0) dL_weariest_2 rfl rfl ?_
  refine s_iload_n (pc := 3) (i := 1) dL_weariest_3 rfl rfl ?_
  refine m_w1 (y' := mX11_weariest) (pc := 4) (hk := hkA 12) dL_weariest_4 ml_L_87 ok_X11_weariest (rcO o_1 (by decide) rfl) (hc_A (by decide)) rfl (Rn_mono (fun o σ h => ?_) hc)
  rcases o with (_ | v) | kx
  · exact absurd h id
  · cases v with
    | long _ => exact absurd h id
    | float _ => exact absurd h id
    | double _ => exact absurd h id
    | ref _ => exact absurd h id
    | null => exact absurd h id
    | retAddr _ => exact absurd h id
    | int v =>
      obtain ⟨I', J', n', w', rfl, hq⟩ := h
      show Rn g (d + 1) mL_weariest 7 [.ref 1, .int x1, .ref 560, .retAddr 0] [] [.int v, .int 0, .ref 560] (Z I' J' n' w') Q
      refine s_i2l (pc := 7) dL_weariest_7 ?_
      refine m_ls (pc := 8) dL_weariest_8 a_560 (vp_in_nI (n := 0) (by omega) (by decide)) ?_
      refine s_goto (pc := 9) (tgt := 15) dL_weariest_9 rfl ?_
      refine m_ic (pc := 15) (v := 0) dL_weariest_15 rfl ?_
      refine s_ireturn (pc := 16) dL_weariest_16 rfl rfl ?_
      exact hq
  · obtain ⟨c, hcd, hq⟩ := h
    unfold cdA at hcd
    by_cases h0 : kx = 1
    · subst h0; cases hcd
      refine ⟨12, rfl, fun a => ?_⟩
      refine s_astore_n (pc := 12) (i := 3) dL_weariest_12 rfl (Nat.le_of_ble_eq_true rfl) ?_
      refine m_ic (pc := 13) (v := 1) dL_weariest_13 rfl ?_
      refine s_ireturn (pc := 14) dL_weariest_14 rfl rfl ?_
      exact hq
    · rw [if_neg h0] at hcd; cases hcd
theorem c_L_heaviest (hN : aNx g) {x1 x2 : Int32} (hc : Cn g d mX11_heaviest [.ref 1, .int x1, .int x2] (Z I J n w) (Hi cdB Q)) : Cn g (d + 1) mL_heaviest [.ref 1, .int x1, .int x2, .ref 560] (Z I J n w) Q := by
  show Rn g (d + 1) mL_heaviest 0 [.ref 1, .int x1, .int x2, .ref 560, .retAddr 0] [] [] (Z I J n w) Q
  refine s_aload_n (pc := 0) (i := 3) dL_heaviest_0 rfl rfl ?_
  refine m_ic (pc := 1) (v := 0) dL_heaviest_1 rfl ?_
  refine s_aload_n (pc := 2) (i := 0) dL_heaviest_2 rfl rfl ?_
  refine s_iload_n (pc := 3) (i := 1) dL_heaviest_3 rfl rfl ?_
  refine s_iload_n (pc := 4) (i := 2) dL_heaviest_4 rfl rfl ?_
  refine m_w2 (y' := mX11_heaviest) (pc := 5) (hk := hkB 13 17) dL_heaviest_5 ml_L_90 ok_X11_heaviest (rcO o_1 (by decide) rfl) (hc_B hN (by decide)) rfl (Rn_mono (fun o σ h => ?_) hc)
  rcases o with (_ | v) | kx
  · exact absurd h id
  · cases v with
    | long _ => exact absurd h id
    | float _ => exact absurd h id
    | double _ => exact absurd h id
    | ref _ => exact absurd h id
    | null => exact absurd h id
    | retAddr _ => exact absurd h id
    | int v =>
      obtain ⟨I', J', n', w', rfl, hq⟩ := h
      show Rn g (d + 1) mL_heaviest 8 [.ref 1, .int x1, .int x2, .ref 560, .retAddr 0] [] [.int v, .int 0, .ref 560] (Z I' J' n' w') Q
      refine s_i2l (pc := 8) dL_heaviest_8 ?_
      refine m_ls (pc := 9) dL_heaviest_9 a_560 (vp_in_nI (n := 0) (by omega) (by decide)) ?_
      refine s_goto (pc := 10) (tgt := 21) dL_heaviest_10 rfl ?_
      refine m_ic (pc := 21) (v := 0) dL_heaviest_21 rfl ?_
      refine s_ireturn (pc := 22) dL_heaviest_22 rfl rfl ?_
      exact hq
  · obtain ⟨c, hcd, hq⟩ := h
    unfold cdB at hcd
    by_cases h0 : kx = 0
    · subst h0; cases hcd
      refine ⟨13, rfl, fun a => ?_⟩
      refine s_astore (pc := 13) (i := 4) dL_heaviest_13 (Nat.le_of_ble_eq_true rfl) ?_
      refine m_ic (pc := 15) (v := 1) dL_heaviest_15 rfl ?_
      refine s_ireturn (pc := 16) dL_heaviest_16 rfl rfl ?_
      exact hq
    · rw [if_neg h0] at hcd
      by_cases h1 : kx = 1
      · subst h1; cases hcd
        refine ⟨17, rfl, fun a => ?_⟩
        refine s_astore (pc := 17) (i := 4) dL_heaviest_17 (Nat.le_of_ble_eq_true rfl) ?_
        refine m_ic (pc := 19) (v := 2) dL_heaviest_19 rfl ?_
        refine s_ireturn (pc := 20) dL_heaviest_20 rfl rfl ?_
        exact hq
      · rw [if_neg h1] at hcd; cases hcd
theorem c_L_listeners (hN : aNx g) {x1 : Int32} (hc : Cn g d mX11_listeners [.ref 1, .int x1] (Z I J n w) (Hi cdE Q)) : Cn g (d + 1) mL_listeners [.ref 1, .int x1, .ref 560] (Z I J n w) Q := by
  show Rn g (d + 1) mL_listeners 0 [.ref 1, .int x1, .ref 560, .retAddr 0] [] [] (Z I J n w) Q
  refine s_aload_n (pc := 0) (i := 2) dL_listeners_0 rfl rfl ?_
  refine m_ic (pc := 1) (v := 0) dL_listeners_1 rfl ?_
  refine s_aload_n (pc := 2) (i := 0) dL_listeners_2 rfl rfl ?_
  refine s_iload_n (pc := 3) (i := 1) dL_listeners_3 rfl rfl ?_
  refine m_w1 (y' := mX11_listeners) (pc := 4) (hk := hkE 12) dL_listeners_4 ml_L_93 ok_X11_listeners (rcO o_1 (by decide) rfl) (hc_E (by decide)) rfl (Rn_mono (fun o σ h => ?_) hc)
  rcases o with (_ | v) | kx
  · exact absurd h id
  · cases v with
    | long _ => exact absurd h id
    | float _ => exact absurd h id
    | double _ => exact absurd h id
    | ref _ => exact absurd h id
    | null => exact absurd h id
    | retAddr _ => exact absurd h id
    | int v =>
      obtain ⟨I', J', n', w', rfl, hq⟩ := h
      show Rn g (d + 1) mL_listeners 7 [.ref 1, .int x1, .ref 560, .retAddr 0] [] [.int v, .int 0, .ref 560] (Z I' J' n' w') Q
      refine s_i2l (pc := 7) dL_listeners_7 ?_
      refine m_ls (pc := 8) dL_listeners_8 a_560 (vp_in_nI (n := 0) (by omega) (by decide)) ?_
      refine s_goto (pc := 9) (tgt := 15) dL_listeners_9 rfl ?_
      refine m_ic (pc := 15) (v := 0) dL_listeners_15 rfl ?_
      refine s_ireturn (pc := 16) dL_listeners_16 rfl rfl ?_
      exact hq
  · obtain ⟨c, hcd, hq⟩ := h
    unfold cdE at hcd
    by_cases h0 : kx = 0
    · subst h0; cases hcd
      refine ⟨12, rfl, fun a => ?_⟩
      refine s_astore_n (pc := 12) (i := 3) dL_listeners_12 rfl (Nat.le_of_ble_eq_true rfl) ?_
      refine m_ic (pc := 13) (v := 1) dL_listeners_13 rfl ?_
      refine s_ireturn (pc := 14) dL_listeners_14 rfl rfl ?_
      exact hq
    · rw [if_neg h0] at hcd; cases hcd
theorem c_L_ready (hN : aNx g) {x1 x2 : Int32} (hc : Cn g d mX11_ready [.ref 1, .int x1, .int x2] (Z I J n w) (Hi cdE Q)) : Cn g (d + 1) mL_ready [.ref 1, .int x1, .int x2, .ref 560] (Z I J n w) Q := by
  show Rn g (d + 1) mL_ready 0 [.ref 1, .int x1, .int x2, .ref 560, .retAddr 0] [] [] (Z I J n w) Q
  refine s_aload_n (pc := 0) (i := 3) dL_ready_0 rfl rfl ?_
  refine m_ic (pc := 1) (v := 0) dL_ready_1 rfl ?_
  refine s_aload_n (pc := 2) (i := 0) dL_ready_2 rfl rfl ?_
  refine s_iload_n (pc := 3) (i := 1) dL_ready_3 rfl rfl ?_
  refine s_iload_n (pc := 4) (i := 2) dL_ready_4 rfl rfl ?_
  refine m_w2 (y' := mX11_ready) (pc := 5) (hk := hkE 13) dL_ready_5 ml_L_96 ok_X11_ready (rcO o_1 (by decide) rfl) (hc_E (by decide)) rfl (Rn_mono (fun o σ h => ?_) hc)
  rcases o with (_ | v) | kx
  · exact absurd h id
  · cases v with
    | long _ => exact absurd h id
    | float _ => exact absurd h id
    | double _ => exact absurd h id
    | ref _ => exact absurd h id
    | null => exact absurd h id
    | retAddr _ => exact absurd h id
    | int v =>
      obtain ⟨I', J', n', w', rfl, hq⟩ := h
      show Rn g (d + 1) mL_ready 8 [.ref 1, .int x1, .int x2, .ref 560, .retAddr 0] [] [.int v, .int 0, .ref 560] (Z I' J' n' w') Q
      refine s_i2l (pc := 8) dL_ready_8 ?_
      refine m_ls (pc := 9) dL_ready_9 a_560 (vp_in_nI (n := 0) (by omega) (by decide)) ?_
      refine s_goto (pc := 10) (tgt := 17) dL_ready_10 rfl ?_
      refine m_ic (pc := 17) (v := 0) dL_ready_17 rfl ?_
      refine s_ireturn (pc := 18) dL_ready_18 rfl rfl ?_
      exact hq
  · obtain ⟨c, hcd, hq⟩ := h
    unfold cdE at hcd
    by_cases h0 : kx = 0
    · subst h0; cases hcd
      refine ⟨13, rfl, fun a => ?_⟩
      refine s_astore (pc := 13) (i := 4) dL_ready_13 (Nat.le_of_ble_eq_true rfl) ?_
      refine m_ic (pc := 15) (v := 1) dL_ready_15 rfl ?_
      refine s_ireturn (pc := 16) dL_ready_16 rfl rfl ?_
      exact hq
    · rw [if_neg h0] at hcd; cases hcd
theorem c_L_sure (hN : aNx g) {x1 x2 : Int32} (hc : Cn g d mX11_sure [.ref 1, .int x1, .int x2] (Z I J n w) (Hi cdB Q)) : Cn g (d + 1) mL_sure [.ref 1, .int x1, .int x2, .ref 560] (Z I J n w) Q := by
  show Rn g (d + 1) mL_sure 0 [.ref 1, .int x1, .int x2, .ref 560, .retAddr 0] [] [] (Z I J n w) Q
  refine s_aload_n (pc := 0) (i := 3) dL_sure_0 rfl rfl ?_
  refine m_ic (pc := 1) (v := 0) dL_sure_1 rfl ?_
  refine s_aload_n (pc := 2) (i := 0) dL_sure_2 rfl rfl ?_
  refine s_iload_n (pc := 3) (i := 1) dL_sure_3 rfl rfl ?_
  refine s_iload_n (pc := 4) (i := 2) dL_sure_4 rfl rfl ?_
  refine m_w2 (y' := mX11_sure) (pc := 5) (hk := hkB 13 17) dL_sure_5 ml_L_99 ok_X11_sure (rcO o_1 (by decide) rfl) (hc_B hN (by decide)) rfl (Rn_mono (fun o σ h => ?_) hc)
  rcases o with (_ | v) | kx
  · exact absurd h id
  · cases v with
    | long _ => exact absurd h id
    | float _ => exact absurd h id
    | double _ => exact absurd h id
    | ref _ => exact absurd h id
    | null => exact absurd h id
    | retAddr _ => exact absurd h id
    | int v =>
      obtain ⟨I', J', n', w', rfl, hq⟩ := h
      show Rn g (d + 1) mL_sure 8 [.ref 1, .int x1, .int x2, .ref 560, .retAddr 0] [] [.int v, .int 0, .ref 560] (Z I' J' n' w') Q
      refine s_i2l (pc := 8) dL_sure_8 ?_
      refine m_ls (pc := 9) dL_sure_9 a_560 (vp_in_nI (n := 0) (by omega) (by decide)) ?_
      refine s_goto (pc := 10) (tgt := 21) dL_sure_10 rfl ?_
      refine m_ic (pc := 21) (v := 0) dL_sure_21 rfl ?_
      refine s_ireturn (pc := 22) dL_sure_22 rfl rfl ?_
      exact hq
  · obtain ⟨c, hcd, hq⟩ := h
    unfold cdB at hcd
    by_cases h0 : kx = 0
    · subst h0; cases hcd
      refine ⟨13, rfl, fun a => ?_⟩
      refine s_astore (pc := 13) (i := 4) dL_sure_13 (Nat.le_of_ble_eq_true rfl) ?_
      refine m_ic (pc := 15) (v := 1) dL_sure_15 rfl ?_
      refine s_ireturn (pc := 16) dL_sure_16 rfl rfl ?_
      exact hq
    · rw [if_neg h0] at hcd
      by_cases h1 : kx = 1
      · subst h1; cases hcd
        refine ⟨17, rfl, fun a => ?_⟩
        refine s_astore (pc := 17) (i := 4) dL_sure_17 (Nat.le_of_ble_eq_true rfl) ?_
        refine m_ic (pc := 19) (v := 2) dL_sure_19 rfl ?_
        refine s_ireturn (pc := 20) dL_sure_20 rfl rfl ?_
        exact hq
      · rw [if_neg h1] at hcd; cases hcd
theorem c_L_bearers (hN : aNx g) {x1 : Int32} (hc : Cn g d mX11_bearers [.ref 1, .int x1] (Z I J n w) (Hi cdE Q)) : Cn g (d + 1) mL_bearers [.ref 1, .int x1, .ref 560] (Z I J n w) Q := by
  show Rn g (d + 1) mL_bearers 0 [.ref 1, .int x1, .ref 560, .retAddr 0] [] [] (Z I J n w) Q
  refine s_aload_n (pc := 0) (i := 2) dL_bearers_0 rfl rfl ?_
  refine m_ic (pc := 1) (v := 0) dL_bearers_1 rfl ?_
  refine s_aload_n (pc := 2) (i := 0) dL_bearers_2 rfl rfl ?_
  refine s_iload_n (pc := 3) (i := 1) dL_bearers_3 rfl rfl ?_
  refine m_w1 (y' := mX11_bearers) (pc := 4) (hk := hkE 12) dL_bearers_4 ml_L_102 ok_X11_bearers (rcO o_1 (by decide) rfl) (hc_E (by decide)) rfl (Rn_mono (fun o σ h => ?_) hc)
  rcases o with (_ | v) | kx
  · exact absurd h id
  · cases v with
    | long _ => exact absurd h id
    | float _ => exact absurd h id
    | double _ => exact absurd h id
    | ref _ => exact absurd h id
    | null => exact absurd h id
    | retAddr _ => exact absurd h id
    | int v =>
      obtain ⟨I', J', n', w', rfl, hq⟩ := h
      show Rn g (d + 1) mL_bearers 7 [.ref 1, .int x1, .ref 560, .retAddr 0] [] [.int v, .int 0, .ref 560] (Z I' J' n' w') Q
      refine s_i2l (pc := 7) dL_bearers_7 ?_
      refine m_ls (pc := 8) dL_bearers_8 a_560 (vp_in_nI (n := 0) (by omega) (by decide)) ?_
      refine s_goto (pc := 9) (tgt := 15) dL_bearers_9 rfl ?_
      refine m_ic (pc := 15) (v := 0) dL_bearers_15 rfl ?_
      refine s_ireturn (pc := 16) dL_bearers_16 rfl rfl ?_
      exact hq
  · obtain ⟨c, hcd, hq⟩ := h
    unfold cdE at hcd
    by_cases h0 : kx = 0
    · subst h0; cases hcd
      refine ⟨12, rfl, fun a => ?_⟩
      refine s_astore_n (pc := 12) (i := 3) dL_bearers_12 rfl (Nat.le_of_ble_eq_true rfl) ?_
      refine m_ic (pc := 13) (v := 1) dL_bearers_13 rfl ?_
      refine s_ireturn (pc := 14) dL_bearers_14 rfl rfl ?_
      exact hq
    · rw [if_neg h0] at hcd; cases hcd
theorem c_L_rumour (hN : aNx g) {x1 x2 : Int32} (hc : Cn g d mX11_rumour [.ref 1, .int x1, .int x2] (Z I J n w) (Hi cdB Q)) : Cn g (d + 1) mL_rumour [.ref 1, .int x1, .int x2, .ref 560] (Z I J n w) Q := by
  show Rn g (d + 1) mL_rumour 0 [.ref 1, .int x1, .int x2, .ref 560, .retAddr 0] [] [] (Z I J n w) Q
  refine s_aload_n (pc := 0) (i := 3) dL_rumour_0 rfl rfl ?_
  refine m_ic (pc := 1) (v := 0) dL_rumour_1 rfl ?_
  refine s_aload_n (pc := 2) (i := 0) dL_rumour_2 rfl rfl ?_
  refine s_iload_n (pc := 3) (i := 1) dL_rumour_3 rfl rfl ?_
  refine s_iload_n (pc := 4) (i := 2) dL_rumour_4 rfl rfl ?_
  refine m_w2 (y' := mX11_rumour) (pc := 5) (hk := hkB 13 17) dL_rumour_5 ml_L_105 ok_X11_rumour (rcO o_1 (by decide) rfl) (hc_B hN (by decide)) rfl (Rn_mono (fun o σ h => ?_) hc)
  rcases o with (_ | v) | kx
  · exact absurd h id
  · cases v with
    | long _ => exact absurd h id
    | float _ => exact absurd h id
    | double _ => exact absurd h id
    | ref _ => exact absurd h id
    | null => exact absurd h id
    | retAddr _ => exact absurd h id
    | int v =>
      obtain ⟨I', J', n', w', rfl, hq⟩ := h
      show Rn g (d + 1) mL_rumour 8 [.ref 1, .int x1, .int x2, .ref 560, .retAddr 0] [] [.int v, .int 0, .ref 560] (Z I' J' n' w') Q
      refine s_i2l (pc := 8) dL_rumour_8 ?_
      refine m_ls (pc := 9) dL_rumour_9 a_560 (vp_in_nI (n := 0) (by omega) (by decide)) ?_
      refine s_goto (pc := 10) (tgt := 21) dL_rumour_10 rfl ?_
      refine m_ic (pc := 21) (v := 0) dL_rumour_21 rfl ?_
      refine s_ireturn (pc := 22) dL_rumour_22 rfl rfl ?_
      exact hq
  · obtain ⟨c, hcd, hq⟩ := h
    unfold cdB at hcd
    by_cases h0 : kx = 0
    · subst h0; cases hcd
      refine ⟨13, rfl, fun a => ?_⟩
      refine s_astore (pc := 13) (i := 4) dL_rumour_13 (Nat.le_of_ble_eq_true rfl) ?_
      refine m_ic (pc := 15) (v := 1) dL_rumour_15 rfl ?_
      refine s_ireturn (pc := 16) dL_rumour_16 rfl rfl ?_
      exact hq
    · rw [if_neg h0] at hcd
      by_cases h1 : kx = 1
      · subst h1; cases hcd
        refine ⟨17, rfl, fun a => ?_⟩
        refine s_astore (pc := 17) (i := 4) dL_rumour_17 (Nat.le_of_ble_eq_true rfl) ?_
        refine m_ic (pc := 19) (v := 2) dL_rumour_19 rfl ?_
        refine s_ireturn (pc := 20) dL_rumour_20 rfl rfl ?_
        exact hq
      · rw [if_neg h1] at hcd; cases hcd
theorem c_L_lied (hN : aNx g) {x1 x2 : Int32} (hc : Cn g d mX11_lied [.ref 1, .int x1, .int x2] (Z I J n w) (Hi cdA Q)) : Cn g (d + 1) mL_lied [.ref 1, .int x1, .int x2, .ref 560] (Z I J n w) Q := by
  show Rn g (d + 1) mL_lied 0 [.ref 1, .int x1, .int x2, .ref 560, .retAddr 0] [] [] (Z I J n w) Q
  refine s_aload_n (pc := 0) (i := 3) dL_lied_0 rfl rfl ?_
  refine m_ic (pc := 1) (v := 0) dL_lied_1 rfl ?_
  refine s_aload_n (pc := 2) (i := 0) dL_lied_2 rfl rfl ?_
  refine s_iload_n (pc := 3) (i := 1) dL_lied_3 rfl rfl ?_
  refine s_iload_n (pc := 4) (i := 2) dL_lied_4 rfl rfl ?_
  refine m_w2 (y' := mX11_lied) (pc := 5) (hk := hkA 13) dL_lied_5 ml_L_108 ok_X11_lied (rcO o_1 (by decide) rfl) (hc_A (by decide)) rfl (Rn_mono (fun o σ h => ?_) hc)
  rcases o with (_ | v) | kx
  · exact absurd h id
  · cases v with
    | long _ => exact absurd h id
    | float _ => exact absurd h id
    | double _ => exact absurd h id
    | ref _ => exact absurd h id
    | null => exact absurd h id
    | retAddr _ => exact absurd h id
    | int v =>
      obtain ⟨I', J', n', w', rfl, hq⟩ := h
      show Rn g (d + 1) mL_lied 8 [.ref 1, .int x1, .int x2, .ref 560, .retAddr 0] [] [.int v, .int 0, .ref 560] (Z I' J' n' w') Q
      refine s_i2l (pc := 8) dL_lied_8 ?_
      refine m_ls (pc := 9) dL_lied_9 a_560 (vp_in_nI (n := 0) (by omega) (by decide)) ?_
      refine s_goto (pc := 10) (tgt := 17) dL_lied_10 rfl ?_
      refine m_ic (pc := 17) (v := 0) dL_lied_17 rfl ?_
      refine s_ireturn (pc := 18) dL_lied_18 rfl rfl ?_
      exact hq
  · obtain ⟨c, hcd, hq⟩ := h
    unfold cdA at hcd
    by_cases h0 : kx = 1
    · subst h0; cases hcd
      refine ⟨13, rfl, fun a => ?_⟩
      refine s_astore (pc := 13) (i := 4) dL_lied_13 (Nat.le_of_ble_eq_true rfl) ?_
      refine m_ic (pc := 15) (v := 1) dL_lied_15 rfl ?_
      refine s_ireturn (pc := 16) dL_lied_16 rfl rfl ?_
      exact hq
    · rw [if_neg h0] at hcd; cases hcd
theorem c_L_reign (hN : aNx g) {x1 x2 x3 x4 : Int32} (hc : Cn g d mX11_reign [.ref 1, .int x1, .int x2, .int x3, .int x4] (Z I J n w) (Hi cdA Q)) : Cn g (d + 1) mL_reign [.ref 1, .int x1, .int x2, .int x3, .int x4, .ref 560] (Z I J n w) Q := by
  show Rn g (d + 1) mL_reign 0 [.ref 1, .int x1, .int x2, .int x3, .int x4, .ref 560, .retAddr 0] [] [] (Z I J n w) Q
  refine s_aload (pc := 0) (i := 5) dL_reign_0 rfl ?_
  refine m_ic (pc := 2) (v := 0) dL_reign_2 rfl ?_
  refine s_aload_n (pc := 3) (i := 0) dL_reign_3 rfl rfl ?_
  refine s_iload_n (pc := 4) (i := 1) dL_reign_4 rfl rfl ?_
  refine s_iload_n (pc := 5) (i := 2) dL_reign_5 rfl rfl ?_
  refine s_iload_n (pc := 6) (i := 3) dL_reign_6 rfl rfl ?_
  refine s_iload (pc := 7) (i := 4) dL_reign_7 rfl ?_
  refine m_w4 (y' := mX11_reign) (pc := 9) (hk := hkA 17) dL_reign_9 ml_L_111 ok_X11_reign (rcO o_1 (by decide) rfl) (hc_A (by decide)) rfl (Rn_mono (fun o σ h => ?_) hc)
  rcases o with (_ | v) | kx
  · exact absurd h id
  · cases v with
    | long _ => exact absurd h id
    | float _ => exact absurd h id
    | double _ => exact absurd h id
    | ref _ => exact absurd h id
    | null => exact absurd h id
    | retAddr _ => exact absurd h id
    | int v =>
      obtain ⟨I', J', n', w', rfl, hq⟩ := h
      show Rn g (d + 1) mL_reign 12 [.ref 1, .int x1, .int x2, .int x3, .int x4, .ref 560, .retAddr 0] [] [.int v, .int 0, .ref 560] (Z I' J' n' w') Q
      refine s_i2l (pc := 12) dL_reign_12 ?_
      refine m_ls (pc := 13) dL_reign_13 a_560 (vp_in_nI (n := 0) (by omega) (by decide)) ?_
      refine s_goto (pc := 14) (tgt := 21) dL_reign_14 rfl ?_
      refine m_ic (pc := 21) (v := 0) dL_reign_21 rfl ?_
      refine s_ireturn (pc := 22) dL_reign_22 rfl rfl ?_
      exact hq
  · obtain ⟨c, hcd, hq⟩ := h
    unfold cdA at hcd
    by_cases h0 : kx = 1
    · subst h0; cases hcd
      refine ⟨17, rfl, fun a => ?_⟩
      refine s_astore (pc := 17) (i := 6) dL_reign_17 (Nat.le_of_ble_eq_true rfl) ?_
      refine m_ic (pc := 19) (v := 1) dL_reign_19 rfl ?_
      refine s_ireturn (pc := 20) dL_reign_20 rfl rfl ?_
      exact hq
    · rw [if_neg h0] at hcd; cases hcd
theorem c_L_span (hN : aNx g) {x1 x2 x3 x4 x5 x6 : Int32} (hc : Cn g d mX11_span [.ref 1, .int x1, .int x2, .int x3, .int x4, .int x5, .int x6] (Z I J n w) (Hi cdA Q)) : Cn g (d + 1) mL_span [.ref 1, .int x1, .int x2, .int x3, .int x4, .int x5, .int x6, .ref 560] (Z I J n w) Q := by
  show Rn g (d + 1) mL_span 0 [.ref 1, .int x1, .int x2, .int x3, .int x4, .int x5, .int x6, .ref 560, .retAddr 0] [] [] (Z I J n w) Q
  refine s_aload (pc := 0) (i := 7) dL_span_0 rfl ?_
  refine m_ic (pc := 2) (v := 0) dL_span_2 rfl ?_
  refine s_aload_n (pc := 3) (i := 0) dL_span_3 rfl rfl ?_
  refine s_iload_n (pc := 4) (i := 1) dL_span_4 rfl rfl ?_
  refine s_iload_n (pc := 5) (i := 2) dL_span_5 rfl rfl ?_
  refine s_iload_n (pc := 6) (i := 3) dL_span_6 rfl rfl ?_
  refine s_iload (pc := 7) (i := 4) dL_span_7 rfl ?_
  refine s_iload (pc := 9) (i := 5) dL_span_9 rfl ?_
  refine s_iload (pc := 11) (i := 6) dL_span_11 rfl ?_
  refine m_w6 (y' := mX11_span) (pc := 13) (hk := hkA 21) dL_span_13 ml_L_115 ok_X11_span (rcO o_1 (by decide) rfl) (hc_A (by decide)) rfl (Rn_mono (fun o σ h => ?_) hc)
  rcases o with (_ | v) | kx
  · exact absurd h id
  · cases v with
    | long _ => exact absurd h id
    | float _ => exact absurd h id
    | double _ => exact absurd h id
    | ref _ => exact absurd h id
    | null => exact absurd h id
    | retAddr _ => exact absurd h id
    | int v =>
      obtain ⟨I', J', n', w', rfl, hq⟩ := h
      show Rn g (d + 1) mL_span 16 [.ref 1, .int x1, .int x2, .int x3, .int x4, .int x5, .int x6, .ref 560, .retAddr 0] [] [.int v, .int 0, .ref 560] (Z I' J' n' w') Q
      refine s_i2l (pc := 16) dL_span_16 ?_
      refine m_ls (pc := 17) dL_span_17 a_560 (vp_in_nI (n := 0) (by omega) (by decide)) ?_
      refine s_goto (pc := 18) (tgt := 25) dL_span_18 rfl ?_
      refine m_ic (pc := 25) (v := 0) dL_span_25 rfl ?_
      refine s_ireturn (pc := 26) dL_span_26 rfl rfl ?_
      exact hq
  · obtain ⟨c, hcd, hq⟩ := h
    unfold cdA at hcd
    by_cases h0 : kx = 1
    · subst h0; cases hcd
      refine ⟨21, rfl, fun a => ?_⟩
      refine s_astore (pc := 21) (i := 8) dL_span_21 (Nat.le_of_ble_eq_true rfl) ?_
      refine m_ic (pc := 23) (v := 1) dL_span_23 rfl ?_
      refine s_ireturn (pc := 24) dL_span_24 rfl rfl ?_
      exact hq
    · rw [if_neg h0] at hcd; cases hcd
end S
