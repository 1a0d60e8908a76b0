section S
variable {g : aG} {d : Nat} {I : Nat → Nat → Int32} {J : Nat → Nat → Int64} {n w : Nat} {Q : aO → aS → Prop}
variable {t : Nat → Nat} {N : Nat} {σ : aS}
def opv (c : Nat) (x y : Int32) : Int32 := if c = 2000 then (if x < y then x else y) else if c = 2001 then (if y < x then x else y) else if c = 2043 then x + y else if c = 2045 then x - y else if c = 2042 then x * y else if c = 2047 then (if y = 0 then 0 else x / y) else (if y = 0 then 0 else x - x / y * y)
def uV (V : Nat → Int32) (i : Nat) (x : Int32) : Nat → Int32 := fun k => if k = i then x else V k
/-- the values on the pile once the codes are through; m: how many lie there -/
def ev (f : Nat → Int32) : List Nat → Nat → (Nat → Int32) → (Nat → Int32)
  | [], _, V => V
  | c :: cs, m, V => if c < 1000 then ev f cs (m + 1) (uV V m (nI c)) else if c < 2000 then ev f cs (m + 1) (uV V m (f (c - 1000))) else ev f cs (m - 1) (uV V (m - 2) (opv c (V (m - 2)) (V (m - 1))))
def cok (c : Nat) : Bool := decide (c < 1009 ∨ c = 2000 ∨ c = 2001 ∨ c = 2037 ∨ c = 2042 ∨ c = 2043 ∨ c = 2045 ∨ c = 2047)
/-- the codes leave one value -/
def hk : List Nat → Nat → Bool
  | [], m => m == 1
  | c :: cs, m => cok c && (if c < 2000 then hk cs (m + 1) else decide (2 ≤ m) && hk cs (m - 1))
theorem hk_p {c m : Nat} {r : List Nat} (h : cok c = true) (h2 : c < 2000) : hk (c :: r) m = hk r (m + 1) := by
  rw [hk, h, if_pos h2]; rfl
theorem hk_o {c m : Nat} {r : List Nat} (h : cok c = true) (h2 : 2000 ≤ c) : hk (c :: r) (m + 2) = hk r (m + 1) := by
  rw [hk, h, if_neg (by omega)]; simp
def gW (U : Nat → List Nat → lT) : Prop := ∀ p cs q c2, U p cs = .inr (q, c2) → ∃ ns, c2 = cs ++ ns ∧ ∀ m r, hk (ns ++ r) m = hk r (m + 1)
theorem nR_hi {p lo hi v q : Nat} (h : nR t N p lo hi = .inr (v, q)) : v < hi := by
  unfold nR at h
  split at h
  · split at h
    · rename_i h1; injection h with h; injection h with h _; subst h; exact h1.2
    · cases h
  · cases h
theorem cok_n {v : Nat} (h : v < 1009) : cok v = true := decide_eq_true (Or.inl h)
theorem gW_U {S : Nat → List Nat → lT} {L : Nat} (hS : L ≠ 0 → gW S) : gW (lU t N S L) := by
  intro p cs q c2 h
  unfold lU at h
  split at h
  · unfold lUn at h
    split at h
    · cases h
    · rename_i v z hz
      injection h with h; injection h with h1 h2; subst h2
      have := nR_hi hz
      exact ⟨[v], rfl, fun m r => hk_p (cok_n (by omega)) (by omega)⟩
  · split at h
    · split at h
      · cases h
      · rename_i hc hL
        unfold lUp at h
        split at h
        · cases h
        · rename_i z c3 hz
          split at h
          · cases h
          · injection h with h; injection h with h1 h2; subst h2
            exact hS hL _ _ _ _ hz
    · split at h
      · split at h
        · cases h
        · rename_i hL
          unfold lUt at h
          split at h
          · cases h
          · split at h
            · cases h
            · rename_i q2 c3 h2
              obtain ⟨n1, e1, f1⟩ := hS hL _ _ _ _ h2
              split at h
              · cases h
              · split at h
                · cases h
                · rename_i q4 c4 h4
                  obtain ⟨n2, e2, f2⟩ := hS hL _ _ _ _ h4
                  split at h
                  · cases h
                  · injection h with h; injection h with e1' e2'; subst e2'
                    refine ⟨n1 ++ n2 ++ [if wB t N p 11 = true then 2000 else 2001], by rw [e2, e1]; simp only [List.append_assoc], fun m r => ?_⟩
                    rw [List.append_assoc, List.append_assoc, f1, f2]
                    split
                    · exact hk_o (by decide) (by decide)
                    · exact hk_o (by decide) (by decide)
      · unfold lUw at h
        split at h
        · cases h
        · rename_i i hi
          have := thW_gt hi
          injection h with h; injection h with e1 e2; subst e2
          exact ⟨[1000 + i], rfl, fun m r => hk_p (cok_n (by omega)) (by omega)⟩
def opc (op : Nat → Bool) : Prop := ∀ c, op c = true → cok (2000 + c) = true
theorem gW_R {U : Nat → List Nat → lT} {op : Nat → Bool} (hU : gW U) (ho : opc op) : ∀ f p cs q c2, lR t N U op f p cs = .inr (q, c2) → ∃ ns, c2 = cs ++ ns ∧ ∀ m r, hk (ns ++ r) (m + 1) = hk r (m + 1)
  | 0, p, cs, q, c2, h => by
    injection h with h; injection h with e1 e2; subst e2; exact ⟨[], by simp, fun m r => rfl⟩
  | f + 1, p, cs, q, c2, h => by
    unfold lR at h
    split at h
    · rename_i hc
      split at h
      · cases h
      · rename_i z c3 hz
        obtain ⟨n1, e1, f1⟩ := hU _ _ _ _ hz
        obtain ⟨n2, e2, f2⟩ := gW_R hU ho f _ _ _ _ h
        refine ⟨n1 ++ [2000 + t p] ++ n2, by rw [e2, e1]; simp only [List.append_assoc], fun m r => ?_⟩
        rw [List.append_assoc, List.append_assoc, f1]
        show hk ((2000 + t p) :: (n2 ++ r)) (m + 2) = _
        rw [hk_o (ho _ hc.2) (by omega), f2]
    · injection h with h; injection h with e1 e2; subst e2; exact ⟨[], by simp, fun m r => rfl⟩
theorem gW_F {U : Nat → List Nat → lT} {op : Nat → Bool} (hU : gW U) (ho : opc op) : gW (lF t N U op) := by
  intro p cs q c2 h
  unfold lF at h
  split at h
  · cases h
  · rename_i z c3 hz
    obtain ⟨n1, e1, f1⟩ := hU _ _ _ _ hz
    obtain ⟨n2, e2, f2⟩ := gW_R hU ho 150 _ _ _ _ h
    exact ⟨n1 ++ n2, by rw [e2, e1, List.append_assoc], fun m r => by rw [List.append_assoc, f1, f2]⟩
theorem opc_P : opc opP := fun c h => by
  have h' : c = 42 ∨ c = 47 ∨ c = 37 := by simp [opP] at h; omega
  rcases h' with e | e | e <;> subst e <;> decide
theorem opc_S : opc opS := fun c h => by
  have h' : c = 43 ∨ c = 45 := by simp [opS] at h; omega
  rcases h' with e | e <;> subst e <;> decide
theorem gW_S : ∀ L, gW (lS t N L)
  | 0 => gW_F (gW_F (gW_U (fun h => absurd rfl h)) opc_P) opc_S
  | L + 1 => gW_F (gW_F (gW_U (fun _ => gW_S L)) opc_P) opc_S
theorem rLw_ok {p : Nat} {cs : List Nat} (hp : p ≤ N) (hN : N ≤ 150) (h : rLw t N p = .inr cs) : hk cs 0 = true ∧ cs.length ≤ 150 ∧ 0 < cs.length := by
  unfold rLw at h
  split at h
  · cases h
  · rename_i q c2 hq
    split at h
    · injection h with h; subst h
      obtain ⟨ns, e1, f1⟩ := gW_S 6 _ _ _ _ hq
      have h2 := f1 0 []
      have h3 := gU_S 6 _ _ _ _ hp hq
      simp only [List.nil_append, List.append_nil, List.length_nil] at e1 h2 h3
      subst e1
      have h4 : hk c2 0 = true := by rw [h2]; rfl
      refine ⟨h4, by omega, ?_⟩
      cases c2 with
      | nil => cases h4
      | cons c r => simp
    · cases h
/-- what a law's reading may change: the class's, the model's rows for it -/
def fl (I I' : Nat → Nat → Int32) : Prop := ∀ x j, x ≠ 16 → x ≠ 17 → I' x j = I x j
def fm (I I' : Nat → Nat → Int32) : Prop := ∀ x j, x ≠ 545 → x ≠ 546 → I' x j = I x j
theorem fl_r : fl I I := fun _ _ _ _ => rfl
theorem fm_r : fm I I := fun _ _ _ _ => rfl
theorem fl_t {I' I'' : Nat → Nat → Int32} (h : fl I I') (h2 : fl I' I'') : fl I I'' := fun x j a b => (h2 x j a b).trans (h x j a b)
theorem fm_t {I' I'' : Nat → Nat → Int32} (h : fm I I') (h2 : fm I' I'') : fm I I'' := fun x j a b => (h2 x j a b).trans (h x j a b)
theorem fl_u {I' : Nat → Nat → Int32} {x k : Nat} {v : Int32} (h : fl I I') (hx : x = 16 ∨ x = 17) : fl I (up I' x k v) := fun y j a b => by rw [up_a (by omega)]; exact h y j a b
theorem fm_u {I' : Nat → Nat → Int32} {x k : Nat} {v : Int32} (h : fm I I') (hx : x = 545 ∨ x = 546) : fm I (up I' x k v) := fun y j a b => by rw [up_a (by omega)]; exact h y j a b
def clp (v : Int32) : Int32 := if v < 0 then 0 else if 60 < v then 60 else v
def ldv (f : Nat → Int32) (cs : List Nat) : Nat := (clp (ev f cs 0 (fun _ => 0) 0)).toNatClampNeg
theorem ldv_1 (f : Nat → Int32) (cs : List Nat) : clp (ev f cs 0 (fun _ => 0) 0) = nI (ldv f cs) ∧ ldv f cs ≤ 60 := by
  unfold ldv clp
  generalize ev f cs 0 (fun _ => 0) 0 = v
  split
  · decide
  · rename_i h
    split
    · decide
    · rename_i h2
      obtain ⟨j, hj, e⟩ := nI_of h
      subst e
      rw [show (60 : Int32) = nI 60 from rfl, nI_ltI (by decide) hj] at h2
      rw [nI_clamp hj]
      exact ⟨rfl, by omega⟩
/-- equal piles give equal values -/
theorem ev_c {f f' : Nat → Int32} (hf : ∀ j, j < 9 → f j = f' j) : ∀ cs m V V', hk cs m = true → (∀ j, j < m → V j = V' j) → ev f cs m V 0 = ev f' cs m V' 0
  | [], m, V, V', hk1, h => by
    have : m = 1 := by simpa [hk] using hk1
    exact h 0 (by omega)
  | c :: cs, m, V, V', hk1, h => by
    have hc : cok c = true := by rw [hk] at hk1; simp at hk1; exact hk1.1
    unfold ev
    split
    · rename_i c1
      refine ev_c hf cs (m + 1) _ _ (by rw [hk_p hc (by omega)] at hk1; exact hk1) (fun j hj => ?_)
      unfold uV; split
      · rfl
      · exact h j (by omega)
    · split
      · rename_i c1 c2
        have : c < 1009 := by have := of_decide_eq_true hc; omega
        refine ev_c hf cs (m + 1) _ _ (by rw [hk_p hc c2] at hk1; exact hk1) (fun j hj => ?_)
        unfold uV; split
        · exact hf _ (by omega)
        · exact h j (by omega)
      · rename_i c1 c2
        have hk2 : 2 ≤ m ∧ hk cs (m - 1) = true := by rw [hk, if_neg c2] at hk1; simp at hk1; exact hk1.2
        refine ev_c hf cs (m - 1) _ _ hk2.2 (fun j hj => ?_)
        unfold uV; split
        · rw [h (m - 2) (by omega), h (m - 1) (by omega)]
        · exact h j (by omega)
theorem clp_neg {v : Int32} (h : v < 0) : clp v = 0 := if_pos h
theorem clp_big {v : Int32} (h : ¬ v < 0) (h2 : ¬ v ≤ 60) : clp v = 60 := by rw [clp, if_neg h, if_pos (Int32.not_le.mp h2)]
theorem clp_in {v : Int32} (h : ¬ v < 0) (h2 : v ≤ 60) : clp v = v := by rw [clp, if_neg h, if_neg (Int32.not_lt.mpr h2)]
def Lw (I : Nat → Nat → Int32) (o : Nat) (cs : List Nat) : Prop := I o 3 = nI cs.length ∧ ∀ i, i < cs.length → I (o + 1) i = nI (cs.getD i 0)
def lOk (cs : List Nat) : Prop := hk cs 0 = true ∧ cs.length ≤ 150
theorem c_out_2000 {x y : Int32} (hq : Q (.inl (some (.int (if x < y then x else y)))) σ) : Cn g (d + 0) mX4_outcome [.int (nI 2000), .int x, .int y] σ Q := by
  show Rn g (d + 0) mX4_outcome 0 [.int (nI 2000), .int x, .int y] [] [] σ Q
  refine s_iload_n (pc := 0) (i := 0) dX4_outcome_0 rfl rfl ?_
  refine s_look (pc := 1) (tgt := 60) dX4_outcome_1 rfl rfl rfl ?_
  refine s_iload_n (pc := 60) (i := 1) dX4_outcome_60 rfl rfl ?_
  refine s_iload_n (pc := 61) (i := 2) dX4_outcome_61 rfl rfl ?_
  refine s_icge (pc := 62) (tgt := 69) dX4_outcome_62 rfl (fun h => ?_) (fun h => ?_)
  · rw [if_neg (Int32.not_lt.mpr h)] at hq
    refine s_iload_n (pc := 69) (i := 2) dX4_outcome_69 rfl rfl ?_
    refine s_ireturn (pc := 70) dX4_outcome_70 rfl rfl ?_
    exact hq
  · rw [if_pos (Int32.not_le.mp h)] at hq
    refine s_iload_n (pc := 65) (i := 1) dX4_outcome_65 rfl rfl ?_
    refine s_goto (pc := 66) (tgt := 70) dX4_outcome_66 rfl ?_
    refine s_ireturn (pc := 70) dX4_outcome_70 rfl rfl ?_
    exact hq
theorem c_bth_2000 {x y : Int32} (hq : Q (.inl (some (.int (if x < y then x else y)))) σ) : Cn g (d + 0) mX12_both [.int (nI 6), .int x, .int y] σ Q := by
  show Rn g (d + 0) mX12_both 0 [.int (nI 6), .int x, .int y] [] [] σ Q
  refine s_iload_n (pc := 0) (i := 0) dX12_both_0 rfl rfl ?_
  refine m_ic (pc := 1) (v := 2) dX12_both_1 rfl ?_
  refine s_icne (pc := 2) (tgt := 9) dX12_both_2 rfl (fun h2 => ?_) (fun h2 => absurd h2 (by decide))
  refine s_iload_n (pc := 9) (i := 0) dX12_both_9 rfl rfl ?_
  refine m_ic (pc := 10) (v := 3) dX12_both_10 rfl ?_
  refine s_icne (pc := 11) (tgt := 18) dX12_both_11 rfl (fun h11 => ?_) (fun h11 => absurd h11 (by decide))
  refine s_iload_n (pc := 18) (i := 0) dX12_both_18 rfl rfl ?_
  refine m_ic (pc := 19) (v := 4) dX12_both_19 rfl ?_
  refine s_icne (pc := 20) (tgt := 27) dX12_both_20 rfl (fun h20 => ?_) (fun h20 => absurd h20 (by decide))
  refine s_iload_n (pc := 27) (i := 0) dX12_both_27 rfl rfl ?_
  refine m_ic (pc := 28) (v := 5) dX12_both_28 rfl ?_
  refine s_iceq (pc := 29) (tgt := 38) dX12_both_29 rfl (fun h29 => absurd h29 (by decide)) (fun h29 => ?_)
  refine s_iload_n (pc := 32) (i := 0) dX12_both_32 rfl rfl ?_
  refine m_bi (pc := 33) (v := 8) dX12_both_33 rfl ?_
  refine s_icne (pc := 35) (tgt := 61) dX12_both_35 rfl (fun h35 => ?_) (fun h35 => absurd h35 (by decide))
  refine s_iload_n (pc := 61) (i := 1) dX12_both_61 rfl rfl ?_
  refine s_iload_n (pc := 62) (i := 2) dX12_both_62 rfl rfl ?_
  refine s_icge (pc := 63) (tgt := 70) dX12_both_63 rfl (fun h => ?_) (fun h => ?_)
  · rw [if_neg (Int32.not_lt.mpr h)] at hq
    refine m_ic (pc := 70) (v := 0) dX12_both_70 rfl ?_
    refine s_iload_n (pc := 71) (i := 0) dX12_both_71 rfl rfl ?_
    refine m_bi (pc := 72) (v := 6) dX12_both_72 rfl ?_
    refine s_icne (pc := 74) (tgt := 81) dX12_both_74 rfl (fun h74 => absurd h74 (by decide)) (fun h74 => ?_)
    refine m_ic (pc := 77) (v := 1) dX12_both_77 rfl ?_
    refine s_goto (pc := 78) (tgt := 82) dX12_both_78 rfl ?_
    refine s_icne (pc := 82) (tgt := 89) dX12_both_82 rfl (fun h82 => ?_) (fun h82 => absurd h82 (by decide))
    refine s_iload_n (pc := 89) (i := 2) dX12_both_89 rfl rfl ?_
    refine s_ireturn (pc := 90) dX12_both_90 rfl rfl ?_
    exact hq
  · rw [if_pos (Int32.not_le.mp h)] at hq
    refine m_ic (pc := 66) (v := 1) dX12_both_66 rfl ?_
    refine s_goto (pc := 67) (tgt := 71) dX12_both_67 rfl ?_
    refine s_iload_n (pc := 71) (i := 0) dX12_both_71 rfl rfl ?_
    refine m_bi (pc := 72) (v := 6) dX12_both_72 rfl ?_
    refine s_icne (pc := 74) (tgt := 81) dX12_both_74 rfl (fun h74 => absurd h74 (by decide)) (fun h74 => ?_)
    refine m_ic (pc := 77) (v := 1) dX12_both_77 rfl ?_
    refine s_goto (pc := 78) (tgt := 82) dX12_both_78 rfl ?_
    refine s_icne (pc := 82) (tgt := 89) dX12_both_82 rfl (fun h82 => absurd h82 (by decide)) (fun h82 => ?_)
    refine s_iload_n (pc := 85) (i := 1) dX12_both_85 rfl rfl ?_
    refine s_goto (pc := 86) (tgt := 90) dX12_both_86 rfl ?_
    refine s_ireturn (pc := 90) dX12_both_90 rfl rfl ?_
    exact hq
theorem c_out_2001 {x y : Int32} (hq : Q (.inl (some (.int (if y < x then x else y)))) σ) : Cn g (d + 0) mX4_outcome [.int (nI 2001), .int x, .int y] σ Q := by
  show Rn g (d + 0) mX4_outcome 0 [.int (nI 2001), .int x, .int y] [] [] σ Q
  refine s_iload_n (pc := 0) (i := 0) dX4_outcome_0 rfl rfl ?_
  refine s_look (pc := 1) (tgt := 71) dX4_outcome_1 rfl rfl rfl ?_
  refine s_iload_n (pc := 71) (i := 1) dX4_outcome_71 rfl rfl ?_
  refine s_iload_n (pc := 72) (i := 2) dX4_outcome_72 rfl rfl ?_
  refine s_icle (pc := 73) (tgt := 80) dX4_outcome_73 rfl (fun h => ?_) (fun h => ?_)
  · rw [if_neg (Int32.not_lt.mpr h)] at hq
    refine s_iload_n (pc := 80) (i := 2) dX4_outcome_80 rfl rfl ?_
    refine s_ireturn (pc := 81) dX4_outcome_81 rfl rfl ?_
    exact hq
  · rw [if_pos (Int32.not_le.mp h)] at hq
    refine s_iload_n (pc := 76) (i := 1) dX4_outcome_76 rfl rfl ?_
    refine s_goto (pc := 77) (tgt := 81) dX4_outcome_77 rfl ?_
    refine s_ireturn (pc := 81) dX4_outcome_81 rfl rfl ?_
    exact hq
theorem c_bth_2001 {x y : Int32} (hq : Q (.inl (some (.int (if y < x then x else y)))) σ) : Cn g (d + 0) mX12_both [.int (nI 7), .int x, .int y] σ Q := by
  show Rn g (d + 0) mX12_both 0 [.int (nI 7), .int x, .int y] [] [] σ Q
  refine s_iload_n (pc := 0) (i := 0) dX12_both_0 rfl rfl ?_
  refine m_ic (pc := 1) (v := 2) dX12_both_1 rfl ?_
  refine s_icne (pc := 2) (tgt := 9) dX12_both_2 rfl (fun h2 => ?_) (fun h2 => absurd h2 (by decide))
  refine s_iload_n (pc := 9) (i := 0) dX12_both_9 rfl rfl ?_
  refine m_ic (pc := 10) (v := 3) dX12_both_10 rfl ?_
  refine s_icne (pc := 11) (tgt := 18) dX12_both_11 rfl (fun h11 => ?_) (fun h11 => absurd h11 (by decide))
  refine s_iload_n (pc := 18) (i := 0) dX12_both_18 rfl rfl ?_
  refine m_ic (pc := 19) (v := 4) dX12_both_19 rfl ?_
  refine s_icne (pc := 20) (tgt := 27) dX12_both_20 rfl (fun h20 => ?_) (fun h20 => absurd h20 (by decide))
  refine s_iload_n (pc := 27) (i := 0) dX12_both_27 rfl rfl ?_
  refine m_ic (pc := 28) (v := 5) dX12_both_28 rfl ?_
  refine s_iceq (pc := 29) (tgt := 38) dX12_both_29 rfl (fun h29 => absurd h29 (by decide)) (fun h29 => ?_)
  refine s_iload_n (pc := 32) (i := 0) dX12_both_32 rfl rfl ?_
  refine m_bi (pc := 33) (v := 8) dX12_both_33 rfl ?_
  refine s_icne (pc := 35) (tgt := 61) dX12_both_35 rfl (fun h35 => ?_) (fun h35 => absurd h35 (by decide))
  refine s_iload_n (pc := 61) (i := 1) dX12_both_61 rfl rfl ?_
  refine s_iload_n (pc := 62) (i := 2) dX12_both_62 rfl rfl ?_
  refine s_icge (pc := 63) (tgt := 70) dX12_both_63 rfl (fun h => ?_) (fun h => ?_)
  · have e1 : (if y < x then x else y) = x := by
      by_cases z : y < x
      · rw [if_pos z]
      · rw [if_neg z]; exact Int32.le_antisymm h (Int32.not_lt.mp z)
    rw [e1] at hq
    refine m_ic (pc := 70) (v := 0) dX12_both_70 rfl ?_
    refine s_iload_n (pc := 71) (i := 0) dX12_both_71 rfl rfl ?_
    refine m_bi (pc := 72) (v := 6) dX12_both_72 rfl ?_
    refine s_icne (pc := 74) (tgt := 81) dX12_both_74 rfl (fun h74 => ?_) (fun h74 => absurd h74 (by decide))
    refine m_ic (pc := 81) (v := 0) dX12_both_81 rfl ?_
    refine s_icne (pc := 82) (tgt := 89) dX12_both_82 rfl (fun h82 => absurd h82 (by decide)) (fun h82 => ?_)
    refine s_iload_n (pc := 85) (i := 1) dX12_both_85 rfl rfl ?_
    refine s_goto (pc := 86) (tgt := 90) dX12_both_86 rfl ?_
    refine s_ireturn (pc := 90) dX12_both_90 rfl rfl ?_
    exact hq
  · rw [if_neg (fun z => (fa_of_lt (Int32.not_le.mp h)).2.2.1 z)] at hq
    refine m_ic (pc := 66) (v := 1) dX12_both_66 rfl ?_
    refine s_goto (pc := 67) (tgt := 71) dX12_both_67 rfl ?_
    refine s_iload_n (pc := 71) (i := 0) dX12_both_71 rfl rfl ?_
    refine m_bi (pc := 72) (v := 6) dX12_both_72 rfl ?_
    refine s_icne (pc := 74) (tgt := 81) dX12_both_74 rfl (fun h74 => ?_) (fun h74 => absurd h74 (by decide))
    refine m_ic (pc := 81) (v := 0) dX12_both_81 rfl ?_
    refine s_icne (pc := 82) (tgt := 89) dX12_both_82 rfl (fun h82 => ?_) (fun h82 => absurd h82 (by decide))
    refine s_iload_n (pc := 89) (i := 2) dX12_both_89 rfl rfl ?_
    refine s_ireturn (pc := 90) dX12_both_90 rfl rfl ?_
    exact hq
theorem c_out_2037 {x y : Int32} (hq : Q (.inl (some (.int (if y = 0 then 0 else x - x / y * y)))) σ) : Cn g (d + 0) mX4_outcome [.int (nI 2037), .int x, .int y] σ Q := by
  show Rn g (d + 0) mX4_outcome 0 [.int (nI 2037), .int x, .int y] [] [] σ Q
  refine s_iload_n (pc := 0) (i := 0) dX4_outcome_0 rfl rfl ?_
  refine s_look (pc := 1) (tgt := 106) dX4_outcome_1 rfl rfl rfl ?_
  refine s_iload_n (pc := 106) (i := 2) dX4_outcome_106 rfl rfl ?_
  refine s_ifne (pc := 107) (tgt := 114) dX4_outcome_107 rfl (fun h107 => ?_) (fun h107 => ?_)
  · rw [if_neg h107] at hq
    refine s_iload_n (pc := 114) (i := 1) dX4_outcome_114 rfl rfl ?_
    refine s_iload_n (pc := 115) (i := 2) dX4_outcome_115 rfl rfl ?_
    refine s_irem (pc := 116) dX4_outcome_116 (h107) ?_
    refine s_ireturn (pc := 117) dX4_outcome_117 rfl rfl ?_
    exact hq
  · rw [if_pos h107] at hq
    refine m_ic (pc := 110) (v := 0) dX4_outcome_110 rfl ?_
    refine s_goto (pc := 111) (tgt := 117) dX4_outcome_111 rfl ?_
    refine s_ireturn (pc := 117) dX4_outcome_117 rfl rfl ?_
    exact hq
theorem c_bth_2037 {x y : Int32} (hq : Q (.inl (some (.int (if y = 0 then 0 else x - x / y * y)))) σ) : Cn g (d + 0) mX12_both [.int (nI 8), .int x, .int y] σ Q := by
  show Rn g (d + 0) mX12_both 0 [.int (nI 8), .int x, .int y] [] [] σ Q
  refine s_iload_n (pc := 0) (i := 0) dX12_both_0 rfl rfl ?_
  refine m_ic (pc := 1) (v := 2) dX12_both_1 rfl ?_
  refine s_icne (pc := 2) (tgt := 9) dX12_both_2 rfl (fun h2 => ?_) (fun h2 => absurd h2 (by decide))
  refine s_iload_n (pc := 9) (i := 0) dX12_both_9 rfl rfl ?_
  refine m_ic (pc := 10) (v := 3) dX12_both_10 rfl ?_
  refine s_icne (pc := 11) (tgt := 18) dX12_both_11 rfl (fun h11 => ?_) (fun h11 => absurd h11 (by decide))
  refine s_iload_n (pc := 18) (i := 0) dX12_both_18 rfl rfl ?_
  refine m_ic (pc := 19) (v := 4) dX12_both_19 rfl ?_
  refine s_icne (pc := 20) (tgt := 27) dX12_both_20 rfl (fun h20 => ?_) (fun h20 => absurd h20 (by decide))
  refine s_iload_n (pc := 27) (i := 0) dX12_both_27 rfl rfl ?_
  refine m_ic (pc := 28) (v := 5) dX12_both_28 rfl ?_
  refine s_iceq (pc := 29) (tgt := 38) dX12_both_29 rfl (fun h29 => absurd h29 (by decide)) (fun h29 => ?_)
  refine s_iload_n (pc := 32) (i := 0) dX12_both_32 rfl rfl ?_
  refine m_bi (pc := 33) (v := 8) dX12_both_33 rfl ?_
  refine s_icne (pc := 35) (tgt := 61) dX12_both_35 rfl (fun h35 => absurd h35 (by decide)) (fun h35 => ?_)
  refine s_iload_n (pc := 38) (i := 2) dX12_both_38 rfl rfl ?_
  refine s_ifne (pc := 39) (tgt := 46) dX12_both_39 rfl (fun h39 => ?_) (fun h39 => ?_)
  · rw [if_neg h39] at hq
    refine s_iload_n (pc := 46) (i := 0) dX12_both_46 rfl rfl ?_
    refine m_ic (pc := 47) (v := 5) dX12_both_47 rfl ?_
    refine s_icne (pc := 48) (tgt := 57) dX12_both_48 rfl (fun h48 => ?_) (fun h48 => absurd h48 (by decide))
    refine s_iload_n (pc := 57) (i := 1) dX12_both_57 rfl rfl ?_
    refine s_iload_n (pc := 58) (i := 2) dX12_both_58 rfl rfl ?_
    refine s_irem (pc := 59) dX12_both_59 (h39) ?_
    refine s_ireturn (pc := 60) dX12_both_60 rfl rfl ?_
    exact hq
  · rw [if_pos h39] at hq
    refine m_ic (pc := 42) (v := 0) dX12_both_42 rfl ?_
    refine s_goto (pc := 43) (tgt := 60) dX12_both_43 rfl ?_
    refine s_ireturn (pc := 60) dX12_both_60 rfl rfl ?_
    exact hq
theorem c_out_2042 {x y : Int32} (hq : Q (.inl (some (.int (x * y)))) σ) : Cn g (d + 0) mX4_outcome [.int (nI 2042), .int x, .int y] σ Q := by
  show Rn g (d + 0) mX4_outcome 0 [.int (nI 2042), .int x, .int y] [] [] σ Q
  refine s_iload_n (pc := 0) (i := 0) dX4_outcome_0 rfl rfl ?_
  refine s_look (pc := 1) (tgt := 90) dX4_outcome_1 rfl rfl rfl ?_
  refine s_iload_n (pc := 90) (i := 1) dX4_outcome_90 rfl rfl ?_
  refine s_iload_n (pc := 91) (i := 2) dX4_outcome_91 rfl rfl ?_
  refine s_imul (pc := 92) dX4_outcome_92 ?_
  refine s_ireturn (pc := 93) dX4_outcome_93 rfl rfl ?_
  exact hq
theorem c_bth_2042 {x y : Int32} (hq : Q (.inl (some (.int (x * y)))) σ) : Cn g (d + 0) mX12_both [.int (nI 4), .int x, .int y] σ Q := by
  show Rn g (d + 0) mX12_both 0 [.int (nI 4), .int x, .int y] [] [] σ Q
  refine s_iload_n (pc := 0) (i := 0) dX12_both_0 rfl rfl ?_
  refine m_ic (pc := 1) (v := 2) dX12_both_1 rfl ?_
  refine s_icne (pc := 2) (tgt := 9) dX12_both_2 rfl (fun h2 => ?_) (fun h2 => absurd h2 (by decide))
  refine s_iload_n (pc := 9) (i := 0) dX12_both_9 rfl rfl ?_
  refine m_ic (pc := 10) (v := 3) dX12_both_10 rfl ?_
  refine s_icne (pc := 11) (tgt := 18) dX12_both_11 rfl (fun h11 => ?_) (fun h11 => absurd h11 (by decide))
  refine s_iload_n (pc := 18) (i := 0) dX12_both_18 rfl rfl ?_
  refine m_ic (pc := 19) (v := 4) dX12_both_19 rfl ?_
  refine s_icne (pc := 20) (tgt := 27) dX12_both_20 rfl (fun h20 => absurd h20 (by decide)) (fun h20 => ?_)
  refine s_iload_n (pc := 23) (i := 1) dX12_both_23 rfl rfl ?_
  refine s_iload_n (pc := 24) (i := 2) dX12_both_24 rfl rfl ?_
  refine s_imul (pc := 25) dX12_both_25 ?_
  refine s_ireturn (pc := 26) dX12_both_26 rfl rfl ?_
  exact hq
theorem c_out_2043 {x y : Int32} (hq : Q (.inl (some (.int (x + y)))) σ) : Cn g (d + 0) mX4_outcome [.int (nI 2043), .int x, .int y] σ Q := by
  show Rn g (d + 0) mX4_outcome 0 [.int (nI 2043), .int x, .int y] [] [] σ Q
  refine s_iload_n (pc := 0) (i := 0) dX4_outcome_0 rfl rfl ?_
  refine s_look (pc := 1) (tgt := 82) dX4_outcome_1 rfl rfl rfl ?_
  refine s_iload_n (pc := 82) (i := 1) dX4_outcome_82 rfl rfl ?_
  refine s_iload_n (pc := 83) (i := 2) dX4_outcome_83 rfl rfl ?_
  refine s_iadd (pc := 84) dX4_outcome_84 ?_
  refine s_ireturn (pc := 85) dX4_outcome_85 rfl rfl ?_
  exact hq
theorem c_bth_2043 {x y : Int32} (hq : Q (.inl (some (.int (x + y)))) σ) : Cn g (d + 0) mX12_both [.int (nI 2), .int x, .int y] σ Q := by
  show Rn g (d + 0) mX12_both 0 [.int (nI 2), .int x, .int y] [] [] σ Q
  refine s_iload_n (pc := 0) (i := 0) dX12_both_0 rfl rfl ?_
  refine m_ic (pc := 1) (v := 2) dX12_both_1 rfl ?_
  refine s_icne (pc := 2) (tgt := 9) dX12_both_2 rfl (fun h2 => absurd h2 (by decide)) (fun h2 => ?_)
  refine s_iload_n (pc := 5) (i := 1) dX12_both_5 rfl rfl ?_
  refine s_iload_n (pc := 6) (i := 2) dX12_both_6 rfl rfl ?_
  refine s_iadd (pc := 7) dX12_both_7 ?_
  refine s_ireturn (pc := 8) dX12_both_8 rfl rfl ?_
  exact hq
theorem c_out_2045 {x y : Int32} (hq : Q (.inl (some (.int (x - y)))) σ) : Cn g (d + 0) mX4_outcome [.int (nI 2045), .int x, .int y] σ Q := by
  show Rn g (d + 0) mX4_outcome 0 [.int (nI 2045), .int x, .int y] [] [] σ Q
  refine s_iload_n (pc := 0) (i := 0) dX4_outcome_0 rfl rfl ?_
  refine s_look (pc := 1) (tgt := 86) dX4_outcome_1 rfl rfl rfl ?_
  refine s_iload_n (pc := 86) (i := 1) dX4_outcome_86 rfl rfl ?_
  refine s_iload_n (pc := 87) (i := 2) dX4_outcome_87 rfl rfl ?_
  refine s_isub (pc := 88) dX4_outcome_88 ?_
  refine s_ireturn (pc := 89) dX4_outcome_89 rfl rfl ?_
  exact hq
theorem c_bth_2045 {x y : Int32} (hq : Q (.inl (some (.int (x - y)))) σ) : Cn g (d + 0) mX12_both [.int (nI 3), .int x, .int y] σ Q := by
  show Rn g (d + 0) mX12_both 0 [.int (nI 3), .int x, .int y] [] [] σ Q
  refine s_iload_n (pc := 0) (i := 0) dX12_both_0 rfl rfl ?_
  refine m_ic (pc := 1) (v := 2) dX12_both_1 rfl ?_
  refine s_icne (pc := 2) (tgt := 9) dX12_both_2 rfl (fun h2 => ?_) (fun h2 => absurd h2 (by decide))
  refine s_iload_n (pc := 9) (i := 0) dX12_both_9 rfl rfl ?_
  refine m_ic (pc := 10) (v := 3) dX12_both_10 rfl ?_
  refine s_icne (pc := 11) (tgt := 18) dX12_both_11 rfl (fun h11 => absurd h11 (by decide)) (fun h11 => ?_)
  refine s_iload_n (pc := 14) (i := 1) dX12_both_14 rfl rfl ?_
  refine s_iload_n (pc := 15) (i := 2) dX12_both_15 rfl rfl ?_
  refine s_isub (pc := 16) dX12_both_16 ?_
  refine s_ireturn (pc := 17) dX12_both_17 rfl rfl ?_
  exact hq
theorem c_out_2047 {x y : Int32} (hq : Q (.inl (some (.int (if y = 0 then 0 else x / y)))) σ) : Cn g (d + 0) mX4_outcome [.int (nI 2047), .int x, .int y] σ Q := by
  show Rn g (d + 0) mX4_outcome 0 [.int (nI 2047), .int x, .int y] [] [] σ Q
  refine s_iload_n (pc := 0) (i := 0) dX4_outcome_0 rfl rfl ?_
  refine s_look (pc := 1) (tgt := 94) dX4_outcome_1 rfl rfl rfl ?_
  refine s_iload_n (pc := 94) (i := 2) dX4_outcome_94 rfl rfl ?_
  refine s_ifne (pc := 95) (tgt := 102) dX4_outcome_95 rfl (fun h95 => ?_) (fun h95 => ?_)
  · rw [if_neg h95] at hq
    refine s_iload_n (pc := 102) (i := 1) dX4_outcome_102 rfl rfl ?_
    refine s_iload_n (pc := 103) (i := 2) dX4_outcome_103 rfl rfl ?_
    refine s_idiv (pc := 104) dX4_outcome_104 (h95) ?_
    refine s_ireturn (pc := 105) dX4_outcome_105 rfl rfl ?_
    exact hq
  · rw [if_pos h95] at hq
    refine m_ic (pc := 98) (v := 0) dX4_outcome_98 rfl ?_
    refine s_goto (pc := 99) (tgt := 105) dX4_outcome_99 rfl ?_
    refine s_ireturn (pc := 105) dX4_outcome_105 rfl rfl ?_
    exact hq
theorem c_bth_2047 {x y : Int32} (hq : Q (.inl (some (.int (if y = 0 then 0 else x / y)))) σ) : Cn g (d + 0) mX12_both [.int (nI 5), .int x, .int y] σ Q := by
  show Rn g (d + 0) mX12_both 0 [.int (nI 5), .int x, .int y] [] [] σ Q
  refine s_iload_n (pc := 0) (i := 0) dX12_both_0 rfl rfl ?_
  refine m_ic (pc := 1) (v := 2) dX12_both_1 rfl ?_
  refine s_icne (pc := 2) (tgt := 9) dX12_both_2 rfl (fun h2 => ?_) (fun h2 => absurd h2 (by decide))
  refine s_iload_n (pc := 9) (i := 0) dX12_both_9 rfl rfl ?_
  refine m_ic (pc := 10) (v := 3) dX12_both_10 rfl ?_
  refine s_icne (pc := 11) (tgt := 18) dX12_both_11 rfl (fun h11 => ?_) (fun h11 => absurd h11 (by decide))
  refine s_iload_n (pc := 18) (i := 0) dX12_both_18 rfl rfl ?_
  refine m_ic (pc := 19) (v := 4) dX12_both_19 rfl ?_
  refine s_icne (pc := 20) (tgt := 27) dX12_both_20 rfl (fun h20 => ?_) (fun h20 => absurd h20 (by decide))
  refine s_iload_n (pc := 27) (i := 0) dX12_both_27 rfl rfl ?_
  refine m_ic (pc := 28) (v := 5) dX12_both_28 rfl ?_
  refine s_iceq (pc := 29) (tgt := 38) dX12_both_29 rfl (fun h29 => ?_) (fun h29 => absurd h29 (by decide))
  refine s_iload_n (pc := 38) (i := 2) dX12_both_38 rfl rfl ?_
  refine s_ifne (pc := 39) (tgt := 46) dX12_both_39 rfl (fun h39 => ?_) (fun h39 => ?_)
  · rw [if_neg h39] at hq
    refine s_iload_n (pc := 46) (i := 0) dX12_both_46 rfl rfl ?_
    refine m_ic (pc := 47) (v := 5) dX12_both_47 rfl ?_
    refine s_icne (pc := 48) (tgt := 57) dX12_both_48 rfl (fun h48 => absurd h48 (by decide)) (fun h48 => ?_)
    refine s_iload_n (pc := 51) (i := 1) dX12_both_51 rfl rfl ?_
    refine s_iload_n (pc := 52) (i := 2) dX12_both_52 rfl rfl ?_
    refine s_idiv (pc := 53) dX12_both_53 (h39) ?_
    refine s_goto (pc := 54) (tgt := 60) dX12_both_54 rfl ?_
    refine s_ireturn (pc := 60) dX12_both_60 rfl rfl ?_
    exact hq
  · rw [if_pos h39] at hq
    refine m_ic (pc := 42) (v := 0) dX12_both_42 rfl ?_
    refine s_goto (pc := 43) (tgt := 60) dX12_both_43 rfl ?_
    refine s_ireturn (pc := 60) dX12_both_60 rfl rfl ?_
    exact hq
theorem c_out {c : Nat} {x y : Int32} (hc : cok c = true) (h2 : ¬ c < 2000) (hq : Q (.inl (some (.int (opv c x y)))) σ) : Cn g (d + 0) mX4_outcome [.int (nI c), .int x, .int y] σ Q := by
  have h := of_decide_eq_true hc
  rcases h with e | e | e | e | e | e | e | e
  · omega
  · subst e; exact c_out_2000 hq
  · subst e; exact c_out_2001 hq
  · subst e; exact c_out_2037 hq
  · subst e; exact c_out_2042 hq
  · subst e; exact c_out_2043 hq
  · subst e; exact c_out_2045 hq
  · subst e; exact c_out_2047 hq
theorem c_bth {c : Nat} {x y : Int32} (hc : cok c = true) (h2 : ¬ c < 2000) (hq : Q (.inl (some (.int (opv c x y)))) σ) : Cn g (d + 0) mX12_both [.int (nI (mc c)), .int x, .int y] σ Q := by
  have h := of_decide_eq_true hc
  rcases h with e | e | e | e | e | e | e | e
  · omega
  · subst e; exact c_bth_2000 hq
  · subst e; exact c_bth_2001 hq
  · subst e; exact c_bth_2037 hq
  · subst e; exact c_bth_2042 hq
  · subst e; exact c_bth_2043 hq
  · subst e; exact c_bth_2045 hq
  · subst e; exact c_bth_2047 hq
theorem opv_0 {x y : Int32} : opv 2043 x y = x + y := rfl
theorem up_17 {V : Nat → Int32} {a m : Nat} {v : Int32} (h : ∀ j, j < m → I a j = V j) : ∀ j, j < m + 1 → up I a m v a j = uV V m v j := fun j hj => by
  by_cases e : j = m
  · subst e; rw [up_s]; simp [uV]
  · rw [up_k e]; simp only [uV]; rw [if_neg e]; exact h j (by omega)
theorem up_18 {V : Nat → Int32} {a m : Nat} {v : Int32} (h : ∀ j, j < m + 2 → I a j = V j) : ∀ j, j < m + 1 → up I a m v a j = uV V m v j := fun j hj => by
  by_cases e : j = m
  · subst e; rw [up_s]; simp [uV]
  · rw [up_k e]; simp only [uV]; rw [if_neg e]; exact h j (by omega)
theorem getD_c {c : Nat} {cs : List Nat} {j : Nat} : (c :: cs).getD (j + 1) 0 = cs.getD j 0 := rfl
theorem ev_lp {f : Nat → Int32} {L : Nat} (hL : L ≤ 150) : ∀ cs i m V I1 (v3 : Value), I1 14 3 = nI L → (∀ j, j < cs.length → I1 15 (i + j) = nI (cs.getD j 0)) → i + cs.length = L → hk cs m = true → m ≤ i → (∀ j, j < m → I1 17 j = V j) → (∀ j, j < 9 → I1 16 j = f j) → (∀ I', fl I1 I' → Q (.inl (some (.int (clp (ev f cs m V 0))))) (Z I' J n w)) → Rn g (d + 1) mX4_loadAsTold 4 [.ref 14, .int (nI m), .int (nI i), v3] [] [] (Z I1 J n w) Q := by
  intro cs
  induction cs with
  | nil =>
    intro i m V I1 v3 hs hr hi hk1 hm hV hf hq
    have hm1 : m = 1 := by simpa [hk] using hk1
    subst hm1
    simp only [List.length_nil, Nat.add_zero] at hi
    subst hi
    simp only [ev] at hq
    refine s_iload_n (pc := 4) (i := 2) dX4_loadAsTold_4 rfl rfl ?_
    refine s_aload_n (pc := 5) (i := 0) dX4_loadAsTold_5 rfl rfl ?_
    refine m_gi (pc := 6) dX4_loadAsTold_6 ff_X4_24 rfl o_14 ?_
    refine m_nm (v' := nI i) (hs) ?_
    refine s_icge (pc := 9) (tgt := 99) dX4_loadAsTold_9 rfl (fun h9 => ?_) (fun h9 => absurd (nI_le (by omega) (by omega)) h9)
    refine s_iload_n (pc := 99) (i := 1) dX4_loadAsTold_99 rfl rfl ?_
    refine s_ifle (pc := 100) (tgt := 112) dX4_loadAsTold_100 rfl (fun h100 => absurd h100 (nI_nle (n := 1) (by decide) (by decide))) (fun h100 => ?_)
    refine s_aload_n (pc := 103) (i := 0) dX4_loadAsTold_103 rfl rfl ?_
    refine m_gr (pc := 104) dX4_loadAsTold_104 ff_X4_18 rfl o_14 r_14_2 ?_
    refine m_ic (pc := 107) (v := 0) dX4_loadAsTold_107 rfl ?_
    refine m_ia (pc := 108) dX4_loadAsTold_108 a_17 (vp_in_nI (n := 0) (by decide) (by decide)) ?_
    refine m_nm (v' := V 0) (by show I1 17 0 = _; exact hV 0 (by omega)) ?_
    refine s_goto (pc := 109) (tgt := 113) dX4_loadAsTold_109 rfl ?_
    refine s_istore_n (pc := 113) (i := 2) dX4_loadAsTold_113 rfl (Nat.le_of_ble_eq_true rfl) ?_
    dsimp only [List.set, List.filter]
    refine s_iload_n (pc := 114) (i := 2) dX4_loadAsTold_114 rfl rfl ?_
    refine s_ifge (pc := 115) (tgt := 122) dX4_loadAsTold_115 rfl (fun h115 => ?_) (fun h115 => ?_)
    · refine s_iload_n (pc := 122) (i := 2) dX4_loadAsTold_122 rfl rfl ?_
      refine m_bi (pc := 123) (v := 60) dX4_loadAsTold_123 rfl ?_
      refine s_icle (pc := 125) (tgt := 133) dX4_loadAsTold_125 rfl (fun h125 => ?_) (fun h125 => ?_)
      · rw [clp_in (Int32.not_lt.mpr h115) h125] at hq
        refine s_iload_n (pc := 133) (i := 2) dX4_loadAsTold_133 rfl rfl ?_
        refine s_ireturn (pc := 134) dX4_loadAsTold_134 rfl rfl ?_
        exact hq I1 fl_r
      · rw [clp_big (Int32.not_lt.mpr h115) h125] at hq
        refine m_bi (pc := 128) (v := 60) dX4_loadAsTold_128 rfl ?_
        refine s_goto (pc := 130) (tgt := 134) dX4_loadAsTold_130 rfl ?_
        refine s_ireturn (pc := 134) dX4_loadAsTold_134 rfl rfl ?_
        exact hq I1 fl_r
    · rw [clp_neg (Int32.not_le.mp h115)] at hq
      refine m_ic (pc := 118) (v := 0) dX4_loadAsTold_118 rfl ?_
      refine s_goto (pc := 119) (tgt := 134) dX4_loadAsTold_119 rfl ?_
      refine s_ireturn (pc := 134) dX4_loadAsTold_134 rfl rfl ?_
      exact hq I1 fl_r
  | cons c cs ih =>
    intro i m V I1 v3 hs hr hi hk1 hm hV hf hq
    simp only [List.length_cons] at hi
    have hc : cok c = true := by rw [hk] at hk1; simp at hk1; exact hk1.1
    have hc1 := of_decide_eq_true hc
    have h0 : I1 15 i = nI c := hr 0 (by simp)
    have hr' : ∀ j, j < cs.length → I1 15 (i + 1 + j) = nI (cs.getD j 0) := fun j hj => by
      have := hr (j + 1) (by simp; omega)
      rw [getD_c] at this
      rw [← this]; congr 1; omega
    refine s_iload_n (pc := 4) (i := 2) dX4_loadAsTold_4 rfl rfl ?_
    refine s_aload_n (pc := 5) (i := 0) dX4_loadAsTold_5 rfl rfl ?_
    refine m_gi (pc := 6) dX4_loadAsTold_6 ff_X4_24 rfl o_14 ?_
    refine m_nm (v' := nI L) (hs) ?_
    refine s_icge (pc := 9) (tgt := 99) dX4_loadAsTold_9 rfl (fun h9 => absurd h9 (nI_ge (by omega) (by omega))) (fun h9 => ?_)
    refine s_aload_n (pc := 12) (i := 0) dX4_loadAsTold_12 rfl rfl ?_
    refine m_gr (pc := 13) dX4_loadAsTold_13 ff_X4_9 rfl o_14 r_14_0 ?_
    refine s_iload_n (pc := 16) (i := 2) dX4_loadAsTold_16 rfl rfl ?_
    refine m_ia (pc := 17) dX4_loadAsTold_17 a_15 (vp_in_nI (by omega) (by decide)) ?_
    refine m_nm (v' := nI c) (by rw [nI_clamp (by omega)]; exact h0) ?_
    refine s_istore_n (pc := 18) (i := 3) dX4_loadAsTold_18 rfl (Nat.le_of_ble_eq_true rfl) ?_
    dsimp only [List.set, List.filter]
    refine s_iload_n (pc := 19) (i := 3) dX4_loadAsTold_19 rfl rfl ?_
    refine m_si (pc := 20) (v := 2000) dX4_loadAsTold_20 rfl ?_
    refine s_icge (pc := 23) (tgt := 59) dX4_loadAsTold_23 rfl (fun h23 => ?_) (fun h23 => ?_)
    · have c2 : 2000 ≤ c := (nI_leI (by decide) (by omega)).mp h23
      have hk2 : 2 ≤ m ∧ hk cs (m - 1) = true := by rw [hk, if_neg (by omega)] at hk1; simp at hk1; exact hk1.2
      obtain ⟨k, ek⟩ : ∃ k, m = k + 2 := ⟨m - 2, by omega⟩
      subst ek
      refine s_iload_n (pc := 59) (i := 1) dX4_loadAsTold_59 rfl rfl ?_
      refine m_ic (pc := 60) (v := 2) dX4_loadAsTold_60 rfl ?_
      refine s_iclt (pc := 61) (tgt := 93) dX4_loadAsTold_61 rfl (fun h61 => absurd h61 ((nI_nlt (a := k + 2) (b := 2) (by omega) (by omega)))) (fun h61 => ?_)
      refine m_inc (pc := 64) (v := (-1)) dX4_loadAsTold_64 rfl rfl ?_
      dsimp only [List.set, List.filter]
      rw [show nI (k + 2) + -1 = nI (k + 1) from pk_m1 _]
      refine s_aload_n (pc := 67) (i := 0) dX4_loadAsTold_67 rfl rfl ?_
      refine m_gr (pc := 68) dX4_loadAsTold_68 ff_X4_18 rfl o_14 r_14_2 ?_
      refine s_iload_n (pc := 71) (i := 1) dX4_loadAsTold_71 rfl rfl ?_
      refine m_ic (pc := 72) (v := 1) dX4_loadAsTold_72 rfl ?_
      refine s_isub (pc := 73) dX4_loadAsTold_73 ?_
      refine m_nm (v' := nI k) (nI_pred k) ?_
      refine s_iload_n (pc := 74) (i := 3) dX4_loadAsTold_74 rfl rfl ?_
      refine s_aload_n (pc := 75) (i := 0) dX4_loadAsTold_75 rfl rfl ?_
      refine m_gr (pc := 76) dX4_loadAsTold_76 ff_X4_18 rfl o_14 r_14_2 ?_
      refine s_iload_n (pc := 79) (i := 1) dX4_loadAsTold_79 rfl rfl ?_
      refine m_ic (pc := 80) (v := 1) dX4_loadAsTold_80 rfl ?_
      refine s_isub (pc := 81) dX4_loadAsTold_81 ?_
      refine m_nm (v' := nI k) (nI_pred k) ?_
      refine m_ia (pc := 82) dX4_loadAsTold_82 a_17 (vp_in_nI (by omega) (by decide)) ?_
      refine m_nm (v' := V k) (by rw [nI_clamp (by omega)]; exact hV k (by omega)) ?_
      refine s_aload_n (pc := 83) (i := 0) dX4_loadAsTold_83 rfl rfl ?_
      refine m_gr (pc := 84) dX4_loadAsTold_84 ff_X4_18 rfl o_14 r_14_2 ?_
      refine s_iload_n (pc := 87) (i := 1) dX4_loadAsTold_87 rfl rfl ?_
      refine m_ia (pc := 88) dX4_loadAsTold_88 a_17 (vp_in_nI (by omega) (by decide)) ?_
      refine m_nm (v' := V (k + 1)) (by rw [nI_clamp (by omega)]; exact hV (k + 1) (by omega)) ?_
      refine m_s3 (pc := 89) dX4_loadAsTold_89 lk_X4_51 ok_X4_outcome rfl rfl (c_out hc (by omega) (kt_s ?_))
      refine m_is (pc := 92) dX4_loadAsTold_92 a_17 (vp_in_nI (by omega) (by decide)) ?_
      rw [nI_clamp (by omega)]
      refine m_inc (pc := 93) (v := 1) dX4_loadAsTold_93 rfl rfl ?_
      dsimp only [List.set, List.filter]
      rw [nI_1]
      refine s_goto (pc := 96) (tgt := 4) dX4_loadAsTold_96 rfl ?_
      exact ih (i + 1) (k + 1) _ _ _ (by rw [up_a (by decide)]; exact hs) (fun j hj => by rw [up_a (by decide)]; exact hr' j hj) (by omega) hk2.2 (by omega) (up_18 hV) (fun j hj => by rw [up_a (by decide)]; exact hf j hj) (fun I' z => by have h := hq I' (fl_t (fl_u fl_r (Or.inr rfl)) z); simp only [ev] at h; rw [if_neg (by omega), if_neg (by omega)] at h; exact h)
    · have c2 : c < 2000 := Nat.not_le.mp (fun z => h23 (nI_le (a := 2000) z (by omega)))
      refine s_aload_n (pc := 26) (i := 0) dX4_loadAsTold_26 rfl rfl ?_
      refine m_gr (pc := 27) dX4_loadAsTold_27 ff_X4_18 rfl o_14 r_14_2 ?_
      refine s_iload_n (pc := 30) (i := 1) dX4_loadAsTold_30 rfl rfl ?_
      refine s_iload_n (pc := 31) (i := 3) dX4_loadAsTold_31 rfl rfl ?_
      refine m_si (pc := 32) (v := 1000) dX4_loadAsTold_32 rfl ?_
      refine s_icge (pc := 35) (tgt := 42) dX4_loadAsTold_35 rfl (fun h35 => ?_) (fun h35 => ?_)
      · have c3 : 1000 ≤ c := (nI_leI (by decide) (by omega)).mp h35
        refine s_aload_n (pc := 42) (i := 0) dX4_loadAsTold_42 rfl rfl ?_
        refine m_gr (pc := 43) dX4_loadAsTold_43 ff_X4_15 rfl o_14 r_14_1 ?_
        refine s_iload_n (pc := 46) (i := 3) dX4_loadAsTold_46 rfl rfl ?_
        refine m_si (pc := 47) (v := 1000) dX4_loadAsTold_47 rfl ?_
        refine s_isub (pc := 50) dX4_loadAsTold_50 ?_
        refine m_nm (v' := nI (c - 1000)) ((show nI c - nI 1000 = _ from pk_sub (by omega))) ?_
        refine m_ia (pc := 51) dX4_loadAsTold_51 a_16 (vp_in_nI (by omega) (by decide)) ?_
        refine m_nm (v' := f (c - 1000)) (by rw [nI_clamp (by omega)]; exact hf _ (by omega)) ?_
        refine m_is (pc := 52) dX4_loadAsTold_52 a_17 (vp_in_nI (by omega) (by decide)) ?_
        rw [nI_clamp (by omega)]
        refine m_inc (pc := 53) (v := 1) dX4_loadAsTold_53 rfl rfl ?_
        dsimp only [List.set, List.filter]
        rw [nI_1]
        refine s_goto (pc := 56) (tgt := 93) dX4_loadAsTold_56 rfl ?_
        refine m_inc (pc := 93) (v := 1) dX4_loadAsTold_93 rfl rfl ?_
        dsimp only [List.set, List.filter]
        rw [nI_1]
        refine s_goto (pc := 96) (tgt := 4) dX4_loadAsTold_96 rfl ?_
        exact ih (i + 1) (m + 1) _ _ _ (by rw [up_a (by decide)]; exact hs) (fun j hj => by rw [up_a (by decide)]; exact hr' j hj) (by omega) (by rw [hk_p hc c2] at hk1; exact hk1) (by omega) (up_17 hV) (fun j hj => by rw [up_a (by decide)]; exact hf j hj) (fun I' z => by have h := hq I' (fl_t (fl_u fl_r (Or.inr rfl)) z); simp only [ev] at h; rw [if_neg (by omega), if_pos c2] at h; exact h)
      · have c3 : c < 1000 := Nat.not_le.mp (fun z => h35 (nI_le (a := 1000) z (by omega)))
        refine s_iload_n (pc := 38) (i := 3) dX4_loadAsTold_38 rfl rfl ?_
        refine s_goto (pc := 39) (tgt := 52) dX4_loadAsTold_39 rfl ?_
        refine m_is (pc := 52) dX4_loadAsTold_52 a_17 (vp_in_nI (by omega) (by decide)) ?_
        rw [nI_clamp (by omega)]
        refine m_inc (pc := 53) (v := 1) dX4_loadAsTold_53 rfl rfl ?_
        dsimp only [List.set, List.filter]
        rw [nI_1]
        refine s_goto (pc := 56) (tgt := 93) dX4_loadAsTold_56 rfl ?_
        refine m_inc (pc := 93) (v := 1) dX4_loadAsTold_93 rfl rfl ?_
        dsimp only [List.set, List.filter]
        rw [nI_1]
        refine s_goto (pc := 96) (tgt := 4) dX4_loadAsTold_96 rfl ?_
        exact ih (i + 1) (m + 1) _ _ _ (by rw [up_a (by decide)]; exact hs) (fun j hj => by rw [up_a (by decide)]; exact hr' j hj) (by omega) (by rw [hk_p hc c2] at hk1; exact hk1) (by omega) (up_17 hV) (fun j hj => by rw [up_a (by decide)]; exact hf j hj) (fun I' z => by have h := hq I' (fl_t (fl_u fl_r (Or.inr rfl)) z); simp only [ev] at h; rw [if_pos c3] at h; exact h)
theorem c_X4_loadAsTold {f : Nat → Int32} {cs : List Nat} (hL : Lw I 14 cs) (hk1 : lOk cs) (hf : ∀ j, j < 9 → I 16 j = f j) (hq : ∀ I', fl I I' → Q (.inl (some (.int (nI (ldv f cs))))) (Z I' J n w)) : Cn g (d + 1) mX4_loadAsTold [.ref 14] (Z I J n w) Q := by
  show Rn g (d + 1) mX4_loadAsTold 0 [.ref 14, .retAddr 0, .retAddr 0, .retAddr 0] [] [] (Z I J n w) Q
  refine m_ic (pc := 0) (v := 0) dX4_loadAsTold_0 rfl ?_
  refine s_istore_n (pc := 1) (i := 1) dX4_loadAsTold_1 rfl (Nat.le_of_ble_eq_true rfl) ?_
  dsimp only [List.set, List.filter]
  refine m_ic (pc := 2) (v := 0) dX4_loadAsTold_2 rfl ?_
  refine s_istore_n (pc := 3) (i := 2) dX4_loadAsTold_3 rfl (Nat.le_of_ble_eq_true rfl) ?_
  dsimp only [List.set, List.filter]
  exact ev_lp (f := f) hk1.2 cs 0 0 (fun _ => 0) I _ hL.1 (fun j hj => by rw [Nat.zero_add]; exact hL.2 j hj) (by omega) hk1.1 (by omega) (fun j hj => absurd hj (by omega)) hf (fun I' z => by rw [(ldv_1 f cs).1]; exact hq I' z)
theorem mc_p {c : Nat} (h : c < 1000) : mc c = 0 ∧ mo c = c := by unfold mc mo; rw [if_pos h, if_pos h]; exact ⟨rfl, rfl⟩
theorem mc_f {c : Nat} (h : ¬ c < 1000) (h2 : c < 2000) : mc c = 1 ∧ mo c = c - 1000 := by unfold mc mo; rw [if_neg h, if_neg h, if_pos h2, if_pos h2]; exact ⟨rfl, rfl⟩
theorem mc_o {c : Nat} (h : cok c = true) (h2 : ¬ c < 2000) : 2 ≤ mc c ∧ mc c ≤ 8 := by
  have h3 := of_decide_eq_true h
  rcases h3 with e | e | e | e | e | e | e | e
  · omega
  all_goals (subst e; decide)
def Lx (I : Nat → Nat → Int32) (cs : List Nat) : Prop := I 534 26 = nI cs.length ∧ ∀ i, i < cs.length → I 543 i = nI (mc (cs.getD i 0)) ∧ I 544 i = nI (mo (cs.getD i 0))
theorem mv_lp {f : Nat → Int32} {L : Nat} (hL : L ≤ 150) : ∀ cs i m V I1 (v3 : Value), I1 534 26 = nI L → (∀ j, j < cs.length → I1 543 (i + j) = nI (mc (cs.getD j 0)) ∧ I1 544 (i + j) = nI (mo (cs.getD j 0))) → i + cs.length = L → hk cs m = true → m ≤ i → (∀ j, j < m → I1 545 j = V j) → (∀ j, j < 9 → I1 546 j = f j) → (∀ I', fm I1 I' → Q (.inl (some (.int (ev f cs m V 0)))) (Z I' J n w)) → Rn g (d + 1) mX12_valueNow 4 [.ref 534, .int (nI m), .int (nI i), v3] [] [] (Z I1 J n w) Q := by
  intro cs
  induction cs with
  | nil =>
    intro i m V I1 v3 hs hr hi hk1 hm hV hf hq
    have hm1 : m = 1 := by simpa [hk] using hk1
    subst hm1
    simp only [List.length_nil, Nat.add_zero] at hi
    subst hi
    simp only [ev] at hq
    refine s_iload_n (pc := 4) (i := 2) dX12_valueNow_4 rfl rfl ?_
    refine s_aload_n (pc := 5) (i := 0) dX12_valueNow_5 rfl rfl ?_
    refine m_gi (pc := 6) dX12_valueNow_6 ff_X12_167 rfl o_534 ?_
    refine m_nm (v' := nI i) (hs) ?_
    refine s_icge (pc := 9) (tgt := 95) dX12_valueNow_9 rfl (fun h9 => ?_) (fun h9 => absurd (nI_le (by omega) (by omega)) h9)
    refine s_aload_n (pc := 95) (i := 0) dX12_valueNow_95 rfl rfl ?_
    refine m_gr (pc := 96) dX12_valueNow_96 ff_X12_47 rfl o_534 r_534_24 ?_
    refine m_ic (pc := 99) (v := 0) dX12_valueNow_99 rfl ?_
    refine m_ia (pc := 100) dX12_valueNow_100 a_545 (vp_in_nI (n := 0) (by decide) (by decide)) ?_
    refine m_nm (v' := V 0) (by show I1 545 0 = _; exact hV 0 (by omega)) ?_
    refine s_ireturn (pc := 101) dX12_valueNow_101 rfl rfl ?_
    exact hq I1 fm_r
  | cons c cs ih =>
    intro i m V I1 v3 hs hr hi hk1 hm hV hf hq
    simp only [List.length_cons] at hi
    have hc : cok c = true := by rw [hk] at hk1; simp at hk1; exact hk1.1
    have hc1 := of_decide_eq_true hc
    have h0 : I1 543 i = nI (mc c) ∧ I1 544 i = nI (mo c) := hr 0 (by simp)
    have hr' : ∀ j, j < cs.length → I1 543 (i + 1 + j) = nI (mc (cs.getD j 0)) ∧ I1 544 (i + 1 + j) = nI (mo (cs.getD j 0)) := fun j hj => by
      have := hr (j + 1) (by simp; omega)
      rw [getD_c, show i + (j + 1) = i + 1 + j by omega] at this
      exact this
    have ST : ∀ (m' : Nat) (V' : Nat → Int32) (v : Int32) (k : Nat) (v3 : Value), hk cs m' = true → m' ≤ i + 1 → (∀ j, j < m' → up I1 545 k v 545 j = V' j) → (∀ I', fm I1 I' → Q (.inl (some (.int (ev f cs m' V' 0)))) (Z I' J n w)) → Rn g (d + 1) mX12_valueNow 4 [.ref 534, .int (nI m'), .int (nI (i + 1)), v3] [] [] (Z (up I1 545 k v) J n w) Q := fun m' V' v k v3 z1 z2 z3 z4 =>
      ih (i + 1) m' V' _ v3 (by rw [up_a (by decide)]; exact hs) (fun j hj => by rw [up_a (by decide), up_a (by decide)]; exact hr' j hj) (by omega) z1 z2 z3 (fun j hj => by rw [up_a (by decide)]; exact hf j hj) (fun I' z => z4 I' (fm_t (fm_u fm_r (Or.inl rfl)) z))
    by_cases c2 : c < 2000
    · rw [hk_p hc c2] at hk1
      by_cases c3 : c < 1000
      · obtain ⟨e1, e2⟩ := mc_p c3
        rw [e1, e2] at h0
        refine s_iload_n (pc := 4) (i := 2) dX12_valueNow_4 rfl rfl ?_
        refine s_aload_n (pc := 5) (i := 0) dX12_valueNow_5 rfl rfl ?_
        refine m_gi (pc := 6) dX12_valueNow_6 ff_X12_167 rfl o_534 ?_
        refine m_nm (v' := nI L) (hs) ?_
        refine s_icge (pc := 9) (tgt := 95) dX12_valueNow_9 rfl (fun h9 => absurd h9 (nI_ge (by omega) (by omega))) (fun h9 => ?_)
        refine s_aload_n (pc := 12) (i := 0) dX12_valueNow_12 rfl rfl ?_
        refine m_gr (pc := 13) dX12_valueNow_13 ff_X12_41 rfl o_534 r_534_22 ?_
        refine s_iload_n (pc := 16) (i := 2) dX12_valueNow_16 rfl rfl ?_
        refine m_ia (pc := 17) dX12_valueNow_17 a_543 (vp_in_nI (by omega) (by decide)) ?_
        refine m_nm (v' := 0) (by rw [nI_clamp (by omega)]; exact h0.1) ?_
        refine s_istore_n (pc := 18) (i := 3) dX12_valueNow_18 rfl (Nat.le_of_ble_eq_true rfl) ?_
        dsimp only [List.set, List.filter]
        refine s_iload_n (pc := 19) (i := 3) dX12_valueNow_19 rfl rfl ?_
        refine m_ic (pc := 20) (v := 1) dX12_valueNow_20 rfl ?_
        refine s_icgt (pc := 21) (tgt := 60) dX12_valueNow_21 rfl (fun h21 => absurd h21 (by decide)) (fun h21 => ?_)
        refine s_aload_n (pc := 24) (i := 0) dX12_valueNow_24 rfl rfl ?_
        refine m_gr (pc := 25) dX12_valueNow_25 ff_X12_47 rfl o_534 r_534_24 ?_
        refine s_iload_n (pc := 28) (i := 1) dX12_valueNow_28 rfl rfl ?_
        refine s_iload_n (pc := 29) (i := 3) dX12_valueNow_29 rfl rfl ?_
        refine s_ifne (pc := 30) (tgt := 42) dX12_valueNow_30 rfl (fun h30 => absurd h30 (by decide)) (fun h30 => ?_)
        refine s_aload_n (pc := 33) (i := 0) dX12_valueNow_33 rfl rfl ?_
        refine m_gr (pc := 34) dX12_valueNow_34 ff_X12_44 rfl o_534 r_534_23 ?_
        refine s_iload_n (pc := 37) (i := 2) dX12_valueNow_37 rfl rfl ?_
        refine m_ia (pc := 38) dX12_valueNow_38 a_544 (vp_in_nI (by omega) (by decide)) ?_
        refine m_nm (v' := nI c) (by rw [nI_clamp (by omega)]; exact h0.2) ?_
        refine s_goto (pc := 39) (tgt := 53) dX12_valueNow_39 rfl ?_
        refine m_is (pc := 53) dX12_valueNow_53 a_545 (vp_in_nI (by omega) (by decide)) ?_
        rw [nI_clamp (by omega)]
        refine m_inc (pc := 54) (v := 1) dX12_valueNow_54 rfl rfl ?_
        dsimp only [List.set, List.filter]
        rw [nI_1]
        refine s_goto (pc := 57) (tgt := 89) dX12_valueNow_57 rfl ?_
        refine m_inc (pc := 89) (v := 1) dX12_valueNow_89 rfl rfl ?_
        dsimp only [List.set, List.filter]
        rw [nI_1]
        refine s_goto (pc := 92) (tgt := 4) dX12_valueNow_92 rfl ?_
        exact ST (m + 1) _ _ m _ hk1 (by omega) (up_17 hV) (fun I' z => by have h := hq I' z; simp only [ev] at h; rw [if_pos c3] at h; exact h)
      · obtain ⟨e1, e2⟩ := mc_f c3 c2
        rw [e1, e2] at h0
        refine s_iload_n (pc := 4) (i := 2) dX12_valueNow_4 rfl rfl ?_
        refine s_aload_n (pc := 5) (i := 0) dX12_valueNow_5 rfl rfl ?_
        refine m_gi (pc := 6) dX12_valueNow_6 ff_X12_167 rfl o_534 ?_
        refine m_nm (v' := nI L) (hs) ?_
        refine s_icge (pc := 9) (tgt := 95) dX12_valueNow_9 rfl (fun h9 => absurd h9 (nI_ge (by omega) (by omega))) (fun h9 => ?_)
        refine s_aload_n (pc := 12) (i := 0) dX12_valueNow_12 rfl rfl ?_
        refine m_gr (pc := 13) dX12_valueNow_13 ff_X12_41 rfl o_534 r_534_22 ?_
        refine s_iload_n (pc := 16) (i := 2) dX12_valueNow_16 rfl rfl ?_
        refine m_ia (pc := 17) dX12_valueNow_17 a_543 (vp_in_nI (by omega) (by decide)) ?_
        refine m_nm (v' := 1) (by rw [nI_clamp (by omega)]; exact h0.1) ?_
        refine s_istore_n (pc := 18) (i := 3) dX12_valueNow_18 rfl (Nat.le_of_ble_eq_true rfl) ?_
        dsimp only [List.set, List.filter]
        refine s_iload_n (pc := 19) (i := 3) dX12_valueNow_19 rfl rfl ?_
        refine m_ic (pc := 20) (v := 1) dX12_valueNow_20 rfl ?_
        refine s_icgt (pc := 21) (tgt := 60) dX12_valueNow_21 rfl (fun h21 => absurd h21 (by decide)) (fun h21 => ?_)
        refine s_aload_n (pc := 24) (i := 0) dX12_valueNow_24 rfl rfl ?_
        refine m_gr (pc := 25) dX12_valueNow_25 ff_X12_47 rfl o_534 r_534_24 ?_
        refine s_iload_n (pc := 28) (i := 1) dX12_valueNow_28 rfl rfl ?_
        refine s_iload_n (pc := 29) (i := 3) dX12_valueNow_29 rfl rfl ?_
        refine s_ifne (pc := 30) (tgt := 42) dX12_valueNow_30 rfl (fun h30 => ?_) (fun h30 => absurd h30 (by decide))
        refine s_aload_n (pc := 42) (i := 0) dX12_valueNow_42 rfl rfl ?_
        refine m_gr (pc := 43) dX12_valueNow_43 ff_X12_50 rfl o_534 r_534_27 ?_
        refine s_aload_n (pc := 46) (i := 0) dX12_valueNow_46 rfl rfl ?_
        refine m_gr (pc := 47) dX12_valueNow_47 ff_X12_44 rfl o_534 r_534_23 ?_
        refine s_iload_n (pc := 50) (i := 2) dX12_valueNow_50 rfl rfl ?_
        refine m_ia (pc := 51) dX12_valueNow_51 a_544 (vp_in_nI (by omega) (by decide)) ?_
        refine m_nm (v' := nI (c - 1000)) (by rw [nI_clamp (by omega)]; exact h0.2) ?_
        refine m_ia (pc := 52) dX12_valueNow_52 a_546 (vp_in_nI (by omega) (by decide)) ?_
        refine m_nm (v' := f (c - 1000)) (by rw [nI_clamp (by omega)]; exact hf _ (by omega)) ?_
        refine m_is (pc := 53) dX12_valueNow_53 a_545 (vp_in_nI (by omega) (by decide)) ?_
        rw [nI_clamp (by omega)]
        refine m_inc (pc := 54) (v := 1) dX12_valueNow_54 rfl rfl ?_
        dsimp only [List.set, List.filter]
        rw [nI_1]
        refine s_goto (pc := 57) (tgt := 89) dX12_valueNow_57 rfl ?_
        refine m_inc (pc := 89) (v := 1) dX12_valueNow_89 rfl rfl ?_
        dsimp only [List.set, List.filter]
        rw [nI_1]
        refine s_goto (pc := 92) (tgt := 4) dX12_valueNow_92 rfl ?_
        exact ST (m + 1) _ _ m _ hk1 (by omega) (up_17 hV) (fun I' z => by have h := hq I' z; simp only [ev] at h; rw [if_neg c3, if_pos c2] at h; exact h)
    · have hk2 : 2 ≤ m ∧ hk cs (m - 1) = true := by rw [hk, if_neg c2] at hk1; simp at hk1; exact hk1.2
      have hm2 := mc_o hc c2
      obtain ⟨k, ek⟩ : ∃ k, m = k + 2 := ⟨m - 2, by omega⟩
      subst ek
      refine s_iload_n (pc := 4) (i := 2) dX12_valueNow_4 rfl rfl ?_
      refine s_aload_n (pc := 5) (i := 0) dX12_valueNow_5 rfl rfl ?_
      refine m_gi (pc := 6) dX12_valueNow_6 ff_X12_167 rfl o_534 ?_
      refine m_nm (v' := nI L) (hs) ?_
      refine s_icge (pc := 9) (tgt := 95) dX12_valueNow_9 rfl (fun h9 => absurd h9 (nI_ge (by omega) (by omega))) (fun h9 => ?_)
      refine s_aload_n (pc := 12) (i := 0) dX12_valueNow_12 rfl rfl ?_
      refine m_gr (pc := 13) dX12_valueNow_13 ff_X12_41 rfl o_534 r_534_22 ?_
      refine s_iload_n (pc := 16) (i := 2) dX12_valueNow_16 rfl rfl ?_
      refine m_ia (pc := 17) dX12_valueNow_17 a_543 (vp_in_nI (by omega) (by decide)) ?_
      refine m_nm (v' := nI (mc c)) (by rw [nI_clamp (by omega)]; exact h0.1) ?_
      refine s_istore_n (pc := 18) (i := 3) dX12_valueNow_18 rfl (Nat.le_of_ble_eq_true rfl) ?_
      dsimp only [List.set, List.filter]
      refine s_iload_n (pc := 19) (i := 3) dX12_valueNow_19 rfl rfl ?_
      refine m_ic (pc := 20) (v := 1) dX12_valueNow_20 rfl ?_
      refine s_icgt (pc := 21) (tgt := 60) dX12_valueNow_21 rfl (fun h21 => ?_) (fun h21 => absurd (nI_lt (a := 1) (b := mc c) (by omega) (by omega)) h21)
      refine m_inc (pc := 60) (v := (-1)) dX12_valueNow_60 rfl rfl ?_
      dsimp only [List.set, List.filter]
      rw [show nI (k + 2) + -1 = nI (k + 1) from pk_m1 _]
      refine s_aload_n (pc := 63) (i := 0) dX12_valueNow_63 rfl rfl ?_
      refine m_gr (pc := 64) dX12_valueNow_64 ff_X12_47 rfl o_534 r_534_24 ?_
      refine s_iload_n (pc := 67) (i := 1) dX12_valueNow_67 rfl rfl ?_
      refine m_ic (pc := 68) (v := 1) dX12_valueNow_68 rfl ?_
      refine s_isub (pc := 69) dX12_valueNow_69 ?_
      refine m_nm (v' := nI k) (nI_pred k) ?_
      refine s_iload_n (pc := 70) (i := 3) dX12_valueNow_70 rfl rfl ?_
      refine s_aload_n (pc := 71) (i := 0) dX12_valueNow_71 rfl rfl ?_
      refine m_gr (pc := 72) dX12_valueNow_72 ff_X12_47 rfl o_534 r_534_24 ?_
      refine s_iload_n (pc := 75) (i := 1) dX12_valueNow_75 rfl rfl ?_
      refine m_ic (pc := 76) (v := 1) dX12_valueNow_76 rfl ?_
      refine s_isub (pc := 77) dX12_valueNow_77 ?_
      refine m_nm (v' := nI k) (nI_pred k) ?_
      refine m_ia (pc := 78) dX12_valueNow_78 a_545 (vp_in_nI (by omega) (by decide)) ?_
      refine m_nm (v' := V k) (by rw [nI_clamp (by omega)]; exact hV k (by omega)) ?_
      refine s_aload_n (pc := 79) (i := 0) dX12_valueNow_79 rfl rfl ?_
      refine m_gr (pc := 80) dX12_valueNow_80 ff_X12_47 rfl o_534 r_534_24 ?_
      refine s_iload_n (pc := 83) (i := 1) dX12_valueNow_83 rfl rfl ?_
      refine m_ia (pc := 84) dX12_valueNow_84 a_545 (vp_in_nI (by omega) (by decide)) ?_
      refine m_nm (v' := V (k + 1)) (by rw [nI_clamp (by omega)]; exact hV (k + 1) (by omega)) ?_
      refine m_s3 (pc := 85) dX12_valueNow_85 lk_X12_274 ok_X12_both rfl rfl (c_bth hc c2 (kt_s ?_))
      refine m_is (pc := 88) dX12_valueNow_88 a_545 (vp_in_nI (by omega) (by decide)) ?_
      rw [nI_clamp (by omega)]
      refine m_inc (pc := 89) (v := 1) dX12_valueNow_89 rfl rfl ?_
      dsimp only [List.set, List.filter]
      rw [nI_1]
      refine s_goto (pc := 92) (tgt := 4) dX12_valueNow_92 rfl ?_
      exact ST (k + 1) _ _ k _ hk2.2 (by omega) (up_18 hV) (fun I' z => by have h := hq I' z; simp only [ev] at h; rw [if_neg (by omega), if_neg c2] at h; exact h)
end S
