section S
variable {g : aG} {d : Nat} {I : Nat → Nat → Int32} {J : Nat → Nat → Int64} {n w : Nat} {Q : aO → aS → Prop}
variable {σ : aS} {S : sD} {D : cD} {cs : List Nat} {a b c k v : Nat}
def dpp : Nat → Nat → Nat → Nat
  | 0, _, j => if j = 0 then 1 else 0
  | n + 1, q, j => dpp n q j * (16 - q) + (if j = 0 then 0 else dpp n q (j - 1) * q)
theorem dpp_1 {n q j : Nat} : dpp (n + 1) q j = dpp n q j * (16 - q) + (if j = 0 then 0 else dpp n q (j - 1) * q) := rfl
def bin : Nat → Nat → Nat
  | _, 0 => 1
  | 0, _ + 1 => 0
  | n + 1, j + 1 => bin n j + bin n (j + 1)
theorem bin_z : ∀ n j, n < j → bin n j = 0
  | 0, 0, h => absurd h (Nat.lt_irrefl _)
  | 0, _ + 1, _ => rfl
  | n + 1, 0, h => absurd h (Nat.not_lt_zero _)
  | n + 1, j + 1, h => by rw [bin, bin_z n j (by omega), bin_z n (j + 1) (by omega)]
theorem bin_0 : ∀ n, bin n 0 = 1
  | 0 => rfl
  | _ + 1 => rfl
theorem bin_c : ∀ n, n < 13 → ∀ j, j < 13 → j ≤ n → bin n j = chs n j := by decide +kernel
theorem dpp_e {q : Nat} : ∀ n j, dpp n q j = bin n j * q ^ j * (16 - q) ^ (n - j)
  | 0, 0 => rfl
  | 0, j + 1 => by rw [bin, Nat.zero_mul, Nat.zero_mul]; rfl
  | n + 1, 0 => by
    rw [dpp_1, if_pos rfl, dpp_e n 0, bin_0, bin_0]
    show 1 * 1 * (16 - q) ^ n * (16 - q) + 0 = 1 * 1 * (16 - q) ^ (n + 1)
    rw [Nat.pow_succ, Nat.mul_assoc (1 * 1), Nat.add_zero]
  | n + 1, j + 1 => by
    rw [dpp_1, if_neg (Nat.succ_ne_zero j), Nat.add_sub_cancel, dpp_e n (j + 1), dpp_e n j, bin, Nat.add_mul, Nat.add_mul, Nat.add_sub_add_right, Nat.add_comm]
    congr 1
    · rw [Nat.pow_succ, Nat.mul_right_comm, Nat.mul_assoc (bin n j)]
    · by_cases h : j + 1 ≤ n
      · rw [show n - j = (n - (j + 1)) + 1 by omega, Nat.mul_assoc (bin n (j + 1) * q ^ (j + 1)), ← Nat.pow_succ]
      · rw [bin_z n (j + 1) (by omega)]; simp
def msS (n q k i : Nat) : Nat := fb_sm (fun j => if k ≤ j then dpp n q j else 0) i
theorem msS_1 {n q k i : Nat} (h : k ≤ i) : msS n q k (i + 1) = msS n q k i + dpp n q i := by show msS n q k i + (if k ≤ i then dpp n q i else 0) = _; rw [if_pos h]
theorem msS_0 {n q k : Nat} : ∀ i, i ≤ k → msS n q k i = 0
  | 0, _ => rfl
  | i + 1, h => by show msS n q k i + (if k ≤ i then dpp n q i else 0) = _; rw [if_neg (by omega), msS_0 i (by omega)]
theorem fb_zs {h : Nat → Nat} {m : Nat} : ∀ f, (∀ i, m ≤ i → i < m + f → h i = 0) → fb_sm h (m + f) = fb_sm h m
  | 0, _ => rfl
  | f + 1, z => by rw [← Nat.add_assoc, fb_sm_succ, z (m + f) (by omega) (by omega), fb_zs f (fun i h1 h2 => z i h1 (by omega)), Nat.add_zero]
theorem ls_eq {n q k : Nat} (hn : n < 13) (hk : k < 14) : msS n q k 14 = lsA n q k := by
  have h1 : msS n q k 14 = msS n q k (n + 1) := by
    have h := fb_zs (h := fun j => if k ≤ j then dpp n q j else 0) (m := n + 1) (14 - (n + 1)) (fun i z1 z2 => by
      show (if k ≤ i then dpp n q i else 0) = 0
      split
      · rw [dpp_e, bin_z n i (by omega)]; simp
      · rfl)
    rw [show n + 1 + (14 - (n + 1)) = 14 by omega] at h; exact h
  have h2 : msS n q k (n + 1) = lsS n q k (n + 1) := fb_sm_cong (fun j hj => by
    show (if k ≤ j then dpp n q j else 0) = if k ≤ j then trm n q j else 0
    rw [dpp_e, bin_c n hn j (by omega) (by omega)]; rfl)
  unfold lsA
  by_cases h : k ≤ n + 1
  · rw [h1, h2, Nat.max_eq_right h]
  · rw [h1, msS_0 (n + 1) (by omega), Nat.max_eq_left (by omega), lsS_0 k (Nat.le_refl _)]
theorem hv2_g : ∀ m s, hv2 m s = (s / Nat.gcd s (2 ^ m), 2 ^ m / Nat.gcd s (2 ^ m))
  | 0, s => by rw [hv2, Nat.pow_zero, Nat.gcd_one_right, Nat.div_one]
  | m + 1, s => by
    rw [hv2]
    by_cases e : s % 2 = 0
    · rw [if_pos e, hv2_g m (s / 2)]
      have h1 : s = 2 * (s / 2) := by omega
      obtain ⟨u, hu⟩ : ∃ u, u = s / 2 := ⟨_, rfl⟩
      rw [← hu] at h1 ⊢
      subst h1
      rw [Nat.pow_succ, Nat.mul_comm (2 ^ m) 2, Nat.gcd_mul_left, Nat.mul_div_mul_left _ _ (by decide), Nat.mul_div_mul_left _ _ (by decide)]
    · rw [if_neg e]
      have h1 : Nat.gcd s (2 ^ (m + 1)) = 1 := Nat.Coprime.pow_right (m + 1) (by
        show Nat.gcd s 2 = 1
        rw [Nat.gcd_comm, Nat.gcd_rec, show s % 2 = 1 by omega, Nat.gcd_one_left])
      rw [h1, Nat.div_one, Nat.div_one]
theorem vLs_e {n k q e : Nat} (hn : n < 13) (hk : k < 14) : vLs n k q e = if e = 0 then lN (msS n q k 14 / Nat.gcd (msS n q k 14) (16 ^ n)) else lN (16 ^ n / Nat.gcd (msS n q k 14) (16 ^ n)) := by
  unfold vLs
  rw [ls_eq hn hk, hv2_g, Nat.pow_mul]
def kj (J J1 : Nat → Nat → Int64) : Prop := ∀ x, x ≠ 558 → J1 x = J x
theorem kj_r : kj J J := fun _ _ => rfl
theorem kj_u {J1 : Nat → Nat → Int64} {j : Nat} {x : Int64} (h : kj J J1) : kj J (upJ J1 558 j x) := fun y hy => (funext fun t => if_neg (fun z => hy z.1)).trans (h y hy)
theorem uJ_s {J1 : Nat → Nat → Int64} {o j : Nat} {x : Int64} : upJ J1 o j x o j = x := if_pos ⟨rfl, rfl⟩
theorem uJ_n {J1 : Nat → Nat → Int64} {o j t : Nat} {x : Int64} (h : t ≠ j) : upJ J1 o j x o t = J1 o t := if_neg (fun z => h z.2)
theorem rdJ {J1 : Nat → Nat → Int64} {x j : Nat} {v : Int64} (h : J1 x j = v) (hj : j < 2 ^ 31) : J1 x (nI j).toNatClampNeg = v := by rw [nI_clamp hj]; exact h
theorem lea_lp {e s t G : Nat} (hs : s < 2 ^ 63) (ht : t < 2 ^ 63) (hG : 0 < G) (he : e < 2) (hq : Q (.inl (some (.long (if e = 0 then lN (s / G) else lN (t / G))))) (Z I J n w)) : ∀ N b, b < N → ∀ a x, Nat.gcd a b = G → a < 2 ^ 63 → b < 2 ^ 63 → Rn g (d + 0) mX12_least 6 [.retAddr 0, .retAddr 0, .retAddr 0, .retAddr 0, .int (nI e), .retAddr 0, .retAddr 0, .retAddr 0, .retAddr 0, .retAddr 0, .retAddr 0] [(7, lN b), (5, lN a), (9, lN x), (0, lN s), (2, lN t)] [] (Z I J n w) Q := by
  intro N
  induction N with
  | zero => intro b hb; exact absurd hb (Nat.not_lt_zero _)
  | succ N ih =>
    intro b hb a x hg ha hb63
    by_cases h0 : b = 0
    · subst h0
      rw [Nat.gcd_zero_right] at hg
      subst hg
      refine s_lload (pc := 6) (i := 7) dX12_least_6 (List.Mem.head _) ?_
      refine m_lc (pc := 8) (v := 0) dX12_least_8 rfl ?_
      refine s_lcmp (pc := 9) dX12_least_9 ?_
      refine s_ifeq (pc := 10) (tgt := 31) dX12_least_10 rfl (fun h10 => ?_) (fun h10 => absurd ((lg_cmp_eq _ _).mpr rfl) h10)
      refine s_iload (pc := 31) (i := 4) dX12_least_31 rfl ?_
      refine s_ifne (pc := 33) (tgt := 40) dX12_least_33 rfl (fun h33 => ?_) (fun h33 => ?_)
      · have h33 : ¬ e = 0 := fun z => h33 ((nI_eq (a := e) (b := 0) (by omega) (by omega)).mpr z)
        refine s_lload_n (pc := 40) (i := 2) dX12_least_40 rfl (List.Mem.tail _ (List.Mem.tail _ (List.Mem.tail _ (List.Mem.tail _ (List.Mem.head _))))) ?_
        refine s_lload (pc := 41) (i := 5) dX12_least_41 (List.Mem.tail _ (List.Mem.head _)) ?_
        refine s_ldiv (pc := 43) dX12_least_43 (lN_n0 hG ha) ?_
        refine m_nl (v' := lN (t / a)) (pk_lDiv ht hG ha) ?_
        refine s_lreturn (pc := 44) dX12_least_44 rfl ?_
        rw [if_neg h33] at hq; exact hq
      · have h33 : e = 0 := (nI_eq (a := e) (b := 0) (by omega) (by omega)).mp h33
        refine s_lload_n (pc := 36) (i := 0) dX12_least_36 rfl (List.Mem.tail _ (List.Mem.tail _ (List.Mem.tail _ (List.Mem.head _)))) ?_
        refine s_goto (pc := 37) (tgt := 41) dX12_least_37 rfl ?_
        refine s_lload (pc := 41) (i := 5) dX12_least_41 (List.Mem.tail _ (List.Mem.head _)) ?_
        refine s_ldiv (pc := 43) dX12_least_43 (lN_n0 hG ha) ?_
        refine m_nl (v' := lN (s / a)) (pk_lDiv hs hG ha) ?_
        refine s_lreturn (pc := 44) dX12_least_44 rfl ?_
        rw [if_pos h33] at hq; exact hq
    · have hm : a % b < b := Nat.mod_lt _ (by omega)
      refine s_lload (pc := 6) (i := 7) dX12_least_6 (List.Mem.head _) ?_
      refine m_lc (pc := 8) (v := 0) dX12_least_8 rfl ?_
      refine s_lcmp (pc := 9) dX12_least_9 ?_
      refine s_ifeq (pc := 10) (tgt := 31) dX12_least_10 rfl (fun h10 => absurd h10 (fun z => h0 ((pk_lEQ (a := b) (b := 0) hb63 (by decide)).mp ((lg_cmp_eq _ _).mp z)))) (fun h10 => ?_)
      refine s_lload (pc := 13) (i := 5) dX12_least_13 (List.Mem.tail _ (List.Mem.head _)) ?_
      refine s_lload (pc := 15) (i := 7) dX12_least_15 (List.Mem.head _) ?_
      refine s_lrem (pc := 17) dX12_least_17 (lN_n0 (by omega) hb63) ?_
      refine m_nl (v' := lN (a % b)) (pk_lRem ha (by omega) hb63) ?_
      refine s_lstore (pc := 18) (i := 9) dX12_least_18 (Nat.le_of_ble_eq_true rfl) ?_
      dsimp only [List.set, List.filter]
      refine s_lload (pc := 20) (i := 7) dX12_least_20 (List.Mem.tail _ (List.Mem.head _)) ?_
      refine s_lstore (pc := 22) (i := 5) dX12_least_22 (Nat.le_of_ble_eq_true rfl) ?_
      dsimp only [List.set, List.filter]
      refine s_lload (pc := 24) (i := 9) dX12_least_24 (List.Mem.tail _ (List.Mem.head _)) ?_
      refine s_lstore (pc := 26) (i := 7) dX12_least_26 (Nat.le_of_ble_eq_true rfl) ?_
      dsimp only [List.set, List.filter]
      refine s_goto (pc := 28) (tgt := 6) dX12_least_28 rfl ?_
      exact ih (a % b) (by omega) b (a % b) (by rw [Nat.gcd_comm, ← Nat.gcd_rec, Nat.gcd_comm]; exact hg) hb63 (by omega)
theorem c_X12_least {e s t : Nat} (hs : s < 2 ^ 63) (ht : t < 2 ^ 63) (ht0 : 0 < t) (he : e < 2) (hq : Q (.inl (some (.long (if e = 0 then lN (s / Nat.gcd s t) else lN (t / Nat.gcd s t))))) (Z I J n w)) : Cn g (d + 0) mX12_least [.long (lN s), .long (lN t), .int (nI e)] (Z I J n w) Q := by
  have hm : s % t < t := Nat.mod_lt _ ht0
  show Rn g (d + 0) mX12_least 0 [.retAddr 0, .retAddr 0, .retAddr 0, .retAddr 0, .int (nI e), .retAddr 0, .retAddr 0, .retAddr 0, .retAddr 0, .retAddr 0, .retAddr 0] [(0, lN s), (2, lN t)] [] (Z I J n w) Q
  refine s_lload_n (pc := 0) (i := 0) dX12_least_0 rfl (List.Mem.head _) ?_
  refine s_lstore (pc := 1) (i := 5) dX12_least_1 (Nat.le_of_ble_eq_true rfl) ?_
  dsimp only [List.set, List.filter]
  refine s_lload_n (pc := 3) (i := 2) dX12_least_3 rfl (List.Mem.tail _ (List.Mem.tail _ (List.Mem.head _))) ?_
  refine s_lstore (pc := 4) (i := 7) dX12_least_4 (Nat.le_of_ble_eq_true rfl) ?_
  dsimp only [List.set, List.filter]
  skip
  refine s_lload (pc := 6) (i := 7) dX12_least_6 (List.Mem.head _) ?_
  refine m_lc (pc := 8) (v := 0) dX12_least_8 rfl ?_
  refine s_lcmp (pc := 9) dX12_least_9 ?_
  refine s_ifeq (pc := 10) (tgt := 31) dX12_least_10 rfl (fun h10 => absurd h10 (fun z => absurd ((pk_lEQ (a := t) (b := 0) ht (by decide)).mp ((lg_cmp_eq _ _).mp z)) (by omega))) (fun h10 => ?_)
  refine s_lload (pc := 13) (i := 5) dX12_least_13 (List.Mem.tail _ (List.Mem.head _)) ?_
  refine s_lload (pc := 15) (i := 7) dX12_least_15 (List.Mem.head _) ?_
  refine s_lrem (pc := 17) dX12_least_17 (lN_n0 ht0 ht) ?_
  refine m_nl (v' := lN (s % t)) (pk_lRem hs ht0 ht) ?_
  refine s_lstore (pc := 18) (i := 9) dX12_least_18 (Nat.le_of_ble_eq_true rfl) ?_
  dsimp only [List.set, List.filter]
  refine s_lload (pc := 20) (i := 7) dX12_least_20 (List.Mem.tail _ (List.Mem.head _)) ?_
  refine s_lstore (pc := 22) (i := 5) dX12_least_22 (Nat.le_of_ble_eq_true rfl) ?_
  dsimp only [List.set, List.filter]
  refine s_lload (pc := 24) (i := 9) dX12_least_24 (List.Mem.tail _ (List.Mem.head _)) ?_
  refine s_lstore (pc := 26) (i := 7) dX12_least_26 (Nat.le_of_ble_eq_true rfl) ?_
  dsimp only [List.set, List.filter]
  refine s_goto (pc := 28) (tgt := 6) dX12_least_28 rfl ?_
  exact lea_lp hs ht (Nat.gcd_pos_of_pos_right _ ht0) he hq (s % t + 1) (s % t) (by omega) t (s % t) (by rw [Nat.gcd_comm, ← Nat.gcd_rec, Nat.gcd_comm]) ht (by omega)
end S
