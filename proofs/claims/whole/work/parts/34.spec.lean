section S
variable {g : aG} {d : Nat} {I : Nat → Nat → Int32} {J : Nat → Nat → Int64} {n w : Nat} {Q : aO → aS → Prop}
variable {t : Nat → Nat} {N a wf wt : Nat} {fk fp bk op : Int32} {σ : aS}
/-- a number read at p: its value below hi and the next place, or the fault -/
def nR (t : Nat → Nat) (N p lo hi : Nat) : Sum (Nat × Nat) (Nat × Nat) :=
  if p < N ∧ dg (t p) = true then (if lo ≤ dv t p (dE t N p - p) ∧ dv t p (dE t N p - p) < hi then .inr (dv t p (dE t N p - p), sk t N (dE t N p)) else .inl (2, p)) else .inl (1, p)
/-- a sign read at p -/
def sR (t : Nat → Nat) (N p c : Nat) : Sum (Nat × Nat) Nat := if p < N ∧ t p = c then .inr (sk t N (p + 1)) else .inl (1, p)
/-- whether text j is the word at p -/
def wB (t : Nat → Nat) (N p j : Nat) : Bool := (wE t N p - p == sl j) && (List.range (sl j)).all (fun i => t (p + i) == sc j i)
theorem wB_m {p j : Nat} : wB t N p j = true ↔ wm t p (wE t N p) j := by
  unfold wB wm
  simp only [Bool.and_eq_true, beq_iff_eq, List.all_eq_true, List.mem_range]
theorem wB_f {p j : Nat} : wB t N p j = false ↔ ¬ wm t p (wE t N p) j := by rw [← wB_m]; cases wB t N p j <;> simp
theorem lo_k {m : Nat} (h : m ≤ 99999) : ∀ v, v ≤ 99999 → (nI v < nI m ↔ v < m) := fun v hv => by
  constructor
  · intro h1
    by_cases h2 : v < m
    · exact h2
    · exact absurd h1 (nI_nlt (by omega) (by omega))
  · intro h1; exact nI_lt h1 (by omega)
theorem hi_s {m : Nat} (h : m ≤ 99999) : ∀ v, v ≤ 99999 → (nI v ≤ nI m - 1 ↔ v < m) := fun v hv => by
  by_cases h0 : m = 0
  · subst h0
    constructor
    · intro h1
      exfalso
      have h2 : nI v < 0 := Int32.lt_of_le_of_lt h1 (by decide)
      exact absurd h2 (nI_pos (by omega))
    · intro h1; omega
  · rw [show (1 : Int32) = nI 1 from rfl, pk_sub (by omega), nI_leI (by omega) (by omega)]; omega
theorem c_nn {lo1 hi1 : Nat} {lo hi : Int32} (hx : tx I t N) (ha : a ≤ N) (hlo : lo = nI lo1) (hhi : hi = nI hi1 - 1) (hm : lo1 ≤ 10000 ∧ hi1 ≤ 10000)
    (hb : ∀ e a', nR t N a lo1 hi1 = .inl e → Q (.inl (some (.int (-1)))) (Z (tp I a' wf wt (nI e.1) (nI e.2)) J n w))
    (hg : ∀ v p, nR t N a lo1 hi1 = .inr (v, p) → lo1 ≤ v → v < hi1 → p ≤ N → Q (.inl (some (.int (nI v)))) (Z (tp I p wf wt fk fp) J n w)) : Cn g (d + 1) mX10_needNumber [.ref 2, .int lo, .int hi] (Z (tp I a wf wt fk fp) J n w) Q := by
  subst hlo; subst hhi
  refine c_X10_needNumber hx ha (lo_k (by omega)) (hi_s (by omega)) ⟨by omega, by omega⟩ (fun h => ?_) (fun h1 h2 h3 => ?_) (fun h1 h2 h3 h4 => ?_)
  · exact hb (1, a) a (by unfold nR; rw [if_neg]; rintro ⟨q1, q2⟩; rcases h with h | h; omega; rw [h] at q2; cases q2)
  · exact hb (2, a) _ (by unfold nR; rw [if_pos ⟨h1, h2⟩, if_neg (by omega)])
  · exact hg _ _ (by unfold nR; rw [if_pos ⟨h1, h2⟩, if_pos ⟨h3, h4⟩]) h3 h4 (sk_le (dE_le ha))
theorem c_rn {lo1 hi1 : Nat} {lo hi : Int32} (hm : mx I t N) (ha : a ≤ N) (hlo : lo = nI lo1) (hhi : hi = nI hi1 - 1) (hmm : lo1 ≤ 10000 ∧ hi1 ≤ 10000)
    (hb : ∀ e a', nR t N (sk t N a) lo1 hi1 = .inl e → a' ≤ N → e.2 ≤ 600 → Q (.inl (some (.int 0))) (Z (mp I a' (nI e.2) (nI e.1) op) J n w))
    (hg : ∀ v a', nR t N (sk t N a) lo1 hi1 = .inr (v, sk t N a') → lo1 ≤ v → v < hi1 → a' ≤ N → Q (.inl (some (.int (nI v)))) (Z (mp I a' (-1) bk op) J n w)) : Cn g (d + 1) mX12_readNumber [.ref 534, .int lo, .int hi] (Z (mp I a (-1) bk op) J n w) Q := by
  subst hlo; subst hhi
  have hs := sk_le (t := t) ha
  have hN := hm.1
  refine c_X12_readNumber hm ha rfl (lo_k (by omega)) (hi_s (by omega)) hmm (fun h => ?_) (fun h1 h2 h3 => ?_) (fun h1 h2 h3 h4 => ?_)
  · exact hb (1, sk t N a) _ (by unfold nR; rw [if_neg]; rintro ⟨q1, q2⟩; rcases h with h | h; omega; rw [h] at q2; cases q2) hs (by omega)
  · exact hb (2, sk t N a) _ (by unfold nR; rw [if_pos ⟨h1, h2⟩, if_neg (by omega)]) (dE_le hs) (by omega)
  · exact hg _ _ (by unfold nR; rw [if_pos ⟨h1, h2⟩, if_pos ⟨h3, h4⟩]) h3 h4 (dE_le hs)
theorem c_ns {c : Nat} {ci : Int32} (hx : tx I t N) (ha : a ≤ N) (hc : c < 128) (hci : ci = nI c) (hg : ∀ p, sR t N a c = .inr p → p ≤ N → a < p → Q (.inl (some (.int 1))) (Z (tp I p wf wt fk fp) J n w)) (hb : ∀ e, sR t N a c = .inl e → Q (.inl (some (.int 0))) (Z (tp I a wf wt (nI e.1) (nI e.2)) J n w)) : Cn g (d + 1) mX10_needSign [.ref 2, .int ci] (Z (tp I a wf wt fk fp) J n w) Q := by
  subst hci
  refine c_X10_needSign hx ha hc (fun h1 h2 => hg _ (by unfold sR; rw [if_pos ⟨h1, h2⟩]) (sk_le (by omega)) (by have := sk_ge (t := t) (N := N) (a := a + 1); omega)) (fun h => hb (1, a) (by unfold sR; rw [if_neg]; rintro ⟨q1, q2⟩; rcases h with h | h; omega; exact h q2))
theorem c_sg {c : Nat} {ci : Int32} (hm : mx I t N) (ha : a ≤ N) (hc : c < 256) (hc0 : 0 < c) (hci : ci = nI c) (hg : ∀ a', sR t N (sk t N a) c = .inr (sk t N a') → a' ≤ N → sk t N a < a' → Q (.inl none) (Z (mp I a' (-1) bk op) J n w)) (hb : ∀ e, sR t N (sk t N a) c = .inl e → sk t N a ≤ N → e.2 ≤ 600 → Q (.inl none) (Z (mp I (sk t N a) (nI e.2) (nI e.1) op) J n w)) : Cn g (d + 1) mX12_sign [.ref 534, .int ci] (Z (mp I a (-1) bk op) J n w) Q := by
  subst hci
  have hN := hm.1
  have hs := sk_le (t := t) ha
  refine c_X12_sign hm ha hc hc0 rfl (fun h1 h2 => hg _ (by unfold sR; rw [if_pos ⟨h1, h2⟩]) (by omega) (by omega)) (fun h => hb (1, sk t N a) (by unfold sR; rw [if_neg]; rintro ⟨q1, q2⟩; rcases h with h | h; omega; exact h q2) hs (by simp only []; omega))
theorem wcd_0 {t u : Nat → Nat} {p q : Nat} : ∀ m k, (∀ i, i < m → 1 ≤ t (p + i) - 96 ∧ t (p + i) - 96 < 32) → (∀ i, i < k → 1 ≤ u (q + i) - 96 ∧ u (q + i) - 96 < 32) → wcd t p m = wcd u q k → m = k ∧ ∀ i, i < m → t (p + i) = u (q + i)
  | 0, 0, _, _, _ => ⟨rfl, fun i hi => by omega⟩
  | 0, k + 1, _, h2, e => by have := h2 k (by omega); simp only [wcd] at e; omega
  | m + 1, 0, h1, _, e => by have := h1 m (by omega); simp only [wcd] at e; omega
  | m + 1, k + 1, h1, h2, e => by
    have q1 := h1 m (by omega)
    have q2 := h2 k (by omega)
    simp only [wcd] at e
    obtain ⟨e1, e2⟩ := wcd_0 m k (fun i hi => h1 i (by omega)) (fun i hi => h2 i (by omega)) (by omega)
    subst e1
    refine ⟨rfl, fun i hi => ?_⟩
    by_cases hh : i = m
    · subst hh; omega
    · exact e2 i (by omega)
/-- text j as the model's number -/
def oc (j : Nat) : Int32 := wv (sc j) 0 (sl j)
theorem wv_oc {s j : Nat} (hs : s ≤ N) (hj : j < 18) (hl : sl j ≤ 6) : wv t s (wE t N s - s) = oc j ↔ wm t s (wE t N s) j := by
  have hb := sl_b j hj
  have hc := sc_b j hj
  have hg := wE_ge (t := t) (N := N) (a := s)
  have hd : ∀ i, i < wE t N s - s → 1 ≤ t (s + i) - 96 ∧ t (s + i) - 96 < 32 := fun i hi => by have := wE_sm (t := t) (N := N) (s := s) (i := s + i) (by omega) (by omega); omega
  have hd2 : ∀ i, i < sl j → 1 ≤ sc j (0 + i) - 96 ∧ sc j (0 + i) - 96 < 32 := fun i hi => by rw [Nat.zero_add]; have := hc i hi; omega
  have hb2 := wcd_b (t := sc j) (p := 0) hl (fun i hi => (hd2 i hi).2)
  unfold oc wv wm
  rw [if_pos hl]
  by_cases h6 : wE t N s - s ≤ 6
  · rw [if_pos h6, nI_eq (by have := wcd_b h6 (fun i hi => (hd i hi).2); omega) (by omega)]
    constructor
    · intro e
      obtain ⟨e1, e2⟩ := wcd_0 _ _ hd hd2 e
      exact ⟨e1, fun i hi => by have := e2 i (by omega); rwa [Nat.zero_add] at this⟩
    · rintro ⟨e1, e2⟩
      have hh : ∀ k, k ≤ sl j → wcd t s k = wcd (sc j) 0 k := fun k => by
        induction k with
        | zero => intro _; rfl
        | succ k ih => intro hk; simp only [wcd]; rw [ih (by omega), e2 k (by omega), Nat.zero_add]
      rw [e1]; exact hh _ (Nat.le_refl _)
  · rw [if_neg h6]
    constructor
    · intro e
      exfalso
      have : wcd (sc j) 0 (sl j) = 0 := ((nI_eq (a := 0) (by omega) (by omega)).mp e).symm
      obtain ⟨k, hk⟩ : ∃ k, sl j = k + 1 := ⟨sl j - 1, by omega⟩
      rw [hk] at this
      have q := hd2 k (by omega)
      simp only [wcd] at this
      omega
    · rintro ⟨e1, _⟩; omega
theorem oc_b {j : Nat} (hj : j < 18) (hl : sl j ≤ 6) : ¬ oc j < 0 := by
  have hc := sc_b j hj
  unfold oc wv
  rw [if_pos hl]
  exact nI_pos (by have := wcd_b (t := sc j) (p := 0) hl (fun i hi => by rw [Nat.zero_add]; have := hc i hi; omega); omega)
/-- different texts, different words -/
theorem wm_1 {a b i j : Nat} (h1 : wm t a b i) (h2 : wm t a b j) (h : sl i ≠ sl j ∨ ∃ k, k < sl i ∧ k < sl j ∧ sc i k ≠ sc j k) : False := by
  rcases h with h | ⟨k, k1, k2, h⟩
  · exact h (h1.1.symm.trans h2.1)
  · exact h ((h1.2 k k1).symm.trans (h2.2 k k2))
theorem of_lp {j : Nat} (hj : j < 18) (hl : sl j ≤ 6) (hq : Q (.inl (some (.int (oc j)))) σ) :
    ∀ f i, i ≤ sl j → sl j - i = f → Rn g (d + 4) mX12_of 4 [.ref (1000000 + 2 * j), .int (wv (sc j) 0 (i - 0)), .int (nI i)] [] [] σ Q := by
  have hb := sl_b j hj
  intro f
  induction f with
  | zero =>
    intro i hi hfi
    have hi2 : i = sl j := by omega
    subst hi2
    refine s_iload_n (pc := 4) (i := 2) dX12_of_4 rfl rfl ?_
    refine s_aload_n (pc := 5) (i := 0) dX12_of_5 rfl rfl ?_
    refine m_v0 (pc := 6) dX12_of_6 lk_X12_122 ok_J0_length_8abf5 (rcS (hj)) rfl rfl (c_J0_length_8abf5 hj (kt_s ?_))
    refine s_icge (pc := 9) (tgt := 31) dX12_of_9 rfl (fun h9 => ?_) (fun h9 => absurd (nI_le (by omega) (by omega)) h9)
    refine s_iload_n (pc := 31) (i := 1) dX12_of_31 rfl rfl ?_
    refine s_ireturn (pc := 32) dX12_of_32 rfl rfl ?_
    exact hq
  | succ f ih =>
    intro i hi hfi
    have hc := sc_b j hj i (by omega)
    refine s_iload_n (pc := 4) (i := 2) dX12_of_4 rfl rfl ?_
    refine s_aload_n (pc := 5) (i := 0) dX12_of_5 rfl rfl ?_
    refine m_v0 (pc := 6) dX12_of_6 lk_X12_122 ok_J0_length_8abf5 (rcS (hj)) rfl rfl (c_J0_length_8abf5 hj (kt_s ?_))
    refine s_icge (pc := 9) (tgt := 31) dX12_of_9 rfl (fun h9 => absurd h9 (nI_ge (by omega) (by omega))) (fun h9 => ?_)
    refine s_iload_n (pc := 12) (i := 1) dX12_of_12 rfl rfl ?_
    refine m_ic (pc := 13) (v := 5) dX12_of_13 rfl ?_
    refine s_ishl (pc := 14) dX12_of_14 ?_
    refine s_aload_n (pc := 15) (i := 0) dX12_of_15 rfl rfl ?_
    refine s_iload_n (pc := 16) (i := 2) dX12_of_16 rfl rfl ?_
    refine m_v1 (pc := 17) dX12_of_17 lk_X12_127 ok_J0_charAt_5068e (rcS (hj)) rfl rfl (c_J0_charAt_5068e hj (by omega) (kt_s ?_))
    refine m_bi (pc := 20) (v := 96) dX12_of_20 rfl ?_
    refine s_isub (pc := 22) dX12_of_22 ?_
    refine s_ior (pc := 23) dX12_of_23 ?_
    refine m_nm (v' := wv (sc j) 0 (i + 1 - 0)) (wv_1 (t := sc j) (s := 0) (k := i) (by omega) (by omega) (fun k hk => by rw [Nat.zero_add]; have := sc_b j hj k (by omega); omega) (by omega)) ?_
    refine s_istore_n (pc := 24) (i := 1) dX12_of_24 rfl (Nat.le_of_ble_eq_true rfl) ?_
    dsimp only [List.set, List.filter]
    refine m_inc (pc := 25) (v := 1) dX12_of_25 rfl rfl ?_
    dsimp only [List.set, List.filter]
    rw [nI_1]
    refine s_goto (pc := 28) (tgt := 4) dX12_of_28 rfl ?_
    exact ih (i + 1) (by omega) (by omega)
theorem c_X12_of {j : Nat} (hj : j < 18) (hl : sl j ≤ 6) (hq : Q (.inl (some (.int (oc j)))) σ) : Cn g (d + 4) mX12_of [.ref (1000000 + 2 * j)] σ Q := by
  show Rn g (d + 4) mX12_of 0 [.ref (1000000 + 2 * j), .retAddr 0, .retAddr 0] [] [] σ Q
  refine m_ic (pc := 0) (v := 0) dX12_of_0 rfl ?_
  refine s_istore_n (pc := 1) (i := 1) dX12_of_1 rfl (Nat.le_of_ble_eq_true rfl) ?_
  dsimp only [List.set, List.filter]
  refine m_ic (pc := 2) (v := 0) dX12_of_2 rfl ?_
  refine s_istore_n (pc := 3) (i := 2) dX12_of_3 rfl (Nat.le_of_ble_eq_true rfl) ?_
  dsimp only [List.set, List.filter]
  exact of_lp hj hl hq (sl j) 0 (by omega) (by omega)
theorem c_of {a j : Nat} (ha : a = 1000000 + 2 * j) (hj : j < 18) (hl : sl j ≤ 6) (hq : Q (.inl (some (.int (oc j)))) σ) : Cn g (d + 4) mX12_of [.ref a] σ Q := by subst ha; exact c_X12_of hj hl hq
theorem wE_no {s : Nat} (hs : s ≤ N) (h : wE t N s < N) : sm (t (wE t N s)) = false := by
  have := rn_no (fun i => sm (t i)) (N - s) s (by unfold wE at h; omega)
  exact this
theorem wE_is {s m : Nat} (hm : ∀ i, i < m → s + i < N ∧ sm (t (s + i)) = true) (he : s + m ≥ N ∨ sm (t (s + m)) = false) : s + m ≤ N → wE t N s = s + m := by
  induction m generalizing s with
  | zero =>
    intro h
    rcases he with he | he
    · exact wE_end (by omega)
    · exact wE_zero he
  | succ m ih =>
    intro h
    have h0 := hm 0 (by omega)
    rw [Nat.add_zero] at h0
    rw [wE_one h0.1 h0.2, ih (s := s + 1) (fun i hi => by have := hm (i + 1) (by omega); rwa [show s + 1 + i = s + (i + 1) by omega]) (by rwa [show s + 1 + m = s + (m + 1) by omega]) (by omega)]
    omega
theorem sm_sc {j i : Nat} (hj : j < 18) (hi : i < sl j) : sm (sc j i) = true := by have := sc_b j hj i hi; simp [sm]; omega
theorem sth_lp (hm : mx I t N) {j : Nat} (hj : j < 18) (hs : sk t N a ≤ N) (ht : wm t (sk t N a) (wE t N (sk t N a)) j → Q (.inl (some (.int 1))) (Z (mp I (sk t N a) (-1) bk op) J n w)) (hf : ¬ wm t (sk t N a) (wE t N (sk t N a)) j → Q (.inl (some (.int 0))) (Z (mp I (sk t N a) (-1) bk op) J n w)) :
    ∀ f i, i ≤ sl j → sl j - i = f → (∀ k, k < i → sk t N a + k < N ∧ t (sk t N a + k) = sc j k) → Rn g (d + 4) mX12_standsHere 7 [.ref 534, .ref (1000000 + 2 * j), .int (nI i)] [] [] (Z (mp I (sk t N a) (-1) bk op) J n w) Q := by
  have hN := hm.1
  have hb := sl_b j hj
  intro f
  induction f with
  | zero =>
    intro i hi hfi hk
    have hi2 : i = sl j := by omega
    subst hi2
    have hle : sk t N a + sl j ≤ N := by have := hk (sl j - 1) (by omega); omega
    have yes : (sk t N a + sl j ≥ N ∨ sm (t (sk t N a + sl j)) = false) → wm t (sk t N a) (wE t N (sk t N a)) j := fun h => by
      rw [wE_is (m := sl j) (fun i hi => ⟨(hk i hi).1, by rw [(hk i hi).2]; exact sm_sc hj hi⟩) h hle]
      exact ⟨by omega, fun i hi => (hk i hi).2⟩
    refine s_iload_n (pc := 7) (i := 2) dX12_standsHere_7 rfl rfl ?_
    refine s_aload_n (pc := 8) (i := 1) dX12_standsHere_8 rfl rfl ?_
    refine m_v0 (pc := 9) dX12_standsHere_9 lk_X12_122 ok_J0_length_8abf5 (rcS (hj)) rfl rfl (c_J0_length_8abf5 hj (kt_s ?_))
    refine s_icge (pc := 12) (tgt := 55) dX12_standsHere_12 rfl (fun h12 => ?_) (fun h12 => absurd (nI_le (by omega) (by omega)) h12)
    refine s_aload_n (pc := 55) (i := 0) dX12_standsHere_55 rfl rfl ?_
    refine m_gi (pc := 56) dX12_standsHere_56 ff_X12_108 rfl o_534 ?_
    refine m_nm (v' := nI (sk t N a)) rfl ?_
    refine s_aload_n (pc := 59) (i := 1) dX12_standsHere_59 rfl rfl ?_
    refine m_v0 (pc := 60) dX12_standsHere_60 lk_X12_122 ok_J0_length_8abf5 (rcS (hj)) rfl rfl (c_J0_length_8abf5 hj (kt_s ?_))
    refine s_iadd (pc := 63) dX12_standsHere_63 ?_
    refine m_nm (v' := nI (sk t N a + sl j)) (nI_add _ _) ?_
    refine s_aload_n (pc := 64) (i := 0) dX12_standsHere_64 rfl rfl ?_
    refine m_gi (pc := 65) dX12_standsHere_65 ff_X12_111 rfl o_534 ?_
    refine m_nm (v' := nI N) (mx_N hm) ?_
    refine s_icge (pc := 68) (tgt := 91) dX12_standsHere_68 rfl (fun h68 => ?_) (fun h68 => ?_)
    · rw [nI_leI (by omega) (by omega)] at h68
      refine m_ic (pc := 91) (v := 1) dX12_standsHere_91 rfl ?_
      refine s_goto (pc := 92) (tgt := 96) dX12_standsHere_92 rfl ?_
      refine s_ireturn (pc := 96) dX12_standsHere_96 rfl rfl ?_
      first | exact ht (yes (Or.inl h68)) | exact ht (yes (Or.inr h)) | exact hf no
    · rw [nI_leI (by omega) (by omega)] at h68
      refine s_aload_n (pc := 71) (i := 0) dX12_standsHere_71 rfl rfl ?_
      refine m_gr (pc := 72) dX12_standsHere_72 ff_X12_20 rfl o_534 r_534_9 ?_
      refine s_aload_n (pc := 75) (i := 0) dX12_standsHere_75 rfl rfl ?_
      refine m_gi (pc := 76) dX12_standsHere_76 ff_X12_108 rfl o_534 ?_
      refine m_nm (v' := nI (sk t N a)) rfl ?_
      refine s_aload_n (pc := 79) (i := 1) dX12_standsHere_79 rfl rfl ?_
      refine m_v0 (pc := 80) dX12_standsHere_80 lk_X12_122 ok_J0_length_8abf5 (rcS (hj)) rfl rfl (c_J0_length_8abf5 hj (kt_s ?_))
      refine s_iadd (pc := 83) dX12_standsHere_83 ?_
      refine m_nm (v' := nI (sk t N a + sl j)) (nI_add _ _) ?_
      refine m_ia (pc := 84) dX12_standsHere_84 a_536 (vp_in_nI (n := sk t N a + sl j) (by omega) (by decide)) ?_
      refine m_nm (v' := nI (t (sk t N a + sl j))) (mx_r hm (by omega)) ?_
      refine m_s1 (pc := 85) dX12_standsHere_85 lk_X12_118 ok_X12_isSmall rfl rfl (c_X12_isSmall (mx_c hm (by omega)) (fun h => kt_s ?_) (fun h => kt_s ?_))
      · have no : ¬ wm t (sk t N a) (wE t N (sk t N a)) j := fun hw => by
          have e := hw.1
          have q := wE_ge (t := t) (N := N) (a := sk t N a)
          have q1 : wE t N (sk t N a) = sk t N a + sl j := by omega
          have q2 := wE_no (t := t) hs (by omega)
          rw [q1] at q2
          rw [q2] at h
          cases h
        refine s_ifne (pc := 88) (tgt := 95) dX12_standsHere_88 rfl (fun h88 => ?_) (fun h88 => absurd h88 (by decide))
        refine m_ic (pc := 95) (v := 0) dX12_standsHere_95 rfl ?_
        refine s_ireturn (pc := 96) dX12_standsHere_96 rfl rfl ?_
        first | exact ht (yes (Or.inl h68)) | exact ht (yes (Or.inr h)) | exact hf no
      · refine s_ifne (pc := 88) (tgt := 95) dX12_standsHere_88 rfl (fun h88 => absurd h88 (by decide)) (fun h88 => ?_)
        refine m_ic (pc := 91) (v := 1) dX12_standsHere_91 rfl ?_
        refine s_goto (pc := 92) (tgt := 96) dX12_standsHere_92 rfl ?_
        refine s_ireturn (pc := 96) dX12_standsHere_96 rfl rfl ?_
        first | exact ht (yes (Or.inl h68)) | exact ht (yes (Or.inr h)) | exact hf no
  | succ f ih =>
    intro i hi hfi hk
    have hc := sc_b j hj i (by omega)
    refine s_iload_n (pc := 7) (i := 2) dX12_standsHere_7 rfl rfl ?_
    refine s_aload_n (pc := 8) (i := 1) dX12_standsHere_8 rfl rfl ?_
    refine m_v0 (pc := 9) dX12_standsHere_9 lk_X12_122 ok_J0_length_8abf5 (rcS (hj)) rfl rfl (c_J0_length_8abf5 hj (kt_s ?_))
    refine s_icge (pc := 12) (tgt := 55) dX12_standsHere_12 rfl (fun h12 => absurd h12 (nI_ge (by omega) (by omega))) (fun h12 => ?_)
    refine s_aload_n (pc := 15) (i := 0) dX12_standsHere_15 rfl rfl ?_
    refine m_gi (pc := 16) dX12_standsHere_16 ff_X12_108 rfl o_534 ?_
    refine m_nm (v' := nI (sk t N a)) rfl ?_
    refine s_iload_n (pc := 19) (i := 2) dX12_standsHere_19 rfl rfl ?_
    refine s_iadd (pc := 20) dX12_standsHere_20 ?_
    refine m_nm (v' := nI (sk t N a + i)) (nI_add _ _) ?_
    refine s_aload_n (pc := 21) (i := 0) dX12_standsHere_21 rfl rfl ?_
    refine m_gi (pc := 22) dX12_standsHere_22 ff_X12_111 rfl o_534 ?_
    refine m_nm (v' := nI N) (mx_N hm) ?_
    refine s_icge (pc := 25) (tgt := 47) dX12_standsHere_25 rfl (fun h25 => ?_) (fun h25 => ?_)
    · rw [nI_leI (by omega) (by omega)] at h25
      refine m_ic (pc := 47) (v := 0) dX12_standsHere_47 rfl ?_
      refine s_ireturn (pc := 48) dX12_standsHere_48 rfl rfl ?_
      refine hf (fun hw => ?_)
      have e := hw.1
      have e2 := hw.2 i (by omega)
      have q := wE_le (t := t) hs
      omega
    · rw [nI_leI (by omega) (by omega)] at h25
      refine s_aload_n (pc := 28) (i := 0) dX12_standsHere_28 rfl rfl ?_
      refine m_gr (pc := 29) dX12_standsHere_29 ff_X12_20 rfl o_534 r_534_9 ?_
      refine s_aload_n (pc := 32) (i := 0) dX12_standsHere_32 rfl rfl ?_
      refine m_gi (pc := 33) dX12_standsHere_33 ff_X12_108 rfl o_534 ?_
      refine m_nm (v' := nI (sk t N a)) rfl ?_
      refine s_iload_n (pc := 36) (i := 2) dX12_standsHere_36 rfl rfl ?_
      refine s_iadd (pc := 37) dX12_standsHere_37 ?_
      refine m_nm (v' := nI (sk t N a + i)) (nI_add _ _) ?_
      refine m_ia (pc := 38) dX12_standsHere_38 a_536 (vp_in_nI (n := sk t N a + i) (by omega) (by decide)) ?_
      refine m_nm (v' := nI (t (sk t N a + i))) (mx_r hm (by omega)) ?_
      refine s_aload_n (pc := 39) (i := 1) dX12_standsHere_39 rfl rfl ?_
      refine s_iload_n (pc := 40) (i := 2) dX12_standsHere_40 rfl rfl ?_
      refine m_v1 (pc := 41) dX12_standsHere_41 lk_X12_127 ok_J0_charAt_5068e (rcS (hj)) rfl rfl (c_J0_charAt_5068e hj (by omega) (kt_s ?_))
      refine s_iceq (pc := 44) (tgt := 49) dX12_standsHere_44 rfl (fun h44 => ?_) (fun h44 => ?_)
      · rw [nI_eq (by have := mx_c hm (i := sk t N a + i) (by omega); omega) (by omega)] at h44
        refine m_inc (pc := 49) (v := 1) dX12_standsHere_49 rfl rfl ?_
        dsimp only [List.set, List.filter]
        rw [nI_1]
        refine s_goto (pc := 52) (tgt := 7) dX12_standsHere_52 rfl ?_
        refine ih (i + 1) (by omega) (by omega) (fun k hk2 => ?_)
        by_cases e2 : k = i
        · subst e2; exact ⟨by omega, h44⟩
        · exact hk k (by omega)
      · rw [nI_eq (by have := mx_c hm (i := sk t N a + i) (by omega); omega) (by omega)] at h44
        refine m_ic (pc := 47) (v := 0) dX12_standsHere_47 rfl ?_
        refine s_ireturn (pc := 48) dX12_standsHere_48 rfl rfl ?_
        refine hf (fun hw => ?_)
        have e := hw.1
        have e2 := hw.2 i (by omega)
        have q := wE_le (t := t) hs
        omega
theorem c_X12_standsHere (hm : mx I t N) (ha : a ≤ N) {j : Nat} (hj : j < 18) (ht : wm t (sk t N a) (wE t N (sk t N a)) j → Q (.inl (some (.int 1))) (Z (mp I (sk t N a) (-1) bk op) J n w)) (hf : ¬ wm t (sk t N a) (wE t N (sk t N a)) j → Q (.inl (some (.int 0))) (Z (mp I (sk t N a) (-1) bk op) J n w)) : Cn g (d + 4) mX12_standsHere [.ref 534, .ref (1000000 + 2 * j)] (Z (mp I a (-1) bk op) J n w) Q := by
  show Rn g (d + 4) mX12_standsHere 0 [.ref 534, .ref (1000000 + 2 * j), .retAddr 0] [] [] (Z (mp I a (-1) bk op) J n w) Q
  refine s_aload_n (pc := 0) (i := 0) dX12_standsHere_0 rfl rfl ?_
  refine m_v0 (pc := 1) dX12_standsHere_1 lk_X12_114 ok_X12_here (rcO o_534 (by decide) rfl) rfl rfl (c_X12_here hm ha (kt_s ?_))
  refine s_pop (pc := 4) dX12_standsHere_4 rfl ?_
  refine m_ic (pc := 5) (v := 0) dX12_standsHere_5 rfl ?_
  refine s_istore_n (pc := 6) (i := 2) dX12_standsHere_6 rfl (Nat.le_of_ble_eq_true rfl) ?_
  dsimp only [List.set, List.filter]
  exact sth_lp hm hj (sk_le ha) ht hf (sl j) 0 (by omega) (by omega) (fun k hk => by omega)
end S
