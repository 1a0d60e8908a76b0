section
variable {N M : Nat} {v : Nat → Nat → Nat} {r : Nat → Int}
/-- the first ones are given so -/
def cK (g : Nat → Nat) (kn : Nat) : Nat → Nat → Prop := fun i y => i < kn → y = g i
/-- what the set t is for b together -/
def tgF (M : Nat) (v : Nat → Nat → Nat) (r : Nat → Int) (b t : Nat) : Nat := if t = 0 then 0 else if (sms t (fun i => v i b) M : Int) ≤ r b then sms t (fun i => v i b) M else 99999
theorem sms_0 {f : Nat → Nat} : sms 0 f M = 0 := by
  rw [sms, fb_sm_cong (g := fun _ => 0) (fun k _ => if_neg (by rw [Nat.zero_testBit]; decide)), fb_sm_const]; rfl
theorem tg_ok {b t : Nat} (h : t = 0 ∨ (sms t (fun i => v i b) M : Int) ≤ r b) : tgF M v r b t = sms t (fun i => v i b) M := by
  unfold tgF
  by_cases z : t = 0
  · rw [if_pos z, z, sms_0]
  · rw [if_neg z, if_pos (by rcases h with y | y
                             · exact absurd y z
                             · exact y)]
theorem tg_at {b t : Nat} (h : tgF M v r b t < 99999) : tgF M v r b t = sms t (fun i => v i b) M ∧ (t = 0 ∨ (sms t (fun i => v i b) M : Int) ≤ r b) := by
  by_cases z : t = 0 ∨ (sms t (fun i => v i b) M : Int) ≤ r b
  · exact ⟨tg_ok z, z⟩
  · unfold tgF at h
    rw [if_neg (fun y => z (Or.inl y)), if_neg (fun y => z (Or.inr y))] at h
    omega
theorem xo_t {s t i : Nat} (ht : ∀ i, t.testBit i = true → s.testBit i = true) : (s ^^^ t).testBit i = true ↔ s.testBit i = true ∧ ¬ t.testBit i = true := by
  rw [Nat.testBit_xor]
  have := ht i
  cases h1 : s.testBit i <;> cases h2 : t.testBit i <;> simp [h1, h2] at this ⊢
variable {C : Nat → Nat → Prop} {b s t x : Nat} {f g : Nat → Nat}
theorem mv_A (ht : ∀ i, t.testBit i = true → s.testBit i = true) (hC : ∀ i, i < M → t.testBit i = true → C i b) (hb : b < N) (hx : mvF N M v r C (b + 1) (s ^^^ t).testBit x) (hl : tgF M v r b t + x < 99999) : ∃ f, feF N M v r C b s.testBit f ∧ coF M v f s.testBit = tgF M v r b t + x := by
  obtain ⟨e0, e1⟩ := tg_at (show tgF M v r b t < 99999 by omega)
  obtain ⟨f, h1, h2⟩ := hx.2.2 (by omega)
  refine ⟨fun i => if t.testBit i = true then b else f i, ?_, ?_⟩
  · intro i hi hs
    by_cases z : t.testBit i = true
    · simp only [if_pos z]
      refine ⟨Nat.le_refl _, hb, ?_, hC i hi z⟩
      have e : ldF M v (fun i => if t.testBit i = true then b else f i) s.testBit b = sms t (fun i => v i b) M := fb_sm_cong fun j hj => by
        by_cases y : t.testBit j = true
        · rw [if_pos y, if_pos ⟨ht j y, if_pos y⟩]
        · rw [if_neg y, if_neg (fun q => by
            have h3 := (h1 j hj ((xo_t ht).mpr ⟨q.1, y⟩)).1
            have h4 : (if t.testBit j = true then b else f j) = b := q.2
            rw [if_neg y] at h4; omega)]
      rw [e]
      rcases e1 with y | y
      · subst y; rw [Nat.zero_testBit] at z; exact absurd z (by decide)
      · exact y
    · simp only [if_neg z]
      have h3 := h1 i hi ((xo_t ht).mpr ⟨hs, z⟩)
      refine ⟨by omega, h3.2.1, ?_, h3.2.2.2⟩
      have e : ldF M v (fun i => if t.testBit i = true then b else f i) s.testBit (f i) = ldF M v f (s ^^^ t).testBit (f i) := fb_sm_cong fun j hj => by
        by_cases y : t.testBit j = true
        · rw [if_neg (fun q => by have h4 : (if t.testBit j = true then b else f j) = f i := q.2; rw [if_pos y] at h4; omega), if_neg (fun q => ((xo_t ht).mp q.1).2 y)]
        · simp only [if_neg y, xo_t ht]
          by_cases a : s.testBit j = true <;> simp [a, y]
      rw [e]; exact h3.2.2.1
  · rw [e0, ← h2]
    unfold coF sms
    rw [← fb_sm_add]
    exact fb_sm_cong fun j _ => by
      by_cases y : t.testBit j = true
      · simp only [if_pos (ht j y), if_pos y]; rw [if_neg (fun q => ((xo_t ht).mp q).2 y)]; rfl
      · simp only [if_neg y, xo_t ht]
        by_cases a : s.testBit j = true <;> simp [a, y]
theorem mv_B (h : feF N M v r C b s.testBit f) (hs : s < 2 ^ M) : ∃ t, t < 2 ^ M ∧ (∀ i, t.testBit i = true → s.testBit i = true) ∧ (∀ i, i < M → s.testBit i = true → (t.testBit i = true ↔ f i = b)) ∧ feF N M v r C (b + 1) (s ^^^ t).testBit f ∧ coF M v f s.testBit = tgF M v r b t + coF M v f (s ^^^ t).testBit := by
  obtain ⟨t, et⟩ : ∃ z, z = bs (fun i => s.testBit i && decide (f i = b)) M := ⟨_, rfl⟩
  have tt : ∀ i, t.testBit i = true ↔ i < M ∧ s.testBit i = true ∧ f i = b := fun i => by
    rw [et, bs_tb]; simp
  have ht : ∀ i, t.testBit i = true → s.testBit i = true := fun i z => ((tt i).mp z).2.1
  refine ⟨t, by rw [et]; exact bs_lt _ _, ht, fun i hi z => ⟨fun y => ((tt i).mp y).2.2, fun y => (tt i).mpr ⟨hi, z, y⟩⟩, ?_, ?_⟩
  · intro i hi z
    obtain ⟨z1, z2⟩ := (xo_t ht).mp z
    have h3 := h i hi z1
    have hne : f i ≠ b := fun y => z2 ((tt i).mpr ⟨hi, z1, y⟩)
    refine ⟨by omega, h3.2.1, ?_, h3.2.2.2⟩
    have e : ldF M v f (s ^^^ t).testBit (f i) = ldF M v f s.testBit (f i) := fb_sm_cong fun j hj => by
      simp only [xo_t ht]
      by_cases a : f j = f i
      · have y : ¬ t.testBit j = true := fun q => hne (a ▸ ((tt j).mp q).2.2)
        by_cases q : s.testBit j = true <;> simp [q, y, a]
      · rw [if_neg (fun q => a q.2), if_neg (fun q => a q.2)]
    rw [e]; exact h3.2.2.1
  · have e : tgF M v r b t = sms t (fun i => v i b) M := tg_ok (by
      by_cases z : t = 0
      · exact Or.inl z
      · right
        obtain ⟨i, hi⟩ : ∃ i, t.testBit i = true := by
          by_cases q : ∃ i, t.testBit i = true
          · exact q
          · exact absurd (Nat.eq_of_testBit_eq (fun i => by
              rw [Nat.zero_testBit]
              cases y : t.testBit i with
              | false => rfl
              | true => exact absurd ⟨i, y⟩ q)) z
        have y := (tt i).mp hi
        have h3 := (h i y.1 y.2.1).2.2.1
        rw [y.2.2] at h3
        have e : ldF M v f s.testBit b = sms t (fun i => v i b) M := fb_sm_cong fun j hj => by
          simp only [tt]
          by_cases a : s.testBit j = true <;> by_cases c : f j = b <;> simp [a, c, hj]
        rw [← e]; exact h3)
    rw [e]
    unfold coF sms
    rw [← fb_sm_add]
    exact fb_sm_cong fun j hj => by
      by_cases y : t.testBit j = true
      · have q := (tt j).mp y
        rw [if_pos q.2.1, if_pos y, if_neg (fun z => ((xo_t ht).mp z).2 y), q.2.2]; rfl
      · simp only [if_neg y, xo_t ht]
        by_cases a : s.testBit j = true <;> simp [a, y]
/-- the step of the table -/
theorem mv_S (hs : s < 2 ^ M) {kn : Nat} (h0 : x ≤ 99999) (h1 : x < 99999 → ∃ f, feF N M v r (cK g kn) b s.testBit f ∧ coF M v f s.testBit = x) (h2 : ∀ t, t < 2 ^ M → (∀ i, t.testBit i = true → s.testBit i = true) → (∀ i, i < M → i < kn → s.testBit i = true → (t.testBit i = true ↔ g i = b)) → ∃ y, mvF N M v r (cK g kn) (b + 1) (s ^^^ t).testBit y ∧ x ≤ tgF M v r b t + y) : mvF N M v r (cK g kn) b s.testBit x := by
  refine ⟨h0, fun f hf => ?_, h1⟩
  obtain ⟨t, t1, t2, t3, t4, t5⟩ := mv_B hf hs
  obtain ⟨y, y1, y2⟩ := h2 t t1 t2 (fun i hi hk z => by
    have q := (hf i hi z).2.2.2 hk
    rw [t3 i hi z, q])
  have := y1.2.1 f t4
  omega
theorem mv_N0 : mvF N M v r C b (0 : Nat).testBit 0 := by
  refine ⟨Nat.zero_le _, fun _ _ => Nat.zero_le _, fun _ => ⟨fun _ => 0, fun i _ h => ?_, ?_⟩⟩
  · rw [Nat.zero_testBit] at h; exact absurd h (by decide)
  · exact sms_0 (f := fun i => v i 0)
theorem mv_N1 (hs : s < 2 ^ M) (h : s ≠ 0) : mvF N M v r C N s.testBit 99999 := by
  refine ⟨Nat.le_refl _, fun f hf => ?_, fun z => absurd z (Nat.lt_irrefl _)⟩
  obtain ⟨i, hi⟩ : ∃ i, s.testBit i = true := by
    by_cases q : ∃ i, s.testBit i = true
    · exact q
    · exact absurd (Nat.eq_of_testBit_eq (fun i => by
        rw [Nat.zero_testBit]
        cases y : s.testBit i with
        | false => rfl
        | true => exact absurd ⟨i, y⟩ q)) h
  have hM : i < M := by
    by_cases q : i < M
    · exact q
    · rw [Nat.testBit_lt_two_pow (Nat.lt_of_lt_of_le hs (Nat.pow_le_pow_right (by omega) (Nat.le_of_not_lt q)))] at hi; exact absurd hi (by decide)
  have := hf i hM hi
  omega
/-- the next part of a set -/
def nxB (s t : Nat) : Bool := !(t &&& s == t) || t == 0 || (Nat.blt ((t - 1) &&& s) t && (((t - 1) &&& s) &&& s == (t - 1) &&& s) && (List.range t).all fun u => !(u &&& s == u) || Nat.ble u ((t - 1) &&& s))
theorem nxB_t : ((List.range 64).all fun s => (List.range 64).all fun t => nxB s t) = true := by decide +kernel
theorem nxt_p {s t : Nat} (hs : s < 64) (ht : t < 64) (h : t &&& s = t) (h0 : 0 < t) : (t - 1) &&& s < t ∧ ((t - 1) &&& s) &&& s = (t - 1) &&& s ∧ ∀ u, u < t → u &&& s = u → u ≤ (t - 1) &&& s := by
  have h1 := List.all_eq_true.mp (List.all_eq_true.mp nxB_t s (List.mem_range.mpr hs)) t (List.mem_range.mpr ht)
  have e0 : (t == 0) = false := by simp; omega
  rw [nxB, h, e0] at h1
  simp only [beq_self_eq_true, Bool.not_true, Bool.false_or, Bool.and_eq_true] at h1
  refine ⟨Nat.le_of_ble_eq_true h1.1.1, by simpa using h1.1.2, fun u hu hs => ?_⟩
  have h2 := List.all_eq_true.mp h1.2 u (List.mem_range.mpr hu)
  rw [hs] at h2
  simp only [beq_self_eq_true, Bool.not_true, Bool.false_or] at h2
  exact Nat.le_of_ble_eq_true h2
theorem sub_a : t &&& s = t ↔ ∀ i, t.testBit i = true → s.testBit i = true := by
  constructor
  · intro h i hi
    rw [← h, Nat.testBit_and] at hi
    exact (Bool.and_eq_true _ _ ▸ hi).2
  · intro h
    apply Nat.eq_of_testBit_eq
    intro i
    rw [Nat.testBit_and]
    have := h i
    cases h1 : s.testBit i <;> cases h2 : t.testBit i <;> simp [h1, h2] at this ⊢
theorem feF_k {lo : Nat} {p : Nat → Bool} : feF N M v r (cK g 0) lo p f ↔ feF N M v r nC lo p f :=
  ⟨fun h i hi hp => ⟨(h i hi hp).1, (h i hi hp).2.1, (h i hi hp).2.2.1, trivial⟩, fun h i hi hp => ⟨(h i hi hp).1, (h i hi hp).2.1, (h i hi hp).2.2.1, fun z => absurd z (Nat.not_lt_zero _)⟩⟩
theorem mvF_k {lo : Nat} {p : Nat → Bool} (h : mvF N M v r (cK g 0) lo p x) : mvF N M v r nC lo p x :=
  ⟨h.1, fun f hf => h.2.1 f (feF_k.mpr hf), fun z => by obtain ⟨f, h1, h2⟩ := h.2.2 z; exact ⟨f, feF_k.mp h1, h2⟩⟩
theorem ful_t {i : Nat} (hi : i < M) : (2 ^ M - 1).testBit i = fr 0 i := by
  rw [Nat.testBit_two_pow_sub_one]; simp [fr, hi]
/-- the table's last value is the search's -/
theorem ros_v (h : mvF N M v r (cK g 0) 0 (2 ^ M - 1).testBit x) : x = roL N v M 0 r :=
  mvF_u (mvF_c (fun i hi => ful_t hi) (mvF_k h)) (roL_mv (Nat.zero_add M))
/-- whether the first ones can be so -/
theorem ros_so {kn : Nat} (hl : roL N v M 0 r < 99999) (h : mvF N M v r (cK g kn) 0 (2 ^ M - 1).testBit x) : x = roL N v M 0 r ↔ ∃ f, feF N M v r nC 0 (fr 0) f ∧ coF M v f (fr 0) = roL N v M 0 r ∧ ∀ i, i < M → i < kn → f i = g i := by
  have hm := roL_mv (N := N) (v := v) (r := r) (Nat.zero_add M)
  have h : mvF N M v r (cK g kn) 0 (fr 0) x := mvF_c (fun i hi => ful_t hi) h
  have key : ∀ f, feF N M v r (cK g kn) 0 (fr 0) f → feF N M v r nC 0 (fr 0) f := fun f hf i hi hp => ⟨(hf i hi hp).1, (hf i hi hp).2.1, (hf i hi hp).2.2.1, trivial⟩
  constructor
  · intro e
    obtain ⟨f, h1, h2⟩ := h.2.2 (by omega)
    exact ⟨f, key f h1, by omega, fun i hi hk => (h1 i hi (fr_t.mpr (Nat.zero_le _))).2.2.2 hk⟩
  · rintro ⟨f, h1, h2, h3⟩
    have e1 := h.2.1 f (fun i hi hp => ⟨(h1 i hi hp).1, (h1 i hi hp).2.1, (h1 i hi hp).2.2.1, fun hk => h3 i hi hk⟩)
    obtain ⟨f', f1, f2⟩ := h.2.2 (by omega)
    have e2 := hm.2.1 f' (key f' f1)
    omega
/-- the first way is found back by back -/
theorem ros_n {i y : Nat} (hl : roL N v M 0 r < 99999) (hi : i < M) (hg : ∀ j, j < i → g j = roA N v M 0 r j) (hy : g i = y) (hlt : y < roA N v M 0 r i) (h : mvF N M v r (cK g (i + 1)) 0 (2 ^ M - 1).testBit x) : x ≠ roL N v M 0 r := fun e => by
  obtain ⟨f, h1, h2, h3⟩ := (ros_so hl h).mp e
  have := roA_lex M 0 r (Nat.zero_add M) hl f h1 h2 i (Nat.zero_le _) hi (fun u _ hu => by rw [h3 u (by omega) (by omega), hg u hu])
  rw [h3 i hi (by omega)] at this; omega
theorem ros_y {i : Nat} (hl : roL N v M 0 r < 99999) (hg : ∀ j, j ≤ i → g j = roA N v M 0 r j) (h : mvF N M v r (cK g (i + 1)) 0 (2 ^ M - 1).testBit x) : x = roL N v M 0 r :=
  (ros_so hl h).mpr ⟨_, (roA_fe M 0 r (Nat.zero_add M) hl).1, (roA_fe M 0 r (Nat.zero_add M) hl).2, fun j _ hk => (hg j (by omega)).symm⟩
theorem roA_lt {i : Nat} (hl : roL N v M 0 r < 99999) (hi : i < M) : roA N v M 0 r i < N := ((roA_fe M 0 r (Nat.zero_add M) hl).1 i hi (fr_t.mpr (Nat.zero_le _))).2.1
end
