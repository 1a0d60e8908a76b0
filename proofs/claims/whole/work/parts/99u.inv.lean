section S
variable {g : aG} {d : Nat} {I : Nat → Nat → Int32} {J : Nat → Nat → Int64} {n w : Nat} {Q : aO → aS → Prop}
variable {S : sD} {D : cD} {cs : List Nat} {I' : Nat → Nat → Int32}
/-- what both sides hold: the tape; the setting, the state, the book; the past and the images; the refusals -/
abbrev gTp := (Nat → Nat) × Nat × Int32
abbrev gSt := cD × List Nat × sD × (Nat → Option Nat) × Nat × Int32
abbrev gPs := Nat × (Nat → sD) × Nat × (Nat → Nat) × (Nat → sD) × (Nat → Nat → sD)
abbrev gX := gTp × gSt × gPs × Int32 × Int32
def tpC (x : gTp) (I : Nat → Nat → Int32) : Prop := tT I x.1 x.2.1 ∧ I 2 7 = x.2.2
def tpM (x : gTp) (I : Nat → Nat → Int32) : Prop := I 534 2 = nI x.2.1 ∧ x.2.1 ≤ 600 ∧ (∀ i, i < x.2.1 → x.1 i < 256 ∧ I 536 i = nI (x.1 i)) ∧ I 534 8 = x.2.2
def sgC (x : gSt) (I : Nat → Nat → Int32) : Prop := Wc I 33 x.1 x.2.1 x.2.2.1 ∧ Bc I 22 x.2.2.2.1 x.2.2.2.2.1 ∧ I 1 16 = x.2.2.2.2.2
def sgM (x : gSt) (I : Nat → Nat → Int32) : Prop := Wn I x.1 x.2.1 x.2.2.1 ∧ I 534 41 = nI x.2.2.2.2.1 ∧ Bm I 553 x.2.2.2.1 ∧ I 534 32 = x.2.2.2.2.2
def psC (x : gPs) (I : Nat → Nat → Int32) : Prop := I 32 2 = nI x.1 ∧ (∀ i, i < x.1 → Sc I (41 + 7 * i) (x.2.1 i)) ∧ I 1 15 = nI x.2.2.1 ∧ ∀ v, v < x.2.2.1 → I (154 + 121 * v) 2 = nI (x.2.2.2.1 v) ∧ Sc I (155 + 121 * v) (x.2.2.2.2.1 v) ∧ ∀ i, i < x.2.2.2.1 v → Sc I (163 + 121 * v + 7 * i) (x.2.2.2.2.2 v i)
def psM (x : gPs) (I : Nat → Nat → Int32) : Prop := I 534 31 = nI x.1 ∧ (∀ i, i < x.1 → Sm (fun k => I 551 (126 * i + k)) (x.2.1 i)) ∧ I 534 50 = nI x.2.2.1 ∧ ∀ v, v < x.2.2.1 → I 559 (2143 * v + 2142) = nI (x.2.2.2.1 v) ∧ Sm (fun k => I 559 (2143 * v + k)) (x.2.2.2.2.1 v) ∧ ∀ i, i < x.2.2.2.1 v → Sm (fun k => I 559 (2143 * v + 126 + (126 * i + k))) (x.2.2.2.2.2 v i)
def ctC (x : Int32 × Int32) (I : Nat → Nat → Int32) : Prop := I 1 17 = x.1 ∧ I 1 18 = x.2
def ctM (x : Int32 × Int32) (I : Nat → Nat → Int32) : Prop := I 535 0 = x.1 ∧ I 535 1 = x.2
def cI (x : gX) (I : Nat → Nat → Int32) : Prop := tpC x.1 I ∧ sgC x.2.1 I ∧ psC x.2.2.1 I ∧ ctC x.2.2.2 I
def mI (x : gX) (I : Nat → Nat → Int32) : Prop := tpM x.1 I ∧ sgM x.2.1 I ∧ psM x.2.2.1 I ∧ ctM x.2.2.2 I
def stO (D : cD) (S : sD) : Prop := sOk D S ∧ sY S ≤ 400
def psO (D : cD) (x : gPs) : Prop := x.1 ≤ 16 ∧ (∀ i, i < x.1 → stO D (x.2.1 i)) ∧ x.2.2.1 ≤ 3 ∧ ∀ v, v < x.2.2.1 → x.2.2.2.1 v ≤ 16 ∧ stO D (x.2.2.2.2.1 v) ∧ ∀ i, i < x.2.2.2.1 v → stO D (x.2.2.2.2.2 v i)
def gOk (x : gX) : Prop := bOk x.2.1.2.2.2.1 ∧ sY x.2.1.2.2.1 ≤ 400 ∧ psO x.2.1.1 x.2.2.1
/-- which cells each of them needs -/
def kT (a j : Nat) : Prop := (a = 2 ∧ (j = 1 ∨ j = 7)) ∨ a = 3
def kG (a j : Nat) : Prop := (3 < a ∧ a < 9) ∨ a = 14 ∨ a = 15 ∨ a = 22 ∨ a = 23 ∨ (32 < a ∧ a < 40) ∨ (a = 1 ∧ j = 16)
def kP (a j : Nat) : Prop := (a = 32 ∧ j = 2) ∨ (40 < a ∧ a < 153) ∨ (153 < a ∧ a < 517) ∨ (a = 1 ∧ j = 15)
def kN (a j : Nat) : Prop := a = 1 ∧ (j = 17 ∨ j = 18)
def mT (a j : Nat) : Prop := (a = 534 ∧ (j = 2 ∨ j = 8)) ∨ a = 536
def mG (a j : Nat) : Prop := a = 539 ∨ a = 540 ∨ a = 543 ∨ a = 544 ∨ a = 549 ∨ a = 553 ∨ (a = 534 ∧ ((17 ≤ j ∧ j ≤ 19) ∨ j = 26 ∨ j = 41 ∨ j = 32))
def mP (a j : Nat) : Prop := (a = 534 ∧ (j = 31 ∨ j = 50)) ∨ a = 551 ∨ a = 559
def mN (a _j : Nat) : Prop := a = 535
theorem tpC_f {x : gTp} (h : tpC x I) (hf : ∀ a j, kT a j → I' a j = I a j) : tpC x I' := ⟨⟨h.1.1, (hf 2 1 (by unfold kT; omega)).trans h.1.2.1, fun i hi => ⟨(h.1.2.2 i hi).1, (hf 3 i (by unfold kT; omega)).trans (h.1.2.2 i hi).2⟩⟩, (hf 2 7 (by unfold kT; omega)).trans h.2⟩
theorem tpM_f {x : gTp} (h : tpM x I) (hf : ∀ a j, mT a j → I' a j = I a j) : tpM x I' := ⟨(hf _ _ (by unfold mT; omega)).trans h.1, h.2.1, fun i hi => ⟨(h.2.2.1 i hi).1, (hf _ _ (by unfold mT; omega)).trans (h.2.2.1 i hi).2⟩, (hf _ _ (by unfold mT; omega)).trans h.2.2.2⟩
theorem Bc_f {B : Nat → Option Nat} {k : Nat} (h : Bc I 22 B k) (hf : ∀ a j, kG a j → I' a j = I a j) : Bc I' 22 B k := ⟨(hf 22 1 (by unfold kG; omega)).trans h.1, fun b hb => (hf 23 b (by unfold kG; omega)).trans (h.2 b hb)⟩
theorem Wc_f (h : Wc I 33 D cs S) (hf : ∀ a j, kG a j → I' a j = I a j) : Wc I' 33 D cs S := ⟨Co_fr h.1 (fun x j _ _ => hf x j (by unfold kG; omega)), h.2.1, Lw_fr h.2.2.1 (fun x j _ _ => hf x j (by unfold kG; omega)), h.2.2.2.1, Sc_fr h.2.2.2.2.1 (fun x j _ _ => hf x j (by unfold kG; omega)), h.2.2.2.2.2⟩
theorem sgC_f {x : gSt} (h : sgC x I) (hf : ∀ a j, kG a j → I' a j = I a j) : sgC x I' := ⟨Wc_f h.1 hf, Bc_f h.2.1 hf, (hf 1 16 (by unfold kG; omega)).trans h.2.2⟩
theorem Wn_f (h : Wn I D cs S) (hf : ∀ a j, mG a j → I' a j = I a j) : Wn I' D cs S := ⟨Mo_fr h.1 (fun x j _ => hf x j (by unfold mG; omega)), h.2.1, Lq_fr h.2.2.1 (fun x j _ => hf x j (by unfold mG; omega)), h.2.2.2.1, Sm_fr h.2.2.2.2.1 (fun j _ => hf 549 j (by unfold mG; omega)), h.2.2.2.2.2⟩
theorem sgM_f {x : gSt} (h : sgM x I) (hf : ∀ a j, mG a j → I' a j = I a j) : sgM x I' := ⟨Wn_f h.1 hf, (hf _ _ (by unfold mG; omega)).trans h.2.1, fun b hb => (hf _ _ (by unfold mG; omega)).trans (h.2.2.1 b hb), (hf _ _ (by unfold mG; omega)).trans h.2.2.2⟩
theorem psC_f {x : gPs} (ho : x.1 ≤ 16 ∧ x.2.2.1 ≤ 3 ∧ ∀ v, v < x.2.2.1 → x.2.2.2.1 v ≤ 16) (h : psC x I) (hf : ∀ a j, kP a j → I' a j = I a j) : psC x I' := by
  obtain ⟨o1, o2, o3⟩ := ho
  refine ⟨(hf 32 2 (by unfold kP; omega)).trans h.1, fun i hi => Sc_fr (h.2.1 i hi) (fun a j _ _ => hf a j (by unfold kP; omega)), (hf 1 15 (by unfold kP; omega)).trans h.2.2.1, fun v hv => ?_⟩
  have h3 := o3 v hv
  exact ⟨(hf _ _ (by unfold kP; omega)).trans (h.2.2.2 v hv).1, Sc_fr (h.2.2.2 v hv).2.1 (fun a j _ _ => hf a j (by unfold kP; omega)), fun i hi => Sc_fr ((h.2.2.2 v hv).2.2 i hi) (fun a j _ _ => hf a j (by unfold kP; omega))⟩
theorem psM_f {x : gPs} (h : psM x I) (hf : ∀ a j, mP a j → I' a j = I a j) : psM x I' := ⟨(hf _ _ (by unfold mP; omega)).trans h.1, fun i hi => Sm_fr (h.2.1 i hi) (fun j _ => hf _ _ (by unfold mP; omega)), (hf _ _ (by unfold mP; omega)).trans h.2.2.1, fun v hv => ⟨(hf _ _ (by unfold mP; omega)).trans (h.2.2.2 v hv).1, Sm_fr (h.2.2.2 v hv).2.1 (fun j _ => hf _ _ (by unfold mP; omega)), fun i hi => Sm_fr ((h.2.2.2 v hv).2.2 i hi) (fun j _ => hf _ _ (by unfold mP; omega))⟩⟩
theorem ctC_f {x : Int32 × Int32} (h : ctC x I) (hf : ∀ a j, kN a j → I' a j = I a j) : ctC x I' := ⟨(hf _ _ (by unfold kN; omega)).trans h.1, (hf _ _ (by unfold kN; omega)).trans h.2⟩
theorem ctM_f {x : Int32 × Int32} (h : ctM x I) (hf : ∀ a j, mN a j → I' a j = I a j) : ctM x I' := ⟨(hf _ _ rfl).trans h.1, (hf _ _ rfl).trans h.2⟩
theorem psO_n {x : gPs} (h : psO D x) : x.1 ≤ 16 ∧ x.2.2.1 ≤ 3 ∧ ∀ v, v < x.2.2.1 → x.2.2.2.1 v ≤ 16 := ⟨h.1, h.2.2.1, fun v hv => (h.2.2.2 v hv).1⟩
theorem cI_f {x : gX} (hx : gOk x) (h : cI x I) (hf : ∀ a j, ¬ kS a j → a < 534 → I' a j = I a j) : cI x I' :=
  ⟨tpC_f h.1 (fun a j z => hf a j (by unfold kT at z; unfold kS; omega) (by unfold kT at z; omega)), sgC_f h.2.1 (fun a j z => hf a j (by unfold kG at z; unfold kS; omega) (by unfold kG at z; omega)), psC_f (psO_n hx.2.2) h.2.2.1 (fun a j z => hf a j (by unfold kP at z; unfold kS; omega) (by unfold kP at z; omega)), ctC_f h.2.2.2 (fun a j z => hf a j (by unfold kN at z; unfold kS; omega) (by unfold kN at z; omega))⟩
theorem mI_f {x : gX} (h : mI x I) (hf : ∀ a j, ¬ mS a j → 533 < a → I' a j = I a j) : mI x I' :=
  ⟨tpM_f h.1 (fun a j z => hf a j (by unfold mT at z; unfold mS; omega) (by unfold mT at z; omega)), sgM_f h.2.1 (fun a j z => hf a j (by unfold mG at z; unfold mS; omega) (by unfold mG at z; omega)), psM_f h.2.2.1 (fun a j z => hf a j (by unfold mP at z; unfold mS; omega) (by unfold mP at z; omega)), ctM_f h.2.2.2 (fun a j z => hf a j (by unfold mN at z; unfold mS; omega) (by unfold mN at z; omega))⟩
/-- the class's side leaves the model's cells, and the other way round -/
def fcl (I I' : Nat → Nat → Int32) : Prop := ∀ a j, 533 < a → I' a j = I a j
def fml (I I' : Nat → Nat → Int32) : Prop := ∀ a j, a < 534 → I' a j = I a j
theorem fcl_kc (h : kc I I') : fcl I I' := fun a j z => h a j (by unfold kS; omega)
theorem fml_km (h : km I I') : fml I I' := fun a j z => h a j (by unfold mS; omega)
theorem mI_c {x : gX} (h : mI x I) (hf : fcl I I') : mI x I' := mI_f h (fun a j _ z => hf a j z)
theorem cI_m {x : gX} (hx : gOk x) (h : cI x I) (hf : fml I I') : cI x I' := cI_f hx h (fun a j _ z => hf a j z)
/-- a call of the class, of the model: they lead to the same -/
def opC (g : aG) (d : Nat) (y : aM) (As : List Value) (x x' : gX) (A : Int32 ⊕ Nat) : Prop := ∀ (I : Nat → Nat → Int32) (J : Nat → Nat → Int64) (n w : Nat) (Q : aO → aS → Prop), cI x I → n + 1 ≤ 600000 ∧ w + 6 ≤ 7000000 → (∀ v I', A = .inl v → cI x' I' → fcl I I' → Q (.inl (some (.int v))) (Z I' J n w)) → (∀ k I', A = .inr k → cI x' I' → fcl I I' → Q (.inr k) (Z I' J (n + 1) (w + 6))) → Cn g d y As (Z I J n w) Q
def opM (g : aG) (d : Nat) (y : aM) (As : List Value) (cd : Nat → Option Int32) (x x' : gX) (A : Int32 ⊕ Nat) : Prop := ∀ (I : Nat → Nat → Int32) (J : Nat → Nat → Int64) (n w : Nat) (Q : aO → aS → Prop), mI x I → (∀ v I', A = .inl v → mI x' I' → fml I I' → I' 534 0 = 0 → Q (.inl (some (.int v))) (Z I' J n w)) → (∀ k I', A = .inr k → mI x' I' → fml I I' → I' 534 0 = (cd k).getD 0 → Q (.inl (some (.int 0))) (Z I' J n w)) → Cn g d y As (Z I J n w) Q
def prS (dc dm : Nat) (yc ym : aM) (Ac Am : List Value) (cd : Nat → Option Int32) (x : gX) : Prop := ∃ (x' : gX) (A : Int32 ⊕ Nat), gOk x' ∧ (∀ k, A = .inr k → ∃ c, cd k = some c ∧ c ≠ 0) ∧ (∀ g d, opC g (d + dc) yc Ac x x' A) ∧ ∀ g d, opM g (d + dm) ym Am cd x x' A
def opCl (g : aG) (d : Nat) (y : aM) (As : List Value) (x x' : gX) (A : Int64 ⊕ Nat) : Prop := ∀ (I : Nat → Nat → Int32) (J : Nat → Nat → Int64) (n w : Nat) (Q : aO → aS → Prop), cI x I → n + 1 ≤ 600000 ∧ w + 6 ≤ 7000000 → (∀ v I', A = .inl v → cI x' I' → fcl I I' → Q (.inl (some (.long v))) (Z I' J n w)) → (∀ k I', A = .inr k → cI x' I' → fcl I I' → Q (.inr k) (Z I' J (n + 1) (w + 6))) → Cn g d y As (Z I J n w) Q
def opMl (g : aG) (d : Nat) (y : aM) (As : List Value) (cd : Nat → Option Int32) (x x' : gX) (A : Int64 ⊕ Nat) : Prop := ∀ (I : Nat → Nat → Int32) (J : Nat → Nat → Int64) (n w : Nat) (Q : aO → aS → Prop), mI x I → (∀ v I' J', A = .inl v → mI x' I' → fml I I' → I' 534 0 = 0 → kj J J' → Q (.inl (some (.long v))) (Z I' J' n w)) → (∀ k I', A = .inr k → mI x' I' → fml I I' → I' 534 0 = (cd k).getD 0 → Q (.inl (some (.long 0))) (Z I' J n w)) → Cn g d y As (Z I J n w) Q
def prL (dc dm : Nat) (yc ym : aM) (Ac Am : List Value) (cd : Nat → Option Int32) (x : gX) : Prop := ∃ (x' : gX) (A : Int64 ⊕ Nat), gOk x' ∧ (∀ k, A = .inr k → ∃ c, cd k = some c ∧ c ≠ 0) ∧ (∀ g d, opCl g (d + dc) yc Ac x x' A) ∧ ∀ g d, opMl g (d + dm) ym Am cd x x' A
/-- one refusal more -/
def bpX (x : gX) (k : Nat) : gX := (x.1, x.2.1, x.2.2.1, if k = 0 then (x.2.2.2.1 + 1, x.2.2.2.2) else (x.2.2.2.1, x.2.2.2.2 + 1))
theorem gOk_b {x : gX} {k : Nat} (h : gOk x) : gOk (bpX x k) := h
theorem cI_b {x : gX} {k : Nat} (hk : k = 0 ∨ k = 1) (hx : gOk x) (h : cI x I) : cI (bpX x k) (up I 1 (17 + k) (I 1 (17 + k) + 1)) := by
  refine ⟨tpC_f h.1 (fun a j z => up_n3 (by unfold kT at z; omega)), sgC_f h.2.1 (fun a j z => up_n3 (by unfold kG at z; omega)), psC_f (psO_n hx.2.2) h.2.2.1 (fun a j z => up_n3 (by unfold kP at z; omega)), ?_⟩
  rcases hk with rfl | rfl
  · exact ⟨up_s.trans (by rw [h.2.2.2.1]; rfl), (up_k (by decide)).trans h.2.2.2.2⟩
  · exact ⟨(up_k (by decide)).trans h.2.2.2.1, up_s.trans (by rw [h.2.2.2.2]; rfl)⟩
theorem mI_b {x : gX} {k : Nat} {c : Int32} (hk : k = 0 ∨ k = 1) (h : mI x I) : mI (bpX x k) (thr I c k) := by
  unfold thr
  refine ⟨tpM_f h.1 (fun a j z => (up_n3 (by unfold mT at z; omega)).trans (up_n3 (by unfold mT at z; omega))), sgM_f h.2.1 (fun a j z => (up_n3 (by unfold mG at z; omega)).trans (up_n3 (by unfold mG at z; omega))), psM_f h.2.2.1 (fun a j z => (up_n3 (by unfold mP at z; omega)).trans (up_n3 (by unfold mP at z; omega))), ?_⟩
  rcases hk with rfl | rfl
  · exact ⟨up_s.trans (by rw [h.2.2.2.1]; rfl), (up_k (by decide)).trans ((up_a (by decide)).trans h.2.2.2.2)⟩
  · exact ⟨(up_k (by decide)).trans ((up_a (by decide)).trans h.2.2.2.1), up_s.trans (by rw [h.2.2.2.2]; rfl)⟩
theorem thr_c {c : Int32} {k : Nat} : thr I c k 534 0 = c := (up_a (by decide)).trans up_s
theorem fml_t {c : Int32} {k : Nat} : fml I (thr I c k) := fun a j z => (up_a (by omega)).trans (up_a (by omega))
theorem fcl_b {k : Nat} {v : Int32} : fcl I (up I 1 (17 + k) v) := fun a j z => up_a (by omega)
def xN (x : Int32) : Nat := x.toNatClampNeg
section
variable {dc dm : Nat} {yc ym : aM} {Ac Am : List Value} {cd : Nat → Option Int32} {x : gX}
theorem ask_ok (v : Int32) (hx : gOk x) (hC : ∀ (g : aG) (d : Nat) (I : Nat → Nat → Int32) (J : Nat → Nat → Int64) (n w : Nat) (Q : aO → aS → Prop), cI x I → n + 1 ≤ 600000 ∧ w + 6 ≤ 7000000 → (∀ I', kc I I' → Q (.inl (some (.int v))) (Z I' J n w)) → Cn g (d + dc) yc Ac (Z I J n w) Q)
    (hM : ∀ (g : aG) (d : Nat) (I : Nat → Nat → Int32) (J : Nat → Nat → Int64) (n w : Nat) (Q : aO → aS → Prop), mI x I → (∀ I', km I I' → I' 534 0 = 0 → Q (.inl (some (.int v))) (Z I' J n w)) → Cn g (d + dm) ym Am (Z I J n w) Q) : prS dc dm yc ym Ac Am cd x :=
  ⟨x, .inl v, hx, fun k e => (by cases e), fun g d I J n w Q hI hn k1 _ => hC g d I J n w Q hI hn (fun I' kk => k1 v I' rfl (cI_f hx hI (fun a j z _ => kk a j z)) (fcl_kc kk)), fun g d I J n w Q hI k1 _ => hM g d I J n w Q hI (fun I' kk h0 => k1 v I' rfl (mI_f hI (fun a j z _ => kk a j z)) (fml_km kk) h0)⟩
theorem ask_no (k : Nat) (c : Int32) (hk : k = 0 ∨ k = 1) (hcd : cd k = some c) (hc0 : c ≠ 0) (hx : gOk x) (hC : ∀ (g : aG) (d : Nat) (I : Nat → Nat → Int32) (J : Nat → Nat → Int64) (n w : Nat) (Q : aO → aS → Prop), cI x I → n + 1 ≤ 600000 ∧ w + 6 ≤ 7000000 → Q (.inr k) (Z (up I 1 (17 + k) (I 1 (17 + k) + 1)) J (n + 1) (w + 6)) → Cn g (d + dc) yc Ac (Z I J n w) Q)
    (hM : ∀ (g : aG) (d : Nat) (I : Nat → Nat → Int32) (J : Nat → Nat → Int64) (n w : Nat) (Q : aO → aS → Prop), mI x I → Q (.inl (some (.int 0))) (Z (thr I c k) J n w) → Cn g (d + dm) ym Am (Z I J n w) Q) : prS dc dm yc ym Ac Am cd x :=
  ⟨bpX x k, .inr k, gOk_b hx, fun k' e => (by cases e; exact ⟨c, hcd, hc0⟩), fun g d I J n w Q hI hn _ k2 => hC g d I J n w Q hI hn (k2 k _ rfl (cI_b hk hx hI) fcl_b), fun g d I J n w Q hI _ k2 => hM g d I J n w Q hI (k2 k _ rfl (mI_b hk hI) fml_t (by rw [thr_c, hcd]; rfl))⟩
end
end S
